/-! the makers, run on numbers: what the script holds is not asked -/
def r0 (i : Int) : Int := if i < 0 then 0 else ([10000, 2, 10008, 10001, 10006, 10002, 3, 10008, 10006, 10005, 10006] : List Int).getD i.toNat 0
def r1 (i : Int) : Int := if i = 0 then 10000 else 0
def z0 (f : Int → Int) (L : Int) : ZS := (fun a i => if a = 0 then r0 i else if a = 1 then r1 i else if a = 2 then f i else 0, fun a => if 0 ≤ a ∧ a < 3 then 100 else -1, fun a => if a = 0 then 11 else if a = 1 then 1 else if a = 2 then L else 0, 3, 0)
/-- the same but for what the cell 2 holds -/
def Ag (f : Int → Int) (L : Int) (σ τ : ZS) : Prop := (sN σ = sN τ ∧ sT σ = sT τ) ∧ (∀ a, sK σ a = sK τ a) ∧ (∀ a, a ≠ 2 → sL σ a = sL τ a) ∧ (∀ a i, a ≠ 2 → sM σ a i = sM τ a i) ∧ (sK τ 2 = 100 ∧ 3 ≤ sN τ) ∧ sL σ 2 = L ∧ ∀ i, sM σ 2 i = f i
theorem Ag.st (f : Int → Int) (L : Int) : Ag f L (z0 f L) (z0 (fun _ => 0) 0) := by
  refine ⟨⟨rfl, rfl⟩, fun _ => rfl, fun a h => ?_, fun a i h => ?_, ⟨rfl, Nat.le_refl _⟩, rfl, fun _ => rfl⟩
  · show (if a = 0 then (11 : Int) else if a = 1 then 1 else if a = 2 then L else 0) = (if a = 0 then (11 : Int) else if a = 1 then 1 else if a = 2 then 0 else 0)
    rw [if_neg h, if_neg h]
  · show (if a = 0 then r0 i else if a = 1 then r1 i else if a = 2 then f i else 0) = (if a = 0 then r0 i else if a = 1 then r1 i else if a = 2 then 0 else 0)
    rw [if_neg h, if_neg h]
theorem Ag.n {f : Int → Int} {L : Int} {σ τ : ZS} (h : Ag f L σ τ) : sN σ = sN τ := h.1.1
theorem Ag.mk {f : Int → Int} {L : Int} {σ τ : ZS} (h : Ag f L σ τ) {k len : Int} {dv : Int → Int} {w : Nat} : Ag f L (mkC σ k len dv w) (mkC τ k len dv w) := by
  obtain ⟨⟨a1, a2⟩, b, c, d, ⟨e1, e2⟩, g, i⟩ := h
  refine ⟨⟨by rw [sN_mkC, sN_mkC, a1], by rw [sT_mkC, sT_mkC, a2]⟩, fun a => by rw [sK_mkC, sK_mkC, a1, b], fun a ha => by rw [sL_mkC, sL_mkC, a1, c a ha], fun a j ha => by rw [sM_mkC, sM_mkC, a1, d a j ha], ⟨?_, ?_⟩, ?_, fun j => ?_⟩
  · rw [sK_mkC, if_neg (by omega)]; exact e1
  · rw [sN_mkC]; omega
  · rw [sL_mkC, if_neg (by omega)]; exact g
  · rw [sM_mkC, if_neg (by omega)]; exact i j
theorem Ag.new {f : Int → Int} {L : Int} {σ τ : ZS} (h : Ag f L σ τ) {c : Int} {n : Nat} : Ag f L (znew σ c n) (znew τ c n) := h.mk
theorem Ag.mul {f : Int → Int} {L : Int} {σ τ : ZS} (h : Ag f L σ τ) {m : Int} : Ag f L (zmul σ m) (zmul τ m) := by
  obtain ⟨⟨a1, a2⟩, b, c, d, ⟨e1, e2⟩, g, i⟩ := h
  refine ⟨⟨?_, ?_⟩, fun a => ?_, fun a ha => ?_, fun a j ha => ?_, ⟨?_, ?_⟩, ?_, fun j => ?_⟩
  · show sN σ + 3 = sN τ + 3; rw [a1]
  · show sT σ + (2 + 2 * m.toNat) = sT τ + (2 + 2 * m.toNat); rw [a2]
  · show (if a = (sN σ : Int) then 102 else if a = (sN σ : Int) + 1 ∨ a = (sN σ : Int) + 2 then 100 else sK σ a) = (if a = (sN τ : Int) then 102 else if a = (sN τ : Int) + 1 ∨ a = (sN τ : Int) + 2 then 100 else sK τ a)
    rw [a1, b]
  · show (if a = (sN σ : Int) then 2 else if a = (sN σ : Int) + 1 ∨ a = (sN σ : Int) + 2 then m else sL σ a) = (if a = (sN τ : Int) then 2 else if a = (sN τ : Int) + 1 ∨ a = (sN τ : Int) + 2 then m else sL τ a)
    rw [a1, c a ha]
  · show (if a = (sN σ : Int) then (if j = 0 then (sN σ : Int) + 1 else if j = 1 then (sN σ : Int) + 2 else -1) else if a = (sN σ : Int) + 1 ∨ a = (sN σ : Int) + 2 then 0 else sM σ a j) = (if a = (sN τ : Int) then (if j = 0 then (sN τ : Int) + 1 else if j = 1 then (sN τ : Int) + 2 else -1) else if a = (sN τ : Int) + 1 ∨ a = (sN τ : Int) + 2 then 0 else sM τ a j)
    rw [a1, d a j ha]
  · show (if (2 : Int) = (sN τ : Int) then (102 : Int) else if (2 : Int) = (sN τ : Int) + 1 ∨ (2 : Int) = (sN τ : Int) + 2 then 100 else sK τ 2) = 100
    rw [if_neg (by omega), if_neg (by omega)]; exact e1
  · show 3 ≤ sN τ + 3; omega
  · show (if (2 : Int) = (sN σ : Int) then 2 else if (2 : Int) = (sN σ : Int) + 1 ∨ (2 : Int) = (sN σ : Int) + 2 then m else sL σ 2) = L
    rw [if_neg (by omega), if_neg (by omega)]; exact g
  · show (if (2 : Int) = (sN σ : Int) then (if j = 0 then (sN σ : Int) + 1 else if j = 1 then (sN σ : Int) + 2 else -1) else if (2 : Int) = (sN σ : Int) + 1 ∨ (2 : Int) = (sN σ : Int) + 2 then 0 else sM σ 2 j) = f j
    rw [if_neg (by omega), if_neg (by omega)]; exact i j
theorem Ag.up {f : Int → Int} {L : Int} {σ τ : ZS} (h : Ag f L σ τ) {a i v : Int} (ha : 3 ≤ a) : Ag f L (upM σ a i v) (upM τ a i v) := by
  obtain ⟨a1, b, c, d, e, g, k⟩ := h
  refine ⟨a1, b, c, fun x j hx => by rw [sM_upM, sM_upM, d x j hx], e, g, fun j => ?_⟩
  rw [sM_upM, if_neg (by omega)]; exact k j
def PP (f : Int → Int) (L : Int) (P Q : Option (Int × ZS)) : Prop := ∀ v τ, Q = some (v, τ) → ∃ σ, P = some (v, σ) ∧ Ag f L σ τ
section PPr
variable {f : Int → Int} {L : Int} {σ τ : ZS}
theorem pp_ret (h : Ag f L σ τ) {v : Int} : PP f L (some (v, σ)) (some (v, τ)) := by
  intro w ρ e
  cases e
  exact ⟨σ, rfl, h⟩
theorem pp_none {P : Option (Int × ZS)} : PP f L P none := by
  intro w ρ e
  cases e
theorem pp_if {c : Prop} [Decidable c] {P P' Q Q' : Option (Int × ZS)} (h : PP f L P Q) (k : PP f L P' Q') : PP f L (if c then P else P') (if c then Q else Q') := by
  by_cases hc : c
  · rw [if_pos hc, if_pos hc]; exact h
  · rw [if_neg hc, if_neg hc]; exact k
theorem pp_b {F F' : Option (Int × ZS)} {O O' : Int → ZS → Option (Int × ZS)} (h : PP f L F F') (k : ∀ v s t, Ag f L s t → PP f L (O v s) (O' v t)) : PP f L (zb F O) (zb F' O') := by
  intro w ρ e
  cases hF : F' with
  | none => rw [hF] at e; cases e
  | some r =>
    obtain ⟨x, t⟩ := r
    rw [hF] at e
    obtain ⟨s, e1, e2⟩ := h x t hF
    rw [e1]
    exact k x s t e2 w ρ e
theorem pp_p {c a i v : Int} {O O' : ZS → Option (Int × ZS)} (h : Ag f L σ τ) (k : ∀ s t, Ag f L s t → PP f L (O s) (O' t)) : PP f L ((zp σ c a i v).bind O) ((zp τ c a i v).bind O') := by
  unfold zp
  rw [h.2.1 a]
  by_cases hc : sK τ a = c ∧ 3 ≤ a
  · rw [if_pos hc, if_pos hc]
    exact k _ _ (h.up hc.2)
  · rw [if_neg hc, if_neg hc]
    exact pp_none
theorem pp_na {c n : Int} {O O' : ZS → Option (Int × ZS)} (h : Ag f L σ τ) (k : ∀ s t, Ag f L s t → PP f L (O s) (O' t)) : PP f L ((zna σ c n).bind O) ((zna τ c n).bind O') := by
  unfold zna
  by_cases hc : 0 ≤ n ∧ n ≤ 2000
  · rw [if_pos hc, if_pos hc]
    exact k _ _ h.mk
  · rw [if_neg hc, if_neg hc]
    exact pp_none
theorem pp_g {c a i : Int} {O O' : Int → Option (Int × ZS)} (hc : c ≠ 100) (h : Ag f L σ τ) (k : ∀ v, PP f L (O v) (O' v)) : PP f L ((zg σ c a i).bind O) ((zg τ c a i).bind O') := by
  unfold zg
  rw [h.2.1 a]
  by_cases hk : sK τ a = c
  · rw [if_pos hk, if_pos hk, h.2.2.2.1 a i (by rintro rfl; rw [h.2.2.2.2.1.1] at hk; exact hc hk.symm)]
    exact k _
  · rw [if_neg hk, if_neg hk]
    exact pp_none
theorem pp_al {c a i : Int} {O O' : Int → Option (Int × ZS)} (hc : c ≠ 100) (h : Ag f L σ τ) (k : ∀ v, PP f L (O v) (O' v)) : PP f L ((zal σ c a i).bind O) ((zal τ c a i).bind O') := by
  unfold zal
  rw [h.2.1 a]
  by_cases hk : sK τ a = c
  · have h2 : a ≠ 2 := by rintro rfl; rw [h.2.2.2.2.1.1] at hk; exact hc hk.symm
    rw [h.2.2.2.1 a i h2, h.2.2.1 a h2]
    by_cases hb : sK τ a = c ∧ 0 ≤ i ∧ i < sL τ a
    · rw [if_pos hb]
      exact k _
    · rw [if_neg hb]
      exact pp_none
  · rw [if_neg (c := sK τ a = c ∧ 0 ≤ i ∧ i < sL τ a) (fun q => hk q.1)]
    exact pp_none
theorem pp_as {c a i v : Int} {O O' : ZS → Option (Int × ZS)} (h : Ag f L σ τ) (k : ∀ s t, Ag f L s t → PP f L (O s) (O' t)) : PP f L ((zas σ c a i v).bind O) ((zas τ c a i v).bind O') := by
  unfold zas
  rw [h.2.1 a]
  by_cases h3 : 3 ≤ a
  · rw [h.2.2.1 a (by omega)]
    by_cases hc : sK τ a = c ∧ 3 ≤ a ∧ 0 ≤ i ∧ i < sL τ a
    · rw [if_pos hc, if_pos hc]
      exact k _ _ (h.up hc.2.1)
    · rw [if_neg hc, if_neg hc]
      exact pp_none
  · rw [if_neg (c := sK τ a = c ∧ 3 ≤ a ∧ 0 ≤ i ∧ i < sL τ a) (fun q => h3 q.2.1)]
    exact pp_none
theorem pp_ar {c a i v : Int} {ok : Int → Bool} {O O' : ZS → Option (Int × ZS)} (h : Ag f L σ τ) (k : ∀ s t, Ag f L s t → PP f L (O s) (O' t)) : PP f L ((zar σ c a i ok v).bind O) ((zar τ c a i ok v).bind O') := by
  unfold zar
  rw [h.2.1 a, h.2.1 v]
  by_cases h3 : 3 ≤ a
  · rw [h.2.2.1 a (by omega)]
    by_cases hc : sK τ a = c ∧ 3 ≤ a ∧ 0 ≤ i ∧ i < sL τ a ∧ ok (sK τ v) = true
    · rw [if_pos hc, if_pos hc]
      exact k _ _ (h.up hc.2.1)
    · rw [if_neg hc, if_neg hc]
      exact pp_none
  · rw [if_neg (c := sK τ a = c ∧ 3 ≤ a ∧ 0 ≤ i ∧ i < sL τ a ∧ ok (sK τ v) = true) (fun q => h3 q.2.1)]
    exact pp_none
theorem pl5 (u : Int) : ∀ (n : Nat) (σ τ : ZS) (x : Int), Ag f L σ τ → PP f L (lX5_init_75 u n σ x) (lX5_init_75 u n τ x) := by
  intro n
  induction n with
  | zero => intro σ τ x h; exact pp_none
  | succ n ih =>
    intro σ τ x h
    rw [lX5_init_75, lX5_init_75]
    refine pp_if (pp_ret h) ?_
    refine pp_g (by decide) h fun v => pp_al (by decide) h fun w => pp_as h fun s t h => pp_g (by decide) h fun v => pp_al (by decide) h fun w => pp_as h fun s t h => ?_
    exact ih _ _ _ h
theorem p5 {a : Int} (h : Ag f L σ τ) : PP f L (fX5_init σ a) (fX5_init τ a) := by
  rw [fX5_init, fX5_init]
  simp only [h.n]
  refine pp_if pp_none ?_
  refine pp_p h.mul fun s t h => ?_
  simp only [h.n]
  refine pp_p h.mul fun s t h => ?_
  simp only [h.n]
  refine pp_p h.mul fun s t h => ?_
  simp only [h.n]
  repeat (first
    | ((with_reducible refine pp_p ?_ ?_); (· first | assumption | exact Ag.mul (by assumption) | exact Ag.new (by assumption)); (intro s t h); (try simp only [h.n]))
    | ((with_reducible refine pp_na ?_ ?_); (· first | assumption | exact Ag.mul (by assumption) | exact Ag.new (by assumption)); (intro s t h); (try simp only [h.n]))
    | ((with_reducible refine pp_as ?_ ?_); (· first | assumption | exact Ag.mul (by assumption) | exact Ag.new (by assumption)); (intro s t h); (try simp only [h.n]))
    | ((with_reducible refine pp_ar ?_ ?_); (· first | assumption | exact Ag.mul (by assumption) | exact Ag.new (by assumption)); (intro s t h); (try simp only [h.n]))
    | ((with_reducible refine pp_g ?_ ?_ ?_); (· decide); (· first | assumption | exact Ag.mul (by assumption) | exact Ag.new (by assumption)); (intro v))
    | ((with_reducible refine pp_if pp_none ?_))
    | ((with_reducible refine pp_if (pp_ret ?_) ?_); (· assumption))
    | with_reducible exact pp_ret (by assumption)
    | ((with_reducible refine pp_b ?_ ?_); (· first | exact p5 (Ag.new (by assumption)) | exact p2 (Ag.new (by assumption)) | exact p4 (Ag.new (by assumption)) | exact p8 (Ag.new (by assumption)) | exact p6 (Ag.new (by assumption))); (intro v s t h); (try simp only [h.n])))
  exact pl5 _ _ _ _ _ h
theorem p2 {a : Int} (h : Ag f L σ τ) : PP f L (fX2_init σ a) (fX2_init τ a) := by
  rw [fX2_init, fX2_init]
  simp only [h.n]
  repeat (first
    | ((with_reducible refine pp_p ?_ ?_); (· first | assumption | exact Ag.mul (by assumption) | exact Ag.new (by assumption)); (intro s t h); (try simp only [h.n]))
    | ((with_reducible refine pp_na ?_ ?_); (· first | assumption | exact Ag.mul (by assumption) | exact Ag.new (by assumption)); (intro s t h); (try simp only [h.n]))
    | ((with_reducible refine pp_as ?_ ?_); (· first | assumption | exact Ag.mul (by assumption) | exact Ag.new (by assumption)); (intro s t h); (try simp only [h.n]))
    | ((with_reducible refine pp_ar ?_ ?_); (· first | assumption | exact Ag.mul (by assumption) | exact Ag.new (by assumption)); (intro s t h); (try simp only [h.n]))
    | ((with_reducible refine pp_g ?_ ?_ ?_); (· decide); (· first | assumption | exact Ag.mul (by assumption) | exact Ag.new (by assumption)); (intro v))
    | ((with_reducible refine pp_if pp_none ?_))
    | ((with_reducible refine pp_if (pp_ret ?_) ?_); (· assumption))
    | with_reducible exact pp_ret (by assumption)
    | ((with_reducible refine pp_b ?_ ?_); (· first | exact p5 (Ag.new (by assumption)) | exact p2 (Ag.new (by assumption)) | exact p4 (Ag.new (by assumption)) | exact p8 (Ag.new (by assumption)) | exact p6 (Ag.new (by assumption))); (intro v s t h); (try simp only [h.n])))
theorem p4 {a : Int} (h : Ag f L σ τ) : PP f L (fX4_init σ a) (fX4_init τ a) := by
  rw [fX4_init, fX4_init]
  simp only [h.n]
  repeat (first
    | ((with_reducible refine pp_p ?_ ?_); (· first | assumption | exact Ag.mul (by assumption) | exact Ag.new (by assumption)); (intro s t h); (try simp only [h.n]))
    | ((with_reducible refine pp_na ?_ ?_); (· first | assumption | exact Ag.mul (by assumption) | exact Ag.new (by assumption)); (intro s t h); (try simp only [h.n]))
    | ((with_reducible refine pp_as ?_ ?_); (· first | assumption | exact Ag.mul (by assumption) | exact Ag.new (by assumption)); (intro s t h); (try simp only [h.n]))
    | ((with_reducible refine pp_ar ?_ ?_); (· first | assumption | exact Ag.mul (by assumption) | exact Ag.new (by assumption)); (intro s t h); (try simp only [h.n]))
    | ((with_reducible refine pp_g ?_ ?_ ?_); (· decide); (· first | assumption | exact Ag.mul (by assumption) | exact Ag.new (by assumption)); (intro v))
    | ((with_reducible refine pp_if pp_none ?_))
    | ((with_reducible refine pp_if (pp_ret ?_) ?_); (· assumption))
    | with_reducible exact pp_ret (by assumption)
    | ((with_reducible refine pp_b ?_ ?_); (· first | exact p5 (Ag.new (by assumption)) | exact p2 (Ag.new (by assumption)) | exact p4 (Ag.new (by assumption)) | exact p8 (Ag.new (by assumption)) | exact p6 (Ag.new (by assumption))); (intro v s t h); (try simp only [h.n])))
theorem p8 {a b c : Int} (h : Ag f L σ τ) : PP f L (fX8_init σ a b c) (fX8_init τ a b c) := by
  rw [fX8_init, fX8_init]
  repeat (first
    | ((with_reducible refine pp_p ?_ ?_); (· first | assumption | exact Ag.mul (by assumption) | exact Ag.new (by assumption)); (intro s t h); (try simp only [h.n]))
    | ((with_reducible refine pp_na ?_ ?_); (· first | assumption | exact Ag.mul (by assumption) | exact Ag.new (by assumption)); (intro s t h); (try simp only [h.n]))
    | ((with_reducible refine pp_as ?_ ?_); (· first | assumption | exact Ag.mul (by assumption) | exact Ag.new (by assumption)); (intro s t h); (try simp only [h.n]))
    | ((with_reducible refine pp_ar ?_ ?_); (· first | assumption | exact Ag.mul (by assumption) | exact Ag.new (by assumption)); (intro s t h); (try simp only [h.n]))
    | ((with_reducible refine pp_g ?_ ?_ ?_); (· decide); (· first | assumption | exact Ag.mul (by assumption) | exact Ag.new (by assumption)); (intro v))
    | ((with_reducible refine pp_if pp_none ?_))
    | ((with_reducible refine pp_if (pp_ret ?_) ?_); (· assumption))
    | with_reducible exact pp_ret (by assumption)
    | ((with_reducible refine pp_b ?_ ?_); (· first | exact p5 (Ag.new (by assumption)) | exact p2 (Ag.new (by assumption)) | exact p4 (Ag.new (by assumption)) | exact p8 (Ag.new (by assumption)) | exact p6 (Ag.new (by assumption))); (intro v s t h); (try simp only [h.n])))
theorem p6 {a : Int} (h : Ag f L σ τ) : PP f L (fX6_init σ a) (fX6_init τ a) := by
  rw [fX6_init, fX6_init]
  simp only [h.n]
  repeat (first
    | ((with_reducible refine pp_p ?_ ?_); (· first | assumption | exact Ag.mul (by assumption) | exact Ag.new (by assumption)); (intro s t h); (try simp only [h.n]))
    | ((with_reducible refine pp_na ?_ ?_); (· first | assumption | exact Ag.mul (by assumption) | exact Ag.new (by assumption)); (intro s t h); (try simp only [h.n]))
    | ((with_reducible refine pp_as ?_ ?_); (· first | assumption | exact Ag.mul (by assumption) | exact Ag.new (by assumption)); (intro s t h); (try simp only [h.n]))
    | ((with_reducible refine pp_ar ?_ ?_); (· first | assumption | exact Ag.mul (by assumption) | exact Ag.new (by assumption)); (intro s t h); (try simp only [h.n]))
    | ((with_reducible refine pp_g ?_ ?_ ?_); (· decide); (· first | assumption | exact Ag.mul (by assumption) | exact Ag.new (by assumption)); (intro v))
    | ((with_reducible refine pp_if pp_none ?_))
    | ((with_reducible refine pp_if (pp_ret ?_) ?_); (· assumption))
    | with_reducible exact pp_ret (by assumption)
    | ((with_reducible refine pp_b ?_ ?_); (· first | exact p5 (Ag.new (by assumption)) | exact p2 (Ag.new (by assumption)) | exact p4 (Ag.new (by assumption)) | exact p8 (Ag.new (by assumption)) | exact p6 (Ag.new (by assumption))); (intro v s t h); (try simp only [h.n])))
theorem pl11 (u : Int) : ∀ (n : Nat) (σ τ : ZS) (x : Int), Ag f L σ τ → PP f L (lX11_init_148 u n σ x) (lX11_init_148 u n τ x) := by
  intro n
  induction n with
  | zero => intro σ τ x h; exact pp_none
  | succ n ih =>
    intro σ τ x h
    rw [lX11_init_148, lX11_init_148]
    simp only [h.n]
    repeat (first
    | ((with_reducible refine pp_p ?_ ?_); (· first | assumption | exact Ag.mul (by assumption) | exact Ag.new (by assumption)); (intro s t h); (try simp only [h.n]))
    | ((with_reducible refine pp_na ?_ ?_); (· first | assumption | exact Ag.mul (by assumption) | exact Ag.new (by assumption)); (intro s t h); (try simp only [h.n]))
    | ((with_reducible refine pp_as ?_ ?_); (· first | assumption | exact Ag.mul (by assumption) | exact Ag.new (by assumption)); (intro s t h); (try simp only [h.n]))
    | ((with_reducible refine pp_ar ?_ ?_); (· first | assumption | exact Ag.mul (by assumption) | exact Ag.new (by assumption)); (intro s t h); (try simp only [h.n]))
    | ((with_reducible refine pp_g ?_ ?_ ?_); (· decide); (· first | assumption | exact Ag.mul (by assumption) | exact Ag.new (by assumption)); (intro v))
    | ((with_reducible refine pp_if pp_none ?_))
    | ((with_reducible refine pp_if (pp_ret ?_) ?_); (· assumption))
    | with_reducible exact pp_ret (by assumption)
    | ((with_reducible refine pp_b ?_ ?_); (· first | exact p5 (Ag.new (by assumption)) | exact p2 (Ag.new (by assumption)) | exact p4 (Ag.new (by assumption)) | exact p8 (Ag.new (by assumption)) | exact p6 (Ag.new (by assumption))); (intro v s t h); (try simp only [h.n])))
    exact ih _ _ _ ‹_›
theorem p11 {a : Int} (h : Ag f L σ τ) : PP f L (fX11_init σ a) (fX11_init τ a) := by
  rw [fX11_init, fX11_init]
  simp only [h.n]
  repeat (first
    | ((with_reducible refine pp_p ?_ ?_); (· first | assumption | exact Ag.mul (by assumption) | exact Ag.new (by assumption)); (intro s t h); (try simp only [h.n]))
    | ((with_reducible refine pp_na ?_ ?_); (· first | assumption | exact Ag.mul (by assumption) | exact Ag.new (by assumption)); (intro s t h); (try simp only [h.n]))
    | ((with_reducible refine pp_as ?_ ?_); (· first | assumption | exact Ag.mul (by assumption) | exact Ag.new (by assumption)); (intro s t h); (try simp only [h.n]))
    | ((with_reducible refine pp_ar ?_ ?_); (· first | assumption | exact Ag.mul (by assumption) | exact Ag.new (by assumption)); (intro s t h); (try simp only [h.n]))
    | ((with_reducible refine pp_g ?_ ?_ ?_); (· decide); (· first | assumption | exact Ag.mul (by assumption) | exact Ag.new (by assumption)); (intro v))
    | ((with_reducible refine pp_if pp_none ?_))
    | ((with_reducible refine pp_if (pp_ret ?_) ?_); (· assumption))
    | with_reducible exact pp_ret (by assumption)
    | ((with_reducible refine pp_b ?_ ?_); (· first | exact p5 (Ag.new (by assumption)) | exact p2 (Ag.new (by assumption)) | exact p4 (Ag.new (by assumption)) | exact p8 (Ag.new (by assumption)) | exact p6 (Ag.new (by assumption))); (intro v s t h); (try simp only [h.n])))
  exact pl11 _ _ _ _ _ ‹_›
theorem pfi {a b c d e g : Int} (h : Ag f L σ τ) : PP f L (fX12_first σ a b c d e g) (fX12_first τ a b c d e g) := by
  rw [fX12_first, fX12_first]
  repeat (first
    | ((with_reducible refine pp_p ?_ ?_); (· first | assumption | exact Ag.mul (by assumption) | exact Ag.new (by assumption)); (intro s t h); (try simp only [h.n]))
    | ((with_reducible refine pp_na ?_ ?_); (· first | assumption | exact Ag.mul (by assumption) | exact Ag.new (by assumption)); (intro s t h); (try simp only [h.n]))
    | ((with_reducible refine pp_as ?_ ?_); (· first | assumption | exact Ag.mul (by assumption) | exact Ag.new (by assumption)); (intro s t h); (try simp only [h.n]))
    | ((with_reducible refine pp_ar ?_ ?_); (· first | assumption | exact Ag.mul (by assumption) | exact Ag.new (by assumption)); (intro s t h); (try simp only [h.n]))
    | ((with_reducible refine pp_g ?_ ?_ ?_); (· decide); (· first | assumption | exact Ag.mul (by assumption) | exact Ag.new (by assumption)); (intro v))
    | ((with_reducible refine pp_if pp_none ?_))
    | ((with_reducible refine pp_if (pp_ret ?_) ?_); (· assumption))
    | with_reducible exact pp_ret (by assumption)
    | ((with_reducible refine pp_b ?_ ?_); (· first | exact p5 (Ag.new (by assumption)) | exact p2 (Ag.new (by assumption)) | exact p4 (Ag.new (by assumption)) | exact p8 (Ag.new (by assumption)) | exact p6 (Ag.new (by assumption))); (intro v s t h); (try simp only [h.n])))
theorem pp_v {c a : Int} {P Q : Option (Int × ZS)} (h : Ag f L σ τ) (k : PP f L P Q) : PP f L (zv σ c a P) (zv τ c a Q) := by
  unfold zv
  rw [h.2.1 a]
  exact pp_if k pp_none
theorem pl12 (u : Int) (K K' : ZS → Option (Int × ZS)) (hK : ∀ s t, Ag f L s t → PP f L (K s) (K' t)) : ∀ (n : Nat) (σ τ : ZS) (x : Int), Ag f L σ τ → PP f L (lX12_init_323 u K n σ x) (lX12_init_323 u K' n τ x) := by
  intro n
  induction n with
  | zero => intro σ τ x h; exact pp_none
  | succ n ih =>
    intro σ τ x h
    rw [lX12_init_323, lX12_init_323]
    refine pp_if (hK _ _ h) ?_
    refine pp_g (by decide) h fun v => pp_as h fun s t h => ?_
    exact ih _ _ _ h
theorem p12 {a : Int} (h : Ag f L σ τ) : PP f L (fX12_init σ a) (fX12_init τ a) := by
  rw [fX12_init, fX12_init]
  simp only [h.n]
  repeat (first
    | ((with_reducible refine pp_p ?_ ?_); (· first | assumption | exact Ag.mul (by assumption) | exact Ag.new (by assumption)); (intro s t h); (try simp only [h.n]))
    | ((with_reducible refine pp_na ?_ ?_); (· first | assumption | exact Ag.mul (by assumption) | exact Ag.new (by assumption)); (intro s t h); (try simp only [h.n]))
    | ((with_reducible refine pp_as ?_ ?_); (· first | assumption | exact Ag.mul (by assumption) | exact Ag.new (by assumption)); (intro s t h); (try simp only [h.n]))
    | ((with_reducible refine pp_ar ?_ ?_); (· first | assumption | exact Ag.mul (by assumption) | exact Ag.new (by assumption)); (intro s t h); (try simp only [h.n]))
    | ((with_reducible refine pp_g ?_ ?_ ?_); (· decide); (· first | assumption | exact Ag.mul (by assumption) | exact Ag.new (by assumption)); (intro v))
    | ((with_reducible refine pp_if pp_none ?_))
    | ((with_reducible refine pp_if (pp_ret ?_) ?_); (· assumption))
    | with_reducible exact pp_ret (by assumption)
    | ((with_reducible refine pp_b ?_ ?_); (· first | exact p5 (Ag.new (by assumption)) | exact p2 (Ag.new (by assumption)) | exact p4 (Ag.new (by assumption)) | exact p8 (Ag.new (by assumption)) | exact p6 (Ag.new (by assumption))); (intro v s t h); (try simp only [h.n])))
  refine pl12 _ _ _ (fun s t h => ?_) _ _ _ _ ‹_›
  refine pp_b (pp_v h (pfi h)) fun v s t h => pp_b (pp_v h (pfi h)) fun v s t h => pp_b (pp_v h (pfi h)) fun v s t h => ?_
  repeat (first
    | ((with_reducible refine pp_p ?_ ?_); (· first | assumption | exact Ag.mul (by assumption) | exact Ag.new (by assumption)); (intro s t h); (try simp only [h.n]))
    | ((with_reducible refine pp_na ?_ ?_); (· first | assumption | exact Ag.mul (by assumption) | exact Ag.new (by assumption)); (intro s t h); (try simp only [h.n]))
    | ((with_reducible refine pp_as ?_ ?_); (· first | assumption | exact Ag.mul (by assumption) | exact Ag.new (by assumption)); (intro s t h); (try simp only [h.n]))
    | ((with_reducible refine pp_ar ?_ ?_); (· first | assumption | exact Ag.mul (by assumption) | exact Ag.new (by assumption)); (intro s t h); (try simp only [h.n]))
    | ((with_reducible refine pp_g ?_ ?_ ?_); (· decide); (· first | assumption | exact Ag.mul (by assumption) | exact Ag.new (by assumption)); (intro v))
    | ((with_reducible refine pp_if pp_none ?_))
    | ((with_reducible refine pp_if (pp_ret ?_) ?_); (· assumption))
    | with_reducible exact pp_ret (by assumption)
    | ((with_reducible refine pp_b ?_ ?_); (· first | exact p5 (Ag.new (by assumption)) | exact p2 (Ag.new (by assumption)) | exact p4 (Ag.new (by assumption)) | exact p8 (Ag.new (by assumption)) | exact p6 (Ag.new (by assumption))); (intro v s t h); (try simp only [h.n])))
end PPr
