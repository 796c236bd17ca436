/-! the line, a pure picture: carts ranked by key and number; who is left, who goes, who passes when -/
def lx (key : Int → Int) (a b : Int) : Prop := key a < key b ∨ (key a = key b ∧ a < b)
theorem lx_irr {key : Int → Int} {a : Int} : ¬ lx key a a := by unfold lx; omega
theorem lx_asym {key : Int → Int} {a b : Int} (h : lx key a b) : ¬ lx key b a := by unfold lx at *; omega
theorem lx_trans {key : Int → Int} {a b c : Int} (h : lx key a b) (h2 : lx key b c) : lx key a c := by unfold lx at *; omega
theorem lx_tri (key : Int → Int) (a b : Int) : lx key a b ∨ a = b ∨ lx key b a := by unfold lx; omega
def lxB (key : Int → Int) (a b : Int) : Bool := decide (key a < key b) || (decide (key a = key b) && decide (a < b))
theorem lxB_iff {key : Int → Int} {a b : Int} : lxB key a b = true ↔ lx key a b := by
  unfold lxB lx; simp
def insK (key : Int → Int) (c : Int) : List Int → List Int
  | [] => [c]
  | d :: l => if key c < key d then c :: d :: l else d :: insK key c l
theorem insK_mem {key : Int → Int} {c x : Int} : ∀ {l : List Int}, x ∈ insK key c l ↔ x = c ∨ x ∈ l
  | [] => by simp [insK]
  | d :: l => by
    unfold insK
    split
    · simp
    · rw [List.mem_cons, insK_mem, List.mem_cons]
      constructor
      · rintro (h | h | h)
        · exact Or.inr (Or.inl h)
        · exact Or.inl h
        · exact Or.inr (Or.inr h)
      · rintro (h | h | h)
        · exact Or.inr (Or.inl h)
        · exact Or.inl h
        · exact Or.inr (Or.inr h)
theorem insK_sorted {key : Int → Int} {c : Int} : ∀ {l : List Int}, l.Pairwise (lx key) → (∀ x ∈ l, x < c) → (insK key c l).Pairwise (lx key)
  | [], _, _ => List.pairwise_singleton _ _
  | d :: l, h, hl => by
    rw [List.pairwise_cons] at h
    have hd := hl d List.mem_cons_self
    unfold insK
    split
    · rename_i hk
      rw [List.pairwise_cons]
      refine ⟨fun x hx => ?_, List.pairwise_cons.mpr h⟩
      rcases List.mem_cons.mp hx with rfl | hx
      · exact Or.inl hk
      · exact lx_trans (Or.inl hk) (h.1 x hx)
    · rename_i hk
      rw [List.pairwise_cons]
      refine ⟨fun x hx => ?_, insK_sorted h.2 (fun x hx => hl x (List.mem_cons_of_mem _ hx))⟩
      rcases insK_mem.mp hx with rfl | hx
      · unfold lx; omega
      · exact h.1 x hx
def rk (key : Int → Int) (p : Int → Bool) : Nat → List Int
  | 0 => []
  | n + 1 => if p (n : Int) = true then insK key (n : Int) (rk key p n) else rk key p n
theorem rk_mem {key : Int → Int} {p : Int → Bool} {x : Int} : ∀ {n : Nat}, x ∈ rk key p n ↔ 0 ≤ x ∧ x < (n : Int) ∧ p x = true
  | 0 => by simp [rk]; omega
  | n + 1 => by
    unfold rk
    by_cases hp : p (n : Int) = true
    · rw [if_pos hp, insK_mem, rk_mem]
      constructor
      · rintro (rfl | ⟨h1, h2, h3⟩)
        · exact ⟨by omega, by omega, hp⟩
        · exact ⟨h1, by omega, h3⟩
      · rintro ⟨h1, h2, h3⟩
        by_cases e : x = (n : Int)
        · exact Or.inl e
        · exact Or.inr ⟨h1, by omega, h3⟩
    · rw [if_neg hp, rk_mem]
      constructor
      · rintro ⟨h1, h2, h3⟩; exact ⟨h1, by omega, h3⟩
      · rintro ⟨h1, h2, h3⟩
        refine ⟨h1, ?_, h3⟩
        by_cases e : x = (n : Int)
        · subst e; exact absurd h3 hp
        · omega
theorem rk_sorted {key : Int → Int} {p : Int → Bool} : ∀ {n : Nat}, (rk key p n).Pairwise (lx key)
  | 0 => List.Pairwise.nil
  | n + 1 => by
    unfold rk
    split
    · exact insK_sorted rk_sorted (fun x hx => (rk_mem.mp hx).2.1)
    · exact rk_sorted
theorem insK_len {key : Int → Int} {c : Int} : ∀ {l : List Int}, (insK key c l).length = l.length + 1
  | [] => rfl
  | d :: l => by
    unfold insK
    split
    · rfl
    · simp [insK_len]
theorem rk_len {key : Int → Int} {p : Int → Bool} : ∀ {n : Nat}, (rk key p n).length ≤ n
  | 0 => Nat.le_refl 0
  | n + 1 => by
    unfold rk
    have := rk_len (key := key) (p := p) (n := n)
    split
    · rw [insK_len]; omega
    · omega
theorem srt_ext {key : Int → Int} : ∀ {l m : List Int}, l.Pairwise (lx key) → m.Pairwise (lx key) → (∀ x, x ∈ l ↔ x ∈ m) → l = m
  | [], [], _, _, _ => rfl
  | [], b :: m, _, _, h => by have := (h b).mpr List.mem_cons_self; cases this
  | a :: l, [], _, _, h => by have := (h a).mp List.mem_cons_self; cases this
  | a :: l, b :: m, hl, hm, h => by
    rw [List.pairwise_cons] at hl hm
    have e : a = b := by
      rcases List.mem_cons.mp ((h a).mp List.mem_cons_self) with e | h1
      · exact e
      rcases List.mem_cons.mp ((h b).mpr List.mem_cons_self) with e | h2
      · exact e.symm
      exact absurd (hm.1 a h1) (lx_asym (hl.1 b h2))
    subst e
    congr 1
    refine srt_ext hl.2 hm.2 (fun x => ?_)
    constructor
    · intro hx
      rcases List.mem_cons.mp ((h x).mp (List.mem_cons_of_mem _ hx)) with e | h1
      · subst e; exact absurd (hl.1 x hx) lx_irr
      · exact h1
    · intro hx
      rcases List.mem_cons.mp ((h x).mpr (List.mem_cons_of_mem _ hx)) with e | h1
      · subst e; exact absurd (hm.1 x hx) lx_irr
      · exact h1
theorem srt_nodup {key : Int → Int} {l : List Int} (h : l.Pairwise (lx key)) : l.Nodup := by
  refine List.Pairwise.imp ?_ h
  intro a b hab e
  subst e
  exact lx_irr hab
theorem srt_filter {key : Int → Int} {l : List Int} (h : l.Pairwise (lx key)) (p : Int → Bool) : (l.filter p).Pairwise (lx key) := List.Pairwise.filter p h
/-- the first of the least -/
def bestN (key : Int → Int) (w : Int → Bool) : Nat → Int
  | 0 => -1
  | n + 1 => if w (n : Int) = true ∧ (bestN key w n = -1 ∨ key (n : Int) < key (bestN key w n)) then (n : Int) else bestN key w n
theorem bestN_spec (key : Int → Int) (w : Int → Bool) : ∀ n : Nat, (bestN key w n = -1 ∧ ∀ k : Int, 0 ≤ k → k < (n : Int) → w k = false) ∨ (0 ≤ bestN key w n ∧ bestN key w n < (n : Int) ∧ w (bestN key w n) = true ∧ ∀ k : Int, 0 ≤ k → k < (n : Int) → w k = true → bestN key w n = k ∨ lx key (bestN key w n) k)
  | 0 => Or.inl ⟨rfl, fun k h1 h2 => by omega⟩
  | n + 1 => by
    have ih := bestN_spec key w n
    unfold bestN
    generalize bestN key w n = b at ih ⊢
    by_cases hw : w (n : Int) = true
    · by_cases hb : b = -1 ∨ key (n : Int) < key b
      · rw [if_pos ⟨hw, hb⟩]
        refine Or.inr ⟨by omega, by omega, hw, fun k h0 h1 h2 => ?_⟩
        by_cases e : k = (n : Int)
        · exact Or.inl e.symm
        rcases ih with ⟨-, ih⟩ | ⟨g1, g2, g3, g4⟩
        · rw [ih k h0 (by omega)] at h2; cases h2
        · rcases hb with rfl | hb
          · omega
          · rcases g4 k h0 (by omega) h2 with rfl | h
            · exact Or.inr (Or.inl hb)
            · exact Or.inr (lx_trans (Or.inl hb) h)
      · rw [if_neg (fun h => hb h.2)]
        rcases ih with ⟨ih0, -⟩ | ⟨g1, g2, g3, g4⟩
        · exact absurd (Or.inl ih0) hb
        · refine Or.inr ⟨g1, by omega, g3, fun k h0 h1 h2 => ?_⟩
          by_cases e : k = (n : Int)
          · subst e
            refine Or.inr ?_
            unfold lx
            omega
          · exact g4 k h0 (by omega) h2
    · rw [if_neg (fun h => hw h.1)]
      have hw' : w (n : Int) = false := by simpa using hw
      rcases ih with ⟨ih0, ih⟩ | ⟨g1, g2, g3, g4⟩
      · refine Or.inl ⟨ih0, fun k h0 h1 => ?_⟩
        by_cases e : k = (n : Int)
        · subst e; exact hw'
        · exact ih k h0 (by omega)
      · refine Or.inr ⟨g1, by omega, g3, fun k h0 h1 h2 => ?_⟩
        by_cases e : k = (n : Int)
        · subst e; exact absurd h2 hw
        · exact g4 k h0 (by omega) h2
theorem bestN_head {key : Int → Int} {w : Int → Bool} {n : Nat} {l : List Int} (hs : l.Pairwise (lx key)) (hm : ∀ x, x ∈ l ↔ 0 ≤ x ∧ x < (n : Int) ∧ w x = true) : bestN key w n = l.headD (-1) := by
  cases l with
  | nil =>
    rcases bestN_spec key w n with ⟨h, -⟩ | ⟨g1, g2, g3, -⟩
    · exact h
    · have := (hm _).mpr ⟨g1, g2, g3⟩; cases this
  | cons a l =>
    rw [List.pairwise_cons] at hs
    obtain ⟨a1, a2, a3⟩ := (hm a).mp List.mem_cons_self
    show bestN key w n = a
    rcases bestN_spec key w n with ⟨-, h⟩ | ⟨g1, g2, g3, g4⟩
    · rw [h a a1 a2] at a3; cases a3
    · rcases g4 a a1 a2 a3 with h | h
      · exact h
      · rcases List.mem_cons.mp ((hm _).mpr ⟨g1, g2, g3⟩) with e | h2
        · exact e
        · exact absurd h (lx_asym (hs.1 _ h2))
/-- who stands at a gate at a minute, who is left behind it, who goes -/
def arrL (R : List Int) (cm : Int → Int) (lf : List Int) (t : Nat) : List Int := R.filter (fun c => decide (c ∈ lf) || decide (cm c = (t : Int)))
def lft (R : List Int) (cm : Int → Int) (rt : Nat → Nat) : Nat → List Int
  | 0 => []
  | t + 1 => (arrL R cm (lft R cm rt t) t).drop (rt t)
def arr (R : List Int) (cm : Int → Int) (rt : Nat → Nat) (t : Nat) : List Int := arrL R cm (lft R cm rt t) t
def goL (R : List Int) (cm : Int → Int) (rt : Nat → Nat) (t : Nat) : List Int := (arr R cm rt t).take (rt t)
theorem lft_succ (R : List Int) (cm : Int → Int) (rt : Nat → Nat) (t : Nat) : lft R cm rt (t + 1) = (arr R cm rt t).drop (rt t) := rfl
def pasT (R : List Int) (cm : Int → Int) (rt : Nat → Nat) (c : Int) : Nat → Int
  | 0 => -1
  | t + 1 => if pasT R cm rt c t = -1 ∧ c ∈ goL R cm rt t then (t : Int) else pasT R cm rt c t
theorem pasT_succ (R : List Int) (cm : Int → Int) (rt : Nat → Nat) (c : Int) (t : Nat) : pasT R cm rt c (t + 1) = if pasT R cm rt c t = -1 ∧ c ∈ goL R cm rt t then (t : Int) else pasT R cm rt c t := rfl
theorem arr_mem {R : List Int} {cm : Int → Int} {rt : Nat → Nat} {t : Nat} {c : Int} : c ∈ arr R cm rt t ↔ c ∈ R ∧ (c ∈ lft R cm rt t ∨ cm c = (t : Int)) := by
  unfold arr arrL
  rw [List.mem_filter]
  simp
theorem arr_sub (R : List Int) (cm : Int → Int) (rt : Nat → Nat) (t : Nat) : (arr R cm rt t).Sublist R := List.filter_sublist
theorem arr_srt {key : Int → Int} {R : List Int} (h : R.Pairwise (lx key)) (cm : Int → Int) (rt : Nat → Nat) (t : Nat) : (arr R cm rt t).Pairwise (lx key) := srt_filter h _
theorem lft_mem {R : List Int} (hR : R.Nodup) {cm : Int → Int} {rt : Nat → Nat} {t : Nat} {c : Int} : c ∈ lft R cm rt (t + 1) ↔ c ∈ arr R cm rt t ∧ c ∉ goL R cm rt t := by
  rw [lft_succ]
  unfold goL
  have hn : (arr R cm rt t).Nodup := List.Sublist.nodup (arr_sub R cm rt t) hR
  generalize arr R cm rt t = l at hn ⊢
  have e := List.take_append_drop (rt t) l
  rw [← e] at hn
  have hd := List.nodup_append.mp hn
  constructor
  · intro h
    exact ⟨by rw [← e]; exact List.mem_append_right _ h, fun h2 => hd.2.2 c h2 c h rfl⟩
  · rintro ⟨h, h2⟩
    rw [← e] at h
    rcases List.mem_append.mp h with h | h
    · exact absurd h h2
    · exact h
theorem pasT_nn {R : List Int} {cm : Int → Int} {rt : Nat → Nat} {c : Int} : ∀ t : Nat, pasT R cm rt c t = -1 ∨ (0 ≤ pasT R cm rt c t ∧ pasT R cm rt c t < (t : Int) ∧ c ∈ goL R cm rt (pasT R cm rt c t).toNat)
  | 0 => Or.inl rfl
  | t + 1 => by
    have ih := pasT_nn (R := R) (cm := cm) (rt := rt) (c := c) t
    unfold pasT
    by_cases h : pasT R cm rt c t = -1 ∧ c ∈ goL R cm rt t
    · rw [if_pos h]; exact Or.inr ⟨by omega, by omega, by rw [Int.toNat_natCast]; exact h.2⟩
    · rw [if_neg h]
      rcases ih with ih | ⟨h1, h2, h3⟩
      · exact Or.inl ih
      · exact Or.inr ⟨h1, by omega, h3⟩
theorem lft_cm {R : List Int} {cm : Int → Int} {rt : Nat → Nat} {c : Int} : ∀ t : Nat, c ∈ lft R cm rt t → cm c < (t : Int)
  | 0, h => by cases h
  | t + 1, h => by
    rw [lft_succ] at h
    have h1 := arr_mem.mp (List.mem_of_mem_drop h)
    rcases h1.2 with h2 | h2
    · have := lft_cm t h2; omega
    · omega
theorem arr_cm {R : List Int} {cm : Int → Int} {rt : Nat → Nat} {c : Int} {t : Nat} (h : c ∈ arr R cm rt t) : cm c ≤ (t : Int) := by
  rcases (arr_mem.mp h).2 with h2 | h2
  · have := lft_cm t h2; omega
  · omega
/-- who stands there: who has come and not passed -/
theorem arr_iff {R : List Int} (hR : R.Nodup) {cm : Int → Int} {rt : Nat → Nat} (hc : ∀ c ∈ R, 0 ≤ cm c) {c : Int} (h : c ∈ R) : ∀ t : Nat, c ∈ arr R cm rt t ↔ cm c ≤ (t : Int) ∧ pasT R cm rt c t = -1
  | 0 => by
    rw [arr_mem]
    have := hc c h
    constructor
    · rintro ⟨-, h1 | h1⟩
      · cases h1
      · exact ⟨by omega, rfl⟩
    · rintro ⟨h1, -⟩
      exact ⟨h, Or.inr (by omega)⟩
  | t + 1 => by
    have ih := arr_iff hR hc h (rt := rt) t
    rw [arr_mem, lft_mem hR, ih, pasT_succ]
    have hg : c ∈ goL R cm rt t → c ∈ arr R cm rt t := fun hx => List.mem_of_mem_take hx
    constructor
    · rintro ⟨-, ⟨⟨h1, h2⟩, h3⟩ | h1⟩
      · exact ⟨by omega, by rw [if_neg (fun q => h3 q.2)]; exact h2⟩
      · refine ⟨by omega, ?_⟩
        have hng : c ∉ goL R cm rt t := fun q => by have := (ih.mp (hg q)).1; omega
        rw [if_neg (fun q => hng q.2)]
        rcases pasT_nn (R := R) (cm := cm) (rt := rt) (c := c) t with h2 | ⟨h2, h3, h4⟩
        · exact h2
        · have := arr_cm (List.mem_of_mem_take h4)
          omega
    · rintro ⟨h1, h2⟩
      refine ⟨h, ?_⟩
      by_cases e : cm c = ((t + 1 : Nat) : Int)
      · exact Or.inr e
      · left
        by_cases hp : pasT R cm rt c t = -1
        · refine ⟨⟨by omega, hp⟩, fun q => ?_⟩
          rw [if_pos ⟨hp, q⟩] at h2
          omega
        · rw [if_neg (fun q => hp q.1)] at h2
          exact absurd h2 hp
/-- the first minute of which something holds -/
def fstT (f : Nat → Bool) : Nat → Int
  | 0 => -1
  | n + 1 => if fstT f n = -1 ∧ f n = true then (n : Int) else fstT f n
theorem fstT_none {f : Nat → Bool} : ∀ {n : Nat}, fstT f n = -1 → ∀ k, k < n → f k = false
  | 0, _, k, hk => absurd hk (Nat.not_lt_zero k)
  | n + 1, h, k, hk => by
    unfold fstT at h
    by_cases e : fstT f n = -1 ∧ f n = true
    · rw [if_pos e] at h; omega
    · rw [if_neg e] at h
      rcases Nat.lt_or_eq_of_le (Nat.le_of_lt_succ hk) with h1 | h1
      · exact fstT_none h k h1
      · subst h1
        cases hf : f k
        · rfl
        · exact absurd ⟨h, hf⟩ e
theorem part_srt {key : Int → Int} {c : Int} {l : List Int} (h : l.Pairwise (lx key)) (hc : c ∉ l) : l = l.filter (fun x => lxB key x c) ++ l.filter (fun x => !lxB key x c) ∧ (l.filter (fun x => lxB key x c) ++ c :: l.filter (fun x => !lxB key x c)).Pairwise (lx key) := by
  have hb : ∀ x ∈ l.filter (fun x => !lxB key x c), lx key c x := by
    intro x hx
    obtain ⟨h1, h2⟩ := List.mem_filter.mp hx
    rcases lx_tri key x c with h3 | h3 | h3
    · rw [lxB_iff.mpr h3] at h2; cases h2
    · subst h3; exact absurd h1 hc
    · exact h3
  have ha : ∀ x ∈ l.filter (fun x => lxB key x c), lx key x c := fun x hx => lxB_iff.mp (List.mem_filter.mp hx).2
  constructor
  · refine srt_ext h ?_ (fun x => ?_)
    · rw [List.pairwise_append]
      exact ⟨srt_filter h _, srt_filter h _, fun x hx y hy => lx_trans (ha x hx) (hb y hy)⟩
    · rw [List.mem_append, List.mem_filter, List.mem_filter]
      cases lxB key x c <;> simp
  · rw [List.pairwise_append, List.pairwise_cons]
    refine ⟨srt_filter h _, ⟨hb, srt_filter h _⟩, fun x hx y hy => ?_⟩
    rcases List.mem_cons.mp hy with rfl | hy
    · exact ha x hx
    · exact lx_trans (ha x hx) (hb y hy)
/-- how many of the others stand ahead -/
def ahN (key : Int → Int) (R : List Int) (cm : Int → Int) (rt : Nat → Nat) (c : Int) (t : Nat) : Nat := ((arr R cm rt t).filter (fun x => lxB key x c)).length
def canT (key : Int → Int) (R : List Int) (cm : Int → Int) (rt : Nat → Nat) (c m : Int) (t : Nat) : Bool := decide (m ≤ (t : Int)) && decide (ahN key R cm rt c t < rt t)
/-- one more in the line: when it passes, told by the others' line alone -/
theorem among {key : Int → Int} {R R' : List Int} {c m : Int} {cm cm' : Int → Int} {rt : Nat → Nat} (hs : R.Pairwise (lx key)) (hs' : R'.Pairwise (lx key)) (hc : c ∈ R') (hcR : c ∉ R) (hR : ∀ x, x ≠ c → (x ∈ R' ↔ x ∈ R)) (hm : cm' c = m) (h0m : 0 ≤ m) (hcm : ∀ x, x ≠ c → cm' x = cm x) :
    ∀ t : Nat, pasT R' cm' rt c t = fstT (canT key R cm rt c m) t ∧ (fstT (canT key R cm rt c m) t = -1 → ∀ x, x ∈ lft R' cm' rt t ↔ x ∈ lft R cm rt t ∨ (x = c ∧ m < (t : Int)))
  | 0 => ⟨rfl, fun _ x => by
    constructor
    · intro h; cases h
    · rintro (h | ⟨-, h⟩)
      · cases h
      · omega⟩
  | t + 1 => by
    obtain ⟨ih1, ih2⟩ := among hs hs' hc hcR hR hm h0m hcm (rt := rt) t
    unfold pasT fstT
    rw [ih1]
    by_cases hf : fstT (canT key R cm rt c m) t = -1
    · have ih2 := ih2 hf
      have hmem : ∀ x, x ∈ arr R' cm' rt t ↔ x ∈ arr R cm rt t ∨ (x = c ∧ m ≤ (t : Int)) := by
        intro x
        rw [arr_mem, arr_mem, ih2]
        by_cases e : x = c
        · subst e
          rw [hm]
          constructor
          · rintro ⟨-, (h | h) | h⟩
            · exact absurd (List.mem_of_mem_take (i := R.length) (by
                have : x ∈ R := by
                  cases t with
                  | zero => cases h
                  | succ t => rw [lft_succ] at h; exact (arr_mem.mp (List.mem_of_mem_drop h)).1
                rwa [List.take_length])) hcR
            · exact Or.inr ⟨rfl, by omega⟩
            · exact Or.inr ⟨rfl, by omega⟩
          · rintro (⟨h, -⟩ | ⟨-, h⟩)
            · exact absurd h hcR
            · by_cases e : m = (t : Int)
              · exact ⟨hc, Or.inr e⟩
              · exact ⟨hc, Or.inl (Or.inr ⟨rfl, by omega⟩)⟩
        · rw [hR x e, hcm x e]
          simp [e]
      have hca : c ∉ arr R cm rt t := fun h => hcR (arr_mem.mp h).1
      by_cases hmt : m ≤ (t : Int)
      · have hL : arr R' cm' rt t = (arr R cm rt t).filter (fun x => lxB key x c) ++ c :: (arr R cm rt t).filter (fun x => !lxB key x c) := by
          refine srt_ext (arr_srt hs' cm' rt t) (part_srt (arr_srt hs cm rt t) hca).2 (fun x => ?_)
          rw [hmem, List.mem_append, List.mem_cons, List.mem_filter, List.mem_filter]
          cases lxB key x c <;> simp [hmt] <;> exact or_comm
        have hP := (part_srt (arr_srt hs cm rt t) hca).1
        have hA : c ∉ (arr R cm rt t).filter (fun x => lxB key x c) := fun h => hca (List.mem_filter.mp h).1
        have hB : c ∉ (arr R cm rt t).filter (fun x => !lxB key x c) := fun h => hca (List.mem_filter.mp h).1
        have hl : ahN key R cm rt c t = ((arr R cm rt t).filter (fun x => lxB key x c)).length := rfl
        rw [lft_succ, lft_succ]
        unfold goL
        rw [hL]
        generalize hg : (arr R cm rt t).filter (fun x => lxB key x c) = a at *
        generalize hg2 : (arr R cm rt t).filter (fun x => !lxB key x c) = b at *
        rw [hP]
        by_cases hk : ahN key R cm rt c t < rt t
        · have hcan : canT key R cm rt c m t = true := by unfold canT; simp [hmt, hk]
          have hin : c ∈ (a ++ c :: b).take (rt t) := by
            rw [List.take_append]
            refine List.mem_append_right _ ?_
            obtain ⟨k, hk2⟩ : ∃ k, rt t - a.length = k + 1 := ⟨rt t - a.length - 1, by omega⟩
            rw [hk2, List.take_succ_cons]
            exact List.mem_cons_self
          rw [if_pos ⟨hf, hin⟩, if_pos ⟨hf, hcan⟩]
          exact ⟨rfl, fun h => by omega⟩
        · have hcan : ¬ canT key R cm rt c m t = true := by unfold canT; simp; omega
          have e1 : (a ++ c :: b).take (rt t) = a.take (rt t) := List.take_append_of_le_length (by omega)
          have e2 : (a ++ c :: b).drop (rt t) = a.drop (rt t) ++ c :: b := List.drop_append_of_le_length (by omega)
          have e3 : (a ++ b).drop (rt t) = a.drop (rt t) ++ b := List.drop_append_of_le_length (by omega)
          have hout : c ∉ (a ++ c :: b).take (rt t) := by rw [e1]; exact fun h => hA (List.mem_of_mem_take h)
          rw [if_neg (fun h => hout h.2), if_neg (fun h => hcan h.2)]
          refine ⟨rfl, fun _ x => ?_⟩
          rw [e2, e3, List.mem_append, List.mem_append, List.mem_cons]
          have : m < ((t + 1 : Nat) : Int) := by omega
          constructor
          · rintro (h | h | h)
            · exact Or.inl (Or.inl h)
            · exact Or.inr ⟨h, this⟩
            · exact Or.inl (Or.inr h)
          · rintro ((h | h) | ⟨h, -⟩)
            · exact Or.inl h
            · exact Or.inr (Or.inr h)
            · exact Or.inr (Or.inl h)
      · have hL : arr R' cm' rt t = arr R cm rt t := srt_ext (arr_srt hs' cm' rt t) (arr_srt hs cm rt t) (fun x => by rw [hmem]; simp [hmt])
        have hcan : ¬ canT key R cm rt c m t = true := by unfold canT; simp [hmt]
        have hout : c ∉ goL R' cm' rt t := fun h => by
          have := List.mem_of_mem_take h
          rw [hL] at this
          exact hca this
        rw [if_neg (fun h => hout h.2), if_neg (fun h => hcan h.2)]
        refine ⟨rfl, fun _ x => ?_⟩
        rw [lft_succ, lft_succ, hL]
        have : ¬ m < ((t + 1 : Nat) : Int) := by omega
        constructor
        · intro h; exact Or.inl h
        · rintro (h | ⟨-, h⟩)
          · exact h
          · exact absurd h this
    · rw [if_neg (fun h => hf h.1), if_neg (fun h => hf h.1)]
      exact ⟨rfl, fun h => absurd h hf⟩
/-- who passed, in their order -/
def ordL (g0 g1 : Nat → List Int) : Nat → List Int
  | 0 => []
  | t + 1 => ordL g0 g1 t ++ (g0 t ++ g1 t)
theorem nd_len : ∀ (n : Nat) (l : List Int), l.Nodup → (∀ x ∈ l, 0 ≤ x ∧ x < (n : Int)) → l.length ≤ n
  | 0, l, _, h => by
    cases l with
    | nil => exact Nat.le_refl 0
    | cons a l => have := h a List.mem_cons_self; omega
  | n + 1, l, hn, h => by
    by_cases hm : (n : Int) ∈ l
    · have h1 := nd_len n (l.erase (n : Int)) (List.Nodup.erase _ hn) (fun x hx => by
        have h2 := h x (List.mem_of_mem_erase hx)
        have h3 : x ≠ (n : Int) := fun e => by
          subst e
          exact (List.Nodup.not_mem_erase hn) hx
        omega)
      rw [List.length_erase_of_mem hm] at h1
      omega
    · have h1 := nd_len n l hn (fun x hx => by
        have h2 := h x hx
        have h3 : x ≠ (n : Int) := fun e => hm (e ▸ hx)
        omega)
      omega
