/-! what the makers leave is related -/
section RM
variable {σ : ZS}
theorem rm_gate (r : ∀ (a : Int) (n : Nat) (v : Int), (a, n, v) ∈ rowsL → ∀ i : Int, 0 ≤ i → i < (n : Int) → sM σ a i = v) : RGate σ := by
  intro g t g0 g1 t0 t1
  rcases (by omega : g = 0 ∨ g = 1) with rfl | rfl
  · have e1 : sM σ (7 + 0) t = 1 := r 7 24 1 (by decide) t t0 (by omega)
    have e2 : sM σ (10 + 0) t = 0 := r 10 24 0 (by decide) t t0 (by omega)
    have e3 : sM σ 65 (24 * 0 + t) = 1 := r 65 48 1 (by decide) _ (by omega) (by omega)
    have e4 : sM σ 66 (24 * 0 + t) = 0 := r 66 48 0 (by decide) _ (by omega) (by omega)
    rw [e1, e2, e3, e4]; decide
  · have e1 : sM σ (7 + 1) t = 1 := r 8 24 1 (by decide) t t0 (by omega)
    have e2 : sM σ (10 + 1) t = 0 := r 11 24 0 (by decide) t t0 (by omega)
    have e3 : sM σ 65 (24 * 1 + t) = 1 := r 65 48 1 (by decide) _ (by omega) (by omega)
    have e4 : sM σ 66 (24 * 1 + t) = 0 := r 66 48 0 (by decide) _ (by omega) (by omega)
    rw [e1, e2, e3, e4]; decide
theorem rm_sort (r : ∀ (a : Int) (n : Nat) (v : Int), (a, n, v) ∈ rowsL → ∀ i : Int, 0 ≤ i → i < (n : Int) → sM σ a i = v) (o : ∀ a i v : Int, (a, i, v) ∈ onesL → sM σ a i = v) : RSort σ := by
  refine ⟨by rw [o 5 5 0 (by decide), o 64 2 0 (by decide)], by rw [o 64 2 0 (by decide)]; decide, o 5 8 0 (by decide), fun s h0 h1 => ?_⟩
  rw [r 15 4 0 (by decide) s h0 h1, r 67 4 0 (by decide) s h0 h1, r 16 4 0 (by decide) s h0 h1, r 68 4 0 (by decide) s h0 h1, r 13 4 0 (by decide) s h0 h1, r 14 4 0 (by decide) s h0 h1, r 69 8 0 (by decide) (2 * s) (by omega) (by omega), r 69 8 0 (by decide) (2 * s + 1) (by omega) (by omega)]
  decide
theorem rm_cart (r : ∀ (a : Int) (n : Nat) (v : Int), (a, n, v) ∈ rowsL → ∀ i : Int, 0 ≤ i → i < (n : Int) → sM σ a i = v) (o : ∀ a i v : Int, (a, i, v) ∈ onesL → sM σ a i = v) : RCart σ := by
  refine ⟨by rw [o 5 7 0 (by decide), o 64 6 0 (by decide)], by rw [o 64 6 0 (by decide)]; decide, fun s h0 h1 => ?_⟩
  rw [r 17 16 0 (by decide) s h0 h1, r 70 16 0 (by decide) s h0 h1]
  decide
theorem rm_way (o : ∀ a i v : Int, (a, i, v) ∈ onesL → sM σ a i = v) : RWay σ := by
  have e := o 64 8 0 (by decide)
  refine ⟨by rw [o 3 3 0 (by decide), e], by rw [e]; decide, fun w h0 h1 => ?_, fun v w h0 h1 h2 => ?_⟩
  · omega
  · omega
theorem rm_tape (o : ∀ a i v : Int, (a, i, v) ∈ onesL → sM σ a i = v) : RTape σ := by
  have e := o 64 13 0 (by decide)
  have e2 := o 64 8 0 (by decide)
  have e3 := o 64 6 0 (by decide)
  refine ⟨by rw [o 34 1 0 (by decide), e], by rw [e]; decide, fun i h0 h1 => ?_, fun c h0 h1 => ?_, fun w h0 h1 => ?_⟩
  · omega
  · omega
  · omega
theorem rm_text (hK : ∀ a : Int, 0 ≤ a → a < 93 → sK σ a = fK a) (hL : ∀ a : Int, 0 ≤ a → a < 93 → a ≠ 2 → sL σ a = fL a) (hN : 93 ≤ sN σ) (o : ∀ a i v : Int, (a, i, v) ∈ onesL → sM σ a i = v) : RText σ := by
  have e := o 64 16 1 (by decide)
  have l0 : sL σ 0 = 11 := hL 0 (by decide) (by decide) (by decide)
  have l1 : sL σ 1 = 1 := hL 1 (by decide) (by decide) (by decide)
  refine ⟨by rw [o 3 6 1 (by decide), e], by rw [e]; decide, fun t h0 h1 => ?_⟩
  have ht : t = 0 := by omega
  subst ht
  rw [o 39 0 55 (by decide)]
  refine ⟨⟨hK 55 (by decide) (by decide), Or.inl rfl, by omega⟩, ?_, ?_⟩
  · unfold RTx
    rw [o 55 0 0 (by decide), show (4 * 0 + 0 : Int) = 0 from rfl, show (0 + 1 : Int) = 1 from rfl, o 76 0 0 (by decide), o 76 1 11 (by decide), l0]
    refine ⟨⟨hK 0 (by decide) (by decide), by decide, Or.inl ⟨rfl, by decide⟩, by omega⟩, by decide, fun i g0 g1 => ?_, ?_⟩
    · rcases (by omega : i = 0 ∨ i = 1 ∨ i = 2 ∨ i = 3 ∨ i = 4 ∨ i = 5 ∨ i = 6 ∨ i = 7 ∨ i = 8 ∨ i = 9 ∨ i = 10) with rfl | rfl | rfl | rfl | rfl | rfl | rfl | rfl | rfl | rfl | rfl
      · rw [show (200 * 0 + (0 + 0) : Int) = 0 from rfl, o 75 0 0 (by decide), o 0 0 10000 (by decide)]; decide
      · rw [show (200 * 0 + (0 + 1) : Int) = 1 from rfl, o 75 1 100002 (by decide), o 0 1 2 (by decide)]; decide
      · rw [show (200 * 0 + (0 + 2) : Int) = 2 from rfl, o 75 2 18 (by decide), o 0 2 10008 (by decide)]; decide
      · rw [show (200 * 0 + (0 + 3) : Int) = 3 from rfl, o 75 3 1 (by decide), o 0 3 10001 (by decide)]; decide
      · rw [show (200 * 0 + (0 + 4) : Int) = 4 from rfl, o 75 4 16 (by decide), o 0 4 10006 (by decide)]; decide
      · rw [show (200 * 0 + (0 + 5) : Int) = 5 from rfl, o 75 5 2 (by decide), o 0 5 10002 (by decide)]; decide
      · rw [show (200 * 0 + (0 + 6) : Int) = 6 from rfl, o 75 6 100003 (by decide), o 0 6 3 (by decide)]; decide
      · rw [show (200 * 0 + (0 + 7) : Int) = 7 from rfl, o 75 7 18 (by decide), o 0 7 10008 (by decide)]; decide
      · rw [show (200 * 0 + (0 + 8) : Int) = 8 from rfl, o 75 8 16 (by decide), o 0 8 10006 (by decide)]; decide
      · rw [show (200 * 0 + (0 + 9) : Int) = 9 from rfl, o 75 9 5 (by decide), o 0 9 10005 (by decide)]; decide
      · rw [show (200 * 0 + (0 + 10) : Int) = 10 from rfl, o 75 10 16 (by decide), o 0 10 10006 (by decide)]; decide
    · have q : rowL (sM σ 0) (11 : Int).toNat = [sM σ 0 0, sM σ 0 1, sM σ 0 2, sM σ 0 3, sM σ 0 4, sM σ 0 5, sM σ 0 6, sM σ 0 7, sM σ 0 8, sM σ 0 9, sM σ 0 10] := rfl
      rw [q, o 0 0 10000 (by decide), o 0 1 2 (by decide), o 0 2 10008 (by decide), o 0 3 10001 (by decide), o 0 4 10006 (by decide), o 0 5 10002 (by decide), o 0 6 3 (by decide), o 0 7 10008 (by decide), o 0 8 10006 (by decide), o 0 9 10005 (by decide), o 0 10 10006 (by decide)]
      decide
  · unfold RTx
    rw [o 55 1 1 (by decide), show (4 * 0 + 1 : Int) = 1 from rfl, show (1 + 1 : Int) = 2 from rfl, o 76 1 11 (by decide), o 76 2 12 (by decide), l1]
    refine ⟨⟨hK 1 (by decide) (by decide), by decide, Or.inl ⟨rfl, by decide⟩, by omega⟩, by decide, fun i g0 g1 => ?_, ?_⟩
    · have hi : i = 0 := by omega
      subst hi
      rw [show (200 * 0 + (11 + 0) : Int) = 11 from rfl, o 75 11 0 (by decide), o 1 0 10000 (by decide)]; decide
    · have q : rowL (sM σ 1) (1 : Int).toNat = [sM σ 1 0] := rfl
      rw [q, o 1 0 10000 (by decide)]
      decide
theorem rm_sheet (r : ∀ (a : Int) (n : Nat) (v : Int), (a, n, v) ∈ rowsL → ∀ i : Int, 0 ≤ i → i < (n : Int) → sM σ a i = v) (o : ∀ a i v : Int, (a, i, v) ∈ onesL → sM σ a i = v) : RSheet σ := by
  intro s h0 h1
  have e1 := r 81 4 (-1) (by decide) s h0 h1
  have e2 := r 82 4 0 (by decide) s h0 h1
  have e3 : ∀ i : Int, 0 ≤ i → i < 40 → sM σ 83 (40 * s + i) = 0 := fun i g0 g1 => r 83 160 0 (by decide) _ (by omega) (by omega)
  rw [e1, e2]
  rcases (by omega : s = 0 ∨ s = 1 ∨ s = 2 ∨ s = 3) with rfl | rfl | rfl | rfl
  · have a1 : sM σ (56 + 2 * 0) 1 = -1 := o 56 1 (-1) (by decide)
    have a2 : sM σ (56 + 2 * 0) 2 = 0 := o 56 2 0 (by decide)
    rw [a1, a2]
    refine ⟨by decide, by decide, fun i g0 g1 => ?_⟩
    rw [e3 i g0 g1]
    exact r 57 40 0 (by decide) i g0 g1
  · have a1 : sM σ (56 + 2 * 1) 1 = -1 := o 58 1 (-1) (by decide)
    have a2 : sM σ (56 + 2 * 1) 2 = 0 := o 58 2 0 (by decide)
    rw [a1, a2]
    refine ⟨by decide, by decide, fun i g0 g1 => ?_⟩
    rw [e3 i g0 g1]
    exact r 59 40 0 (by decide) i g0 g1
  · have a1 : sM σ (56 + 2 * 2) 1 = -1 := o 60 1 (-1) (by decide)
    have a2 : sM σ (56 + 2 * 2) 2 = 0 := o 60 2 0 (by decide)
    rw [a1, a2]
    refine ⟨by decide, by decide, fun i g0 g1 => ?_⟩
    rw [e3 i g0 g1]
    exact r 61 40 0 (by decide) i g0 g1
  · have a1 : sM σ (56 + 2 * 3) 1 = -1 := o 62 1 (-1) (by decide)
    have a2 : sM σ (56 + 2 * 3) 2 = 0 := o 62 2 0 (by decide)
    rw [a1, a2]
    refine ⟨by decide, by decide, fun i g0 g1 => ?_⟩
    rw [e3 i g0 g1]
    exact r 63 40 0 (by decide) i g0 g1
theorem rm_rel (hK : ∀ a : Int, 0 ≤ a → a < 93 → sK σ a = fK a) (hL : ∀ a : Int, 0 ≤ a → a < 93 → a ≠ 2 → sL σ a = fL a) (hM : ∀ q : Int × Int × Int, q ∈ finl → sM σ q.1 q.2.1 = q.2.2) (hN : 93 ≤ sN σ) (r : ∀ (a : Int) (n : Nat) (v : Int), (a, n, v) ∈ rowsL → ∀ i : Int, 0 ≤ i → i < (n : Int) → sM σ a i = v) (o : ∀ a i v : Int, (a, i, v) ∈ onesL → sM σ a i = v) (hs : RScr σ) : Rel σ :=
  ⟨⟨hK, hL, hM, hN⟩, rm_gate r, rm_sort r o, rm_cart r o, rm_way o, rm_tape o, rm_text hK hL hN o, ⟨by rw [o 3 7 0 (by decide), o 64 17 0 (by decide)], by rw [o 64 17 0 (by decide)]; decide, by rw [o 64 17 0 (by decide), o 64 16 1 (by decide)]; decide⟩, ⟨by rw [o 3 10 0 (by decide), o 64 18 0 (by decide)], Or.inl (o 64 18 0 (by decide))⟩, rm_sheet r o, hs⟩
end RM
theorem mr_some {g : ZS → Bool} (h : mrun g = true) : ∃ v τ w ρ, fX11_init (znew (z0 (fun _ => 0) 0) 11 17) 3 = some (v, τ) ∧ sN τ = 64 ∧ fX12_init (znew τ 12 49) 64 = some (w, ρ) ∧ g ρ = true := by
  unfold mrun at h
  cases hA : fX11_init (znew (z0 (fun _ => 0) 0) 11 17) 3 with
  | none => rw [hA] at h; cases h
  | some q =>
    obtain ⟨v, τ⟩ := q
    rw [hA] at h
    have h2 := (Bool.and_eq_true _ _).mp h
    cases hB : fX12_init (znew τ 12 49) 64 with
    | none => rw [hB] at h2; cases h2.2
    | some q =>
      obtain ⟨w, ρ⟩ := q
      rw [hB] at h2
      exact ⟨v, τ, w, ρ, rfl, of_decide_eq_true h2.1, hB, h2.2⟩
theorem mr_get {g : ZS → Bool} (h : mrun g = true) {v w : Int} {τ ρ : ZS} (e1 : fX11_init (znew (z0 (fun _ => 0) 0) 11 17) 3 = some (v, τ)) (e3 : fX12_init (znew τ 12 49) 64 = some (w, ρ)) : g ρ = true := by
  obtain ⟨v', τ', w', ρ', f1, -, f3, c⟩ := mr_some h
  rw [e1] at f1
  cases f1
  rw [e3] at f3
  cases f3
  exact c
theorem made {f : Int → Int} {L : Int} (hf : ∀ i, zInR (f i)) (h0 : 0 ≤ L) (h1 : L ≤ 384) : ∃ v σ w ρ, fX11_init (znew (z0 f L) 11 17) 3 = some (v, σ) ∧ sN σ = 64 ∧ fX12_init (znew σ 12 49) 64 = some (w, ρ) ∧ Rel ρ ∧ sN ρ = 93 ∧ sT ρ ≤ 5000 := by
  obtain ⟨v, τ, w, ρ, e1, e2, e3, cN⟩ := mr_some mr_n
  obtain ⟨σ, g1, A⟩ := p11 (Ag.st f L).new v τ e1
  obtain ⟨ψ, g3, B⟩ := p12 (A.new (c := 12) (n := 49)) w ρ e3
  have cK := mr_get mr_k e1 e3
  have cM := mr_get mr_m e1 e3
  have cO := mr_get mr_o e1 e3
  have cR := mr_get mr_r e1 e3
  have hn := (Bool.and_eq_true _ _).mp cN
  have hn1 : sN ρ = 93 := of_decide_eq_true hn.1
  have hn2 : sT ρ ≤ 5000 := of_decide_eq_true hn.2
  have k0 : ∀ a : Int, 0 ≤ a → a < 93 → sK ρ a = fK a ∧ (a = 2 ∨ sL ρ a = fL a) := fun a a0 a1 => by
    obtain ⟨n, rfl⟩ := Int.eq_ofNat_of_zero_le a0
    have := (Bool.and_eq_true _ _).mp (List.all_eq_true.mp cK n (List.mem_range.mpr (by omega)))
    refine ⟨of_decide_eq_true this.1, ?_⟩
    rcases (Bool.or_eq_true _ _).mp this.2 with q | q
    · left; have := of_decide_eq_true q; omega
    · exact Or.inr (of_decide_eq_true q)
  have n2 : ∀ q ∈ finl, q.1 ≠ 2 := by decide +kernel
  have n3 : ∀ q ∈ onesL, q.1 ≠ 2 := by decide +kernel
  have n4 : ∀ q ∈ rowsL, q.1 ≠ 2 := by decide +kernel
  refine ⟨v, σ, w, ψ, g1, by rw [A.n]; exact e2, g3, rm_rel (fun a a0 a1 => ?_) (fun a a0 a1 a2 => ?_) (fun q hq => ?_) (by rw [B.n]; omega) (fun a n x hq i i0 i1 => ?_) (fun a i x hq => ?_) ⟨?_, fun i => ?_⟩, by rw [B.n]; exact hn1, by rw [B.1.2]; exact hn2⟩
  · rw [B.2.1 a]; exact (k0 a a0 a1).1
  · rw [B.2.2.1 a a2]; exact (k0 a a0 a1).2.resolve_left a2
  · rw [B.2.2.2.1 _ _ (n2 q hq)]; exact of_decide_eq_true (List.all_eq_true.mp cM q hq)
  · rw [B.2.2.2.1 a i (n4 _ hq)]; exact alv_at (List.all_eq_true.mp cR _ hq) i i0 i1
  · rw [B.2.2.2.1 a i (n3 _ hq)]; exact of_decide_eq_true (List.all_eq_true.mp cO _ hq)
  · rw [B.2.2.2.2.2.1]; exact ⟨h0, h1⟩
  · rw [B.2.2.2.2.2.2 i]; exact hf i
