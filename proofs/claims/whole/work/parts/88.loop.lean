/-! the law's loop -/
section LW
variable {σ τ : ZS} {P : Int → ZS → Prop}
theorem Kp.rf (h : 65 ≤ sN σ) : Kp σ σ := ⟨⟨rfl, rfl, fun _ => rfl⟩, h, rfl⟩
theorem rt_alK {i : Int} {O : Int → Option (Int × ZS)} (hq : Kp σ τ) (h2 : sK σ 2 = 100) (h : 0 ≤ i ∧ i < sL σ 2) (k : Rt (O (sM σ 2 i)) P) : Rt ((zal τ 100 2 i).bind O) P :=
  rt_al (hq.1.1.trans h2) ⟨h.1, by rw [hq.1.2.1]; exact h.2⟩ (by rw [hq.1.2.2]; exact k)
theorem lw_call {F : Option (Int × ZS)} {G : ZS → Option (Int × ZS)} {O : Int → ZS → Option (Int × ZS)} (h3 : sK σ 3 = 11) (q : Rt F (fun x τ => Rt (G τ) (fun y ρ => Fin σ x y ρ))) (hk : KK σ F) (k : ∀ x τ, Kp σ τ → Rt (G τ) (fun y ρ => Fin σ x y ρ) → Rt (O x τ) P) : Rt (zb (zv σ 11 3 F) O) P := by
  refine rt_b (rt_v h3 ?_)
  obtain ⟨v, ρ, e, g⟩ := q
  exact ⟨v, ρ, e, k v ρ (hk v ρ e) g⟩
theorem lw_end {x : Int} {F : Option (Int × ZS)} {k : ZS → Option (Int × ZS)} (hq : Kp σ τ) (h6 : sK σ 64 = 12) (g : Rt F (fun y ρ => Fin σ x y ρ)) (hk : ∀ ρ, Rel ρ → sN ρ ≤ sN σ + 3 → sT ρ ≤ sT σ + 500 → Rt (k ρ) P) : Rt (zb (zv τ 12 64 F) (fun y ρ => if x = y then k ρ else none)) P := by
  refine rt_b (rt_v (hq.2.2.trans h6) (g.mono ?_))
  rintro y ρ ⟨e, r, n, t⟩
  exact rt_pos e (hk ρ r n t)
theorem lw_endL {x : Int} {F : Option (Int × ZS)} {k : ZS → Option (Int × ZS)} (hq : Kp σ τ) (h6 : sK σ 64 = 12) (g : Rt F (fun y ρ => Fin σ x y ρ)) (hk : ∀ ρ, Rel ρ → sN ρ ≤ sN σ + 3 → sT ρ ≤ sT σ + 500 → Rt (k ρ) P) : Rt (zb (zv τ 12 64 F) (fun y ρ => if (lCmp x y) = 0 then k ρ else none)) P := by
  refine rt_b (rt_v (hq.2.2.trans h6) (g.mono ?_))
  rintro y ρ ⟨e, r, n, t⟩
  subst e
  refine rt_pos ?_ (hk ρ r n t)
  unfold lCmp
  simp
theorem rt_jnk {b : (ZS → Option (Int × ZS)) → Option (Int × ZS)} {k : ZS → Option (Int × ZS)} (hk : ∀ ρ, Rel ρ → sN ρ ≤ sN σ + 3 → sT ρ ≤ sT σ + 500 → Rt (k ρ) P) (h : ∀ k : ZS → Option (Int × ZS), (∀ ρ, Rel ρ → sN ρ ≤ sN σ + 3 → sT ρ ≤ sT σ + 500 → Rt (k ρ) P) → Rt (b k) P) : Rt (zjn b k) P := h k hk
end LW
theorem lw_loop : ∀ (n : Nat) (σ : ZS) (x : Int), Rel σ → 0 ≤ x → x ≤ 384 → 384 - x < 6 * (n : Int) → Rt (lL_law_18 2 3 64 n σ x) (fun v ρ => v = 1 ∧ 6 * (sN ρ : Int) ≤ 6 * (sN σ : Int) + 3 * (384 - x) ∧ 6 * (sT ρ : Int) ≤ 6 * (sT σ : Int) + 500 * (384 - x)) := by
  intro n
  induction n with
  | zero => intro σ x h x0 x1 hn; omega
  | succ n ih =>
    intro σ x h x0 x1 hn
    have hF := h.1
    have h9 := hF.2.2.2
    have h2 : sK σ 2 = 100 := hF.1 2 (by decide) (by decide)
    have h3 : sK σ 3 = 11 := hF.1 3 (by decide) (by decide)
    have h6 : sK σ 64 = 12 := hF.1 64 (by decide) (by decide)
    have hs := h.2.2.2.2.2.2.2.2.2.2.1
    have hp : Kp σ σ := Kp.rf (by omega)
    rw [lL_law_18]
    refine rt_len h2 ?_
    rw [wr (x := sL σ 2 - 6) (by omega) (by omega)]
    refine rt_if (fun hx => rt_ret ⟨rfl, by omega, by omega⟩) (fun hx => ?_)
    rw [wr (x := x + 1) (by omega) (by omega), wr (x := x + 2) (by omega) (by omega), wr (x := x + 3) (by omega) (by omega), wr (x := x + 4) (by omega) (by omega), wr (x := x + 5) (by omega) (by omega), wr (x := x + 6) (by omega) (by omega)]
    refine rt_al h2 (by omega) ?_
    refine rt_jnk (σ := σ) (fun ρ r a b => (ih ρ (x + 6) r (by omega) (by omega) (by omega)).mono ?_) (fun k hk => ?_)
    · rintro v τ ⟨e1, e2, e3⟩
      exact ⟨e1, by omega, by omega⟩
    clear ih
    refine rt_if (fun _ => ?_) (fun _ => ?_)
    · repeat (with_reducible refine rt_al h2 (by omega) ?_)
      refine lw_call h3 (q_rate h _ _ _ _) (kf_fX11_rate hp) (fun y τ hq hg => ?_)
      repeat (with_reducible refine rt_alK hq h2 (by omega) ?_)
      exact lw_end hq h6 hg hk
    refine rt_if (fun _ => ?_) (fun _ => ?_)
    · repeat (with_reducible refine rt_al h2 (by omega) ?_)
      refine lw_call h3 (q_toll h _ _ _) (kf_fX11_toll hp) (fun y τ hq hg => ?_)
      repeat (with_reducible refine rt_alK hq h2 (by omega) ?_)
      exact lw_end hq h6 hg hk
    refine rt_if (fun _ => ?_) (fun _ => ?_)
    · repeat (with_reducible refine rt_al h2 (by omega) ?_)
      refine lw_call h3 (q_sort h _ _ _ _) (kf_fX11_sort hp) (fun y τ hq hg => ?_)
      repeat (with_reducible refine rt_alK hq h2 (by omega) ?_)
      exact lw_end hq h6 hg hk
    refine rt_if (fun _ => ?_) (fun _ => ?_)
    · repeat (with_reducible refine rt_al h2 (by omega) ?_)
      refine lw_call h3 (q_cart h _) (kf_fX11_cart hp) (fun y τ hq hg => ?_)
      repeat (with_reducible refine rt_alK hq h2 (by omega) ?_)
      exact lw_end hq h6 hg hk
    refine rt_if (fun _ => ?_) (fun _ => ?_)
    · repeat (with_reducible refine rt_al h2 (by omega) ?_)
      refine lw_call h3 (q_wishes h _ _) (kf_fX11_wishes hp) (fun y τ hq hg => ?_)
      repeat (with_reducible refine rt_alK hq h2 (by omega) ?_)
      exact lw_end hq h6 hg hk
    refine rt_if (fun _ => ?_) (fun _ => ?_)
    · repeat (with_reducible refine rt_al h2 (by omega) ?_)
      refine lw_call h3 (q_gateTold h _ _ _) (kf_fX11_gateTold hp) (fun y τ hq hg => ?_)
      repeat (with_reducible refine rt_alK hq h2 (by omega) ?_)
      exact lw_end hq h6 hg hk
    refine rt_if (fun _ => ?_) (fun _ => ?_)
    · repeat (with_reducible refine rt_al h2 (by omega) ?_)
      refine lw_call h3 (q_sortTold h _ _) (kf_fX11_sortTold hp) (fun y τ hq hg => ?_)
      repeat (with_reducible refine rt_alK hq h2 (by omega) ?_)
      exact lw_end hq h6 hg hk
    refine rt_if (fun _ => ?_) (fun _ => ?_)
    · repeat (with_reducible refine rt_al h2 (by omega) ?_)
      refine lw_call h3 (q_feed h _ _) (kf_fX11_feed hp) (fun y τ hq hg => ?_)
      repeat (with_reducible refine rt_alK hq h2 (by omega) ?_)
      exact lw_end hq h6 hg hk
    refine rt_if (fun _ => ?_) (fun _ => ?_)
    · repeat (with_reducible refine rt_al h2 (by omega) ?_)
      refine lw_call h3 (q_text h) (kf_fX11_text hp) (fun y τ hq hg => ?_)
      repeat (with_reducible refine rt_alK hq h2 (by omega) ?_)
      exact lw_end hq h6 hg hk
    refine rt_if (fun _ => ?_) (fun _ => ?_)
    · repeat (with_reducible refine rt_al h2 (by omega) ?_)
      refine lw_call h3 (q_force h _) (kf_fX11_force hp) (fun y τ hq hg => ?_)
      repeat (with_reducible refine rt_alK hq h2 (by omega) ?_)
      exact lw_end hq h6 hg hk
    refine rt_if (fun _ => ?_) (fun _ => ?_)
    · repeat (with_reducible refine rt_al h2 (by omega) ?_)
      refine lw_call h3 (q_way h _ _) (kf_fX11_way hp) (fun y τ hq hg => ?_)
      repeat (with_reducible refine rt_alK hq h2 (by omega) ?_)
      exact lw_end hq h6 hg hk
    refine rt_if (fun _ => ?_) (fun _ => ?_)
    · repeat (with_reducible refine rt_al h2 (by omega) ?_)
      refine lw_call h3 (q_wayTold h _ _) (kf_fX11_wayTold hp) (fun y τ hq hg => ?_)
      repeat (with_reducible refine rt_alK hq h2 (by omega) ?_)
      exact lw_end hq h6 hg hk
    refine rt_if (fun _ => ?_) (fun _ => ?_)
    · repeat (with_reducible refine rt_al h2 (by omega) ?_)
      refine lw_call h3 (q_set h _ _ _) (kf_fX11_set hp) (fun y τ hq hg => ?_)
      repeat (with_reducible refine rt_alK hq h2 (by omega) ?_)
      exact lw_end hq h6 hg hk
    refine rt_if (fun _ => ?_) (fun _ => ?_)
    · repeat (with_reducible refine rt_al h2 (by omega) ?_)
      refine lw_call h3 (q_of h _ _ _) (kf_fX11_of hp) (fun y τ hq hg => ?_)
      repeat (with_reducible refine rt_alK hq h2 (by omega) ?_)
      exact lw_end hq h6 hg hk
    refine rt_if (fun _ => ?_) (fun _ => ?_)
    · repeat (with_reducible refine rt_al h2 (by omega) ?_)
      refine lw_call h3 (q_line h _ _ _) (kf_fX11_line hp) (fun y τ hq hg => ?_)
      repeat (with_reducible refine rt_alK hq h2 (by omega) ?_)
      exact lw_end hq h6 hg hk
    refine rt_if (fun _ => ?_) (fun _ => ?_)
    · repeat (with_reducible refine rt_al h2 (by omega) ?_)
      refine lw_call h3 (q_passes h _ _) (kf_fX11_passes hp) (fun y τ hq hg => ?_)
      repeat (with_reducible refine rt_alK hq h2 (by omega) ?_)
      exact lw_end hq h6 hg hk
    refine rt_if (fun _ => ?_) (fun _ => ?_)
    · repeat (with_reducible refine rt_al h2 (by omega) ?_)
      refine lw_call h3 (q_sum h _ _) (kf_fX11_sum hp) (fun y τ hq hg => ?_)
      repeat (with_reducible refine rt_alK hq h2 (by omega) ?_)
      exact lw_endL hq h6 hg hk
    refine rt_if (fun _ => ?_) (fun _ => ?_)
    · repeat (with_reducible refine rt_al h2 (by omega) ?_)
      refine lw_call h3 (q_judge h _ _) (kf_fX11_judge hp) (fun y τ hq hg => ?_)
      repeat (with_reducible refine rt_alK hq h2 (by omega) ?_)
      exact lw_end hq h6 hg hk
    refine rt_if (fun _ => ?_) (fun _ => ?_)
    · repeat (with_reducible refine rt_al h2 (by omega) ?_)
      refine lw_call h3 (q_rest h _ _) (kf_fX11_rest hp) (fun y τ hq hg => ?_)
      repeat (with_reducible refine rt_alK hq h2 (by omega) ?_)
      exact lw_end hq h6 hg hk
    refine rt_if (fun _ => ?_) (fun _ => ?_)
    · repeat (with_reducible refine rt_al h2 (by omega) ?_)
      refine lw_call h3 (q_other h _ _ _) (kf_fX11_other hp) (fun y τ hq hg => ?_)
      repeat (with_reducible refine rt_alK hq h2 (by omega) ?_)
      exact lw_end hq h6 hg hk
    refine rt_if (fun _ => ?_) (fun _ => ?_)
    · repeat (with_reducible refine rt_al h2 (by omega) ?_)
      refine lw_call h3 (q_swap h _ _ _) (kf_fX11_swap hp) (fun y τ hq hg => ?_)
      repeat (with_reducible refine rt_alK hq h2 (by omega) ?_)
      exact lw_end hq h6 hg hk
    refine rt_if (fun _ => ?_) (fun _ => ?_)
    · repeat (with_reducible refine rt_al h2 (by omega) ?_)
      refine lw_call h3 (q_beside h _ _ _ _) (kf_fX11_beside hp) (fun y τ hq hg => ?_)
      repeat (with_reducible refine rt_alK hq h2 (by omega) ?_)
      exact lw_endL hq h6 hg hk
    refine rt_if (fun _ => ?_) (fun _ => ?_)
    · repeat (with_reducible refine rt_al h2 (by omega) ?_)
      refine lw_call h3 (q_sticks h _ _ _ _ _) (kf_fX11_sticks hp) (fun y τ hq hg => ?_)
      repeat (with_reducible refine rt_alK hq h2 (by omega) ?_)
      exact lw_endL hq h6 hg hk
    refine rt_if (fun _ => ?_) (fun _ => ?_)
    · repeat (with_reducible refine rt_al h2 (by omega) ?_)
      refine lw_call h3 (q_shift h _ _) (kf_fX11_shift hp) (fun y τ hq hg => ?_)
      repeat (with_reducible refine rt_alK hq h2 (by omega) ?_)
      exact lw_endL hq h6 hg hk
    refine rt_if (fun _ => ?_) (fun _ => ?_)
    · repeat (with_reducible refine rt_al h2 (by omega) ?_)
      refine lw_call h3 (q_finest h _ _ _ _) (kf_fX11_finest hp) (fun y τ hq hg => ?_)
      repeat (with_reducible refine rt_alK hq h2 (by omega) ?_)
      exact lw_end hq h6 hg hk
    refine rt_if (fun _ => ?_) (fun _ => ?_)
    · repeat (with_reducible refine rt_al h2 (by omega) ?_)
      refine lw_call h3 (q_split h _ _ _ _) (kf_fX11_split hp) (fun y τ hq hg => ?_)
      repeat (with_reducible refine rt_alK hq h2 (by omega) ?_)
      exact lw_endL hq h6 hg hk
    refine rt_if (fun _ => ?_) (fun _ => ?_)
    · repeat (with_reducible refine rt_al h2 (by omega) ?_)
      refine lw_call h3 (q_count h _) (kf_fX11_count hp) (fun y τ hq hg => ?_)
      repeat (with_reducible refine rt_alK hq h2 (by omega) ?_)
      exact lw_end hq h6 hg hk
    refine rt_if (fun _ => ?_) (fun _ => ?_)
    · repeat (with_reducible refine rt_al h2 (by omega) ?_)
      refine lw_call h3 (q_image h) (kf_fX11_image hp) (fun y τ hq hg => ?_)
      repeat (with_reducible refine rt_alK hq h2 (by omega) ?_)
      exact lw_end hq h6 hg hk
    refine rt_if (fun _ => ?_) (fun _ => ?_)
    · repeat (with_reducible refine rt_al h2 (by omega) ?_)
      refine lw_call h3 (q_back h) (kf_fX11_back hp) (fun y τ hq hg => ?_)
      repeat (with_reducible refine rt_alK hq h2 (by omega) ?_)
      exact lw_end hq h6 hg hk
    refine rt_if (fun _ => ?_) (fun _ => ?_)
    · repeat (with_reducible refine rt_al h2 (by omega) ?_)
      refine lw_call h3 (q_sheet h _ _ _) (kf_fX11_sheet hp) (fun y τ hq hg => ?_)
      repeat (with_reducible refine rt_alK hq h2 (by omega) ?_)
      exact lw_end hq h6 hg hk
    refine rt_if (fun _ => ?_) (fun _ => ?_)
    · repeat (with_reducible refine rt_al h2 (by omega) ?_)
      refine lw_call h3 (q_cell h _ _ _) (kf_fX11_cell hp) (fun y τ hq hg => ?_)
      repeat (with_reducible refine rt_alK hq h2 (by omega) ?_)
      exact lw_end hq h6 hg hk
    refine rt_if (fun _ => ?_) (fun _ => ?_)
    · repeat (with_reducible refine rt_al h2 (by omega) ?_)
      refine lw_call h3 (q_copy h _ _ _ _ _ (h.2.2.2.2.2.2.2.2.2.2.2 _)) (kf_fX11_copy hp) (fun y τ hq hg => ?_)
      repeat (with_reducible refine rt_alK hq h2 (by omega) ?_)
      exact lw_end hq h6 hg hk
    refine rt_if (fun _ => ?_) (fun _ => ?_)
    · repeat (with_reducible refine rt_al h2 (by omega) ?_)
      refine lw_call h3 (q_rates h _ _ _ _ (h.2.2.2.2.2.2.2.2.2.2.2 _)) (kf_fX11_rates hp) (fun y τ hq hg => ?_)
      repeat (with_reducible refine rt_alK hq h2 (by omega) ?_)
      exact lw_end hq h6 hg hk
    refine rt_if (fun _ => ?_) (fun _ => ?_)
    · repeat (with_reducible refine rt_al h2 (by omega) ?_)
      refine lw_call h3 (q_taken h _ _) (kf_fX11_taken hp) (fun y τ hq hg => ?_)
      repeat (with_reducible refine rt_alK hq h2 (by omega) ?_)
      exact lw_end hq h6 hg hk
    exact hk σ h (by omega) (by omega)
