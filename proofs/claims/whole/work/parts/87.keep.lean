/-! no program of the class's writes the script's cell -/
def Kp (b σ : ZS) : Prop := (sK σ 2 = sK b 2 ∧ sL σ 2 = sL b 2 ∧ ∀ i, sM σ 2 i = sM b 2 i) ∧ 65 ≤ sN σ ∧ sK σ 64 = sK b 64
def KK (b : ZS) (P : Option (Int × ZS)) : Prop := ∀ v τ, P = some (v, τ) → Kp b τ
def KK1 (b : ZS) (k : ZS → Option (Int × ZS)) : Prop := ∀ s, Kp b s → KK b (k s)
def KK2 (b : ZS) (k : ZS → Int → Option (Int × ZS)) : Prop := ∀ s v, Kp b s → KK b (k s v)
def KK3 (b : ZS) (k : ZS → Int → Int → Option (Int × ZS)) : Prop := ∀ s v w, Kp b s → KK b (k s v w)
def KK4 (b : ZS) (k : ZS → Int → Int → Int → Option (Int × ZS)) : Prop := ∀ s v w x, Kp b s → KK b (k s v w x)
def RF (b : ZS) (rf : Nat → ZS → Int → Int → Option (Int × ZS)) : Prop := ∀ t s x y, Kp b s → KK b (rf t s x y)
section KKr
variable {b σ : ZS}
theorem kk1i {k : ZS → Option (Int × ZS)} (h : ∀ s, Kp b s → KK b (k s)) : KK1 b k := h
theorem kk2i {k : ZS → Int → Option (Int × ZS)} (h : ∀ s v, Kp b s → KK b (k s v)) : KK2 b k := h
theorem kk3i {k : ZS → Int → Int → Option (Int × ZS)} (h : ∀ s v w, Kp b s → KK b (k s v w)) : KK3 b k := h
theorem kk4i {k : ZS → Int → Int → Int → Option (Int × ZS)} (h : ∀ s v w x, Kp b s → KK b (k s v w x)) : KK4 b k := h
theorem kk1 {k : ZS → Option (Int × ZS)} {s : ZS} (h : KK1 b k) (hs : Kp b s) : KK b (k s) := h s hs
theorem kk2 {k : ZS → Int → Option (Int × ZS)} {s : ZS} {v : Int} (h : KK2 b k) (hs : Kp b s) : KK b (k s v) := h s v hs
theorem kk3 {k : ZS → Int → Int → Option (Int × ZS)} {s : ZS} {v w : Int} (h : KK3 b k) (hs : Kp b s) : KK b (k s v w) := h s v w hs
theorem kk4 {k : ZS → Int → Int → Int → Option (Int × ZS)} {s : ZS} {v w x : Int} (h : KK4 b k) (hs : Kp b s) : KK b (k s v w x) := h s v w x hs
theorem kkr {rf : Nat → ZS → Int → Int → Option (Int × ZS)} {s : ZS} {t : Nat} {x y : Int} (hr : RF b rf) (h : Kp b s) : KK b (rf t s x y) := hr t s x y h
theorem kk_none : KK b none := by intro v τ e; cases e
theorem kk_ret {v : Int} (h : Kp b σ) : KK b (some (v, σ)) := by intro w τ e; cases e; exact h
theorem kk_if {c : Prop} {d : Decidable c} {P Q : Option (Int × ZS)} (h : KK b P) (k : KK b Q) : KK b (@ite _ c d P Q) := by
  by_cases hc : c
  · rw [if_pos hc]; exact h
  · rw [if_neg hc]; exact k
theorem Kp.up {a i v : Int} (h : Kp b σ) (ha : 3 ≤ a) : Kp b (upM σ a i v) := ⟨⟨h.1.1, h.1.2.1, fun j => by rw [sM_upM, if_neg (by omega)]; exact h.1.2.2 j⟩, h.2⟩
theorem Kp.upr {a : Int} {f : Int → Int} (h : Kp b σ) (ha : 3 ≤ a) : Kp b (upR σ a f) := ⟨⟨h.1.1, h.1.2.1, fun j => by rw [sM_upR, if_neg (by omega)]; exact h.1.2.2 j⟩, h.2⟩
theorem Kp.mk {k len : Int} {dv : Int → Int} {w : Nat} (h : Kp b σ) : Kp b (mkC σ k len dv w) := by
  have h3 := h.2.1
  refine ⟨⟨?_, ?_, fun j => ?_⟩, ?_, ?_⟩
  · rw [sK_mkC, if_neg (by omega)]; exact h.1.1
  · rw [sL_mkC, if_neg (by omega)]; exact h.1.2.1
  · rw [sM_mkC, if_neg (by omega)]; exact h.1.2.2 j
  · rw [sN_mkC]; omega
  · rw [sK_mkC, if_neg (by omega)]; exact h.2.2
theorem Kp.new {c : Int} {n : Nat} (h : Kp b σ) : Kp b (znew σ c n) := h.mk
theorem Kp.mul {m : Int} (h : Kp b σ) : Kp b (zmul σ m) := by
  have h3 := h.2.1
  refine ⟨⟨?_, ?_, fun j => ?_⟩, ?_, ?_⟩
  · show (if (2 : Int) = (sN σ : Int) then (102 : Int) else if (2 : Int) = (sN σ : Int) + 1 ∨ (2 : Int) = (sN σ : Int) + 2 then 100 else sK σ 2) = sK b 2
    rw [if_neg (by omega), if_neg (by omega)]; exact h.1.1
  · show (if (2 : Int) = (sN σ : Int) then 2 else if (2 : Int) = (sN σ : Int) + 1 ∨ (2 : Int) = (sN σ : Int) + 2 then m else sL σ 2) = sL b 2
    rw [if_neg (by omega), if_neg (by omega)]; exact h.1.2.1
  · show (if (2 : Int) = (sN σ : Int) then (if j = 0 then (sN σ : Int) + 1 else if j = 1 then (sN σ : Int) + 2 else -1) else if (2 : Int) = (sN σ : Int) + 1 ∨ (2 : Int) = (sN σ : Int) + 2 then 0 else sM σ 2 j) = sM b 2 j
    rw [if_neg (by omega), if_neg (by omega)]; exact h.1.2.2 j
  · show 65 ≤ sN σ + 3; omega
  · show (if (64 : Int) = (sN σ : Int) then (102 : Int) else if (64 : Int) = (sN σ : Int) + 1 ∨ (64 : Int) = (sN σ : Int) + 2 then 100 else sK σ 64) = sK b 64
    rw [if_neg (by omega), if_neg (by omega)]; exact h.2.2
theorem kk_b {F : Option (Int × ZS)} {O : Int → ZS → Option (Int × ZS)} (h : KK b F) (k : ∀ v s, Kp b s → KK b (O v s)) : KK b (zb F O) := by
  intro w ρ e
  cases hF : F with
  | none => rw [hF] at e; cases e
  | some r =>
    obtain ⟨x, t⟩ := r
    rw [hF] at e
    exact k x t (h x t hF) w ρ e
theorem kk_g {x : Option Int} {O : Int → Option (Int × ZS)} (k : ∀ v, KK b (O v)) : KK b (x.bind O) := by
  cases x with
  | none => exact kk_none
  | some v => exact k v
theorem kk_v {c a : Int} {P : Option (Int × ZS)} (h : KK b P) : KK b (zv σ c a P) := by unfold zv; exact kk_if h kk_none
theorem kk_w {a : Int} {P Q R S T U : Option (Int × ZS)} (h1 : KK b P) (h2 : KK b Q) (h3 : KK b R) (h4 : KK b S) (h5 : KK b T) (h6 : KK b U) : KK b (zw σ a P Q R S T U) := by
  unfold zw
  exact kk_if h1 (kk_if h2 (kk_if h3 (kk_if h4 (kk_if h5 (kk_if h6 kk_none)))))
theorem kk_sif {c : Prop} {d : Decidable c} {t : ZS} {O : ZS → Option (Int × ZS)} (h : c → Kp b t) (k : ∀ s, Kp b s → KK b (O s)) : KK b ((@ite _ c d (some t) none).bind O) := by
  by_cases hc : c
  · rw [if_pos hc]; exact k t (h hc)
  · rw [if_neg hc]; exact kk_none
theorem kk_p {c a i v : Int} {O : ZS → Option (Int × ZS)} (h : Kp b σ) (k : ∀ s, Kp b s → KK b (O s)) : KK b ((zp σ c a i v).bind O) := by unfold zp; exact kk_sif (fun q => h.up q.2) k
theorem kk_pw {a i v : Int} {O : ZS → Option (Int × ZS)} (h : Kp b σ) (k : ∀ s, Kp b s → KK b (O s)) : KK b ((zpw σ a i v).bind O) := by unfold zpw; exact kk_sif (fun q => h.up q.2) k
theorem kk_as {c a i v : Int} {O : ZS → Option (Int × ZS)} (h : Kp b σ) (k : ∀ s, Kp b s → KK b (O s)) : KK b ((zas σ c a i v).bind O) := by unfold zas; exact kk_sif (fun q => h.up q.2.1) k
theorem kk_ar {c a i v : Int} {ok : Int → Bool} {O : ZS → Option (Int × ZS)} (h : Kp b σ) (k : ∀ s, Kp b s → KK b (O s)) : KK b ((zar σ c a i ok v).bind O) := by unfold zar; exact kk_sif (fun q => h.up q.2.1) k
theorem kk_na {c n : Int} {O : ZS → Option (Int × ZS)} (h : Kp b σ) (k : ∀ s, Kp b s → KK b (O s)) : KK b ((zna σ c n).bind O) := by unfold zna; exact kk_sif (fun _ => h.mk) k
theorem kk_cp {a i x j n : Int} {O : ZS → Option (Int × ZS)} (h : Kp b σ) (k : ∀ s, Kp b s → KK b (O s)) : KK b ((zcp σ a i x j n).bind O) := by unfold zcp; exact kk_sif (fun q => h.upr q.2.2.1) k
theorem kk_jn1 {B : (ZS → Option (Int × ZS)) → Option (Int × ZS)} {k : ZS → Option (Int × ZS)} (h : ∀ k, KK1 b k → KK b (B k)) (hk : KK1 b k) : KK b (zjn B k) := h k hk
theorem kk_jn2 {B : (ZS → Int → Option (Int × ZS)) → Option (Int × ZS)} {k : ZS → Int → Option (Int × ZS)} (h : ∀ k, KK2 b k → KK b (B k)) (hk : KK2 b k) : KK b (zjn B k) := h k hk
theorem kk_jn3 {B : (ZS → Int → Int → Option (Int × ZS)) → Option (Int × ZS)} {k : ZS → Int → Int → Option (Int × ZS)} (h : ∀ k, KK3 b k → KK b (B k)) (hk : KK3 b k) : KK b (zjn B k) := h k hk
end KKr
theorem kf_fX8_init {b : ZS} {s0 : ZS} {a0 : Int} {a1 : Int} {a2 : Int} (h : Kp b s0) : KK b (fX8_init s0 a0 a1 a2) := by
  unfold fX8_init
  repeat' (first
    | with_reducible assumption
    | with_reducible exact kk_none
    | with_reducible exact kk_ret (by assumption)
    | with_reducible refine kk_if ?_ ?_
    | with_reducible refine kk_p ?_ (fun s h => ?_)
    | with_reducible refine kk_as ?_ (fun s h => ?_)
    | with_reducible refine kk_na ?_ (fun s h => ?_)
    | with_reducible refine kk_pw ?_ (fun s h => ?_)
    | with_reducible refine kk_ar ?_ (fun s h => ?_)
    | with_reducible refine kk_cp ?_ (fun s h => ?_)
    | with_reducible refine kk_b ?_ (fun v s h => ?_)
    | with_reducible refine kk_g (fun v => ?_)
    | with_reducible refine kk_v ?_
    | with_reducible refine kk_w ?_ ?_ ?_ ?_ ?_ ?_
    | with_reducible refine kk_jn1 (fun k hk => ?_) ?_
    | with_reducible refine kk_jn2 (fun k hk => ?_) ?_
    | with_reducible refine kk_jn3 (fun k hk => ?_) ?_
    | with_reducible refine kk1i (fun s h => ?_)
    | with_reducible refine kk2i (fun s v h => ?_)
    | with_reducible refine kk3i (fun s v w h => ?_)
    | with_reducible refine kk4i (fun s v w x h => ?_)
    | with_reducible exact Kp.mul (by assumption)
    | with_reducible exact Kp.new (by assumption)
    | with_reducible exact kk1 (by assumption) (by assumption)
    | with_reducible exact kk2 (by assumption) (by assumption)
    | with_reducible exact kk3 (by assumption) (by assumption)
    | with_reducible exact kk4 (by assumption) (by assumption))
theorem kf_fX11_within {b : ZS} {s0 : ZS} {a0 : Int} {a1 : Int} (h : Kp b s0) : KK b (fX11_within s0 a0 a1) := by
  unfold fX11_within
  repeat' (first
    | with_reducible assumption
    | with_reducible exact kk_none
    | with_reducible exact kk_ret (by assumption)
    | with_reducible refine kk_if ?_ ?_
    | with_reducible refine kk_p ?_ (fun s h => ?_)
    | with_reducible refine kk_as ?_ (fun s h => ?_)
    | with_reducible refine kk_na ?_ (fun s h => ?_)
    | with_reducible refine kk_pw ?_ (fun s h => ?_)
    | with_reducible refine kk_ar ?_ (fun s h => ?_)
    | with_reducible refine kk_cp ?_ (fun s h => ?_)
    | with_reducible refine kk_b ?_ (fun v s h => ?_)
    | with_reducible refine kk_g (fun v => ?_)
    | with_reducible refine kk_v ?_
    | with_reducible refine kk_w ?_ ?_ ?_ ?_ ?_ ?_
    | with_reducible refine kk_jn1 (fun k hk => ?_) ?_
    | with_reducible refine kk_jn2 (fun k hk => ?_) ?_
    | with_reducible refine kk_jn3 (fun k hk => ?_) ?_
    | with_reducible refine kk1i (fun s h => ?_)
    | with_reducible refine kk2i (fun s v h => ?_)
    | with_reducible refine kk3i (fun s v w h => ?_)
    | with_reducible refine kk4i (fun s v w x h => ?_)
    | with_reducible exact Kp.mul (by assumption)
    | with_reducible exact Kp.new (by assumption)
    | with_reducible exact kk1 (by assumption) (by assumption)
    | with_reducible exact kk2 (by assumption) (by assumption)
    | with_reducible exact kk3 (by assumption) (by assumption)
    | with_reducible exact kk4 (by assumption) (by assumption))
theorem kf_fX11_isGate {b : ZS} {s0 : ZS} {a0 : Int} (h : Kp b s0) : KK b (fX11_isGate s0 a0) := by
  unfold fX11_isGate
  repeat' (first
    | with_reducible assumption
    | with_reducible exact kk_none
    | with_reducible exact kk_ret (by assumption)
    | with_reducible refine kk_if ?_ ?_
    | with_reducible refine kk_p ?_ (fun s h => ?_)
    | with_reducible refine kk_as ?_ (fun s h => ?_)
    | with_reducible refine kk_na ?_ (fun s h => ?_)
    | with_reducible refine kk_pw ?_ (fun s h => ?_)
    | with_reducible refine kk_ar ?_ (fun s h => ?_)
    | with_reducible refine kk_cp ?_ (fun s h => ?_)
    | with_reducible refine kk_b ?_ (fun v s h => ?_)
    | with_reducible refine kk_g (fun v => ?_)
    | with_reducible refine kk_v ?_
    | with_reducible refine kk_w ?_ ?_ ?_ ?_ ?_ ?_
    | with_reducible refine kk_jn1 (fun k hk => ?_) ?_
    | with_reducible refine kk_jn2 (fun k hk => ?_) ?_
    | with_reducible refine kk_jn3 (fun k hk => ?_) ?_
    | with_reducible refine kk1i (fun s h => ?_)
    | with_reducible refine kk2i (fun s v h => ?_)
    | with_reducible refine kk3i (fun s v w h => ?_)
    | with_reducible refine kk4i (fun s v w x h => ?_)
    | with_reducible exact Kp.mul (by assumption)
    | with_reducible exact Kp.new (by assumption)
    | with_reducible exact kf_fX11_within (by first | assumption | exact Kp.mul (by assumption) | exact Kp.new (by assumption))
    | with_reducible exact kk1 (by assumption) (by assumption)
    | with_reducible exact kk2 (by assumption) (by assumption)
    | with_reducible exact kk3 (by assumption) (by assumption)
    | with_reducible exact kk4 (by assumption) (by assumption))
theorem kf_fX11_isMinute {b : ZS} {s0 : ZS} {a0 : Int} (h : Kp b s0) : KK b (fX11_isMinute s0 a0) := by
  unfold fX11_isMinute
  repeat' (first
    | with_reducible assumption
    | with_reducible exact kk_none
    | with_reducible exact kk_ret (by assumption)
    | with_reducible refine kk_if ?_ ?_
    | with_reducible refine kk_p ?_ (fun s h => ?_)
    | with_reducible refine kk_as ?_ (fun s h => ?_)
    | with_reducible refine kk_na ?_ (fun s h => ?_)
    | with_reducible refine kk_pw ?_ (fun s h => ?_)
    | with_reducible refine kk_ar ?_ (fun s h => ?_)
    | with_reducible refine kk_cp ?_ (fun s h => ?_)
    | with_reducible refine kk_b ?_ (fun v s h => ?_)
    | with_reducible refine kk_g (fun v => ?_)
    | with_reducible refine kk_v ?_
    | with_reducible refine kk_w ?_ ?_ ?_ ?_ ?_ ?_
    | with_reducible refine kk_jn1 (fun k hk => ?_) ?_
    | with_reducible refine kk_jn2 (fun k hk => ?_) ?_
    | with_reducible refine kk_jn3 (fun k hk => ?_) ?_
    | with_reducible refine kk1i (fun s h => ?_)
    | with_reducible refine kk2i (fun s v h => ?_)
    | with_reducible refine kk3i (fun s v w h => ?_)
    | with_reducible refine kk4i (fun s v w x h => ?_)
    | with_reducible exact Kp.mul (by assumption)
    | with_reducible exact Kp.new (by assumption)
    | with_reducible exact kf_fX11_within (by first | assumption | exact Kp.mul (by assumption) | exact Kp.new (by assumption))
    | with_reducible exact kk1 (by assumption) (by assumption)
    | with_reducible exact kk2 (by assumption) (by assumption)
    | with_reducible exact kk3 (by assumption) (by assumption)
    | with_reducible exact kk4 (by assumption) (by assumption))
theorem kl_lX11_rate_56 {b : ZS} {u20 u21 u22 u23 u24 : Int} : ∀ (n : Nat) (s : ZS) (x0 : Int), Kp b s → KK b (lX11_rate_56 u20 u21 u22 u23 u24 n s x0) := by
  intro n
  induction n with
  | zero => intro s x0 h; exact kk_none
  | succ n ih =>
    intro s x0 h
    rw [lX11_rate_56]
    repeat' (first
    | with_reducible assumption
    | with_reducible exact kk_none
    | with_reducible exact kk_ret (by assumption)
    | with_reducible refine kk_if ?_ ?_
    | with_reducible refine kk_p ?_ (fun s h => ?_)
    | with_reducible refine kk_as ?_ (fun s h => ?_)
    | with_reducible refine kk_na ?_ (fun s h => ?_)
    | with_reducible refine kk_pw ?_ (fun s h => ?_)
    | with_reducible refine kk_ar ?_ (fun s h => ?_)
    | with_reducible refine kk_cp ?_ (fun s h => ?_)
    | with_reducible refine kk_b ?_ (fun v s h => ?_)
    | with_reducible refine kk_g (fun v => ?_)
    | with_reducible refine kk_v ?_
    | with_reducible refine kk_w ?_ ?_ ?_ ?_ ?_ ?_
    | with_reducible refine kk_jn1 (fun k hk => ?_) ?_
    | with_reducible refine kk_jn2 (fun k hk => ?_) ?_
    | with_reducible refine kk_jn3 (fun k hk => ?_) ?_
    | with_reducible refine kk1i (fun s h => ?_)
    | with_reducible refine kk2i (fun s v h => ?_)
    | with_reducible refine kk3i (fun s v w h => ?_)
    | with_reducible refine kk4i (fun s v w x h => ?_)
    | with_reducible exact Kp.mul (by assumption)
    | with_reducible exact Kp.new (by assumption)
    | with_reducible exact ih _ _ (by assumption)
    | with_reducible exact kk1 (by assumption) (by assumption)
    | with_reducible exact kk2 (by assumption) (by assumption)
    | with_reducible exact kk3 (by assumption) (by assumption)
    | with_reducible exact kk4 (by assumption) (by assumption))
theorem kf_fX11_rate {b : ZS} {s0 : ZS} {a0 : Int} {a1 : Int} {a2 : Int} {a3 : Int} {a4 : Int} (h : Kp b s0) : KK b (fX11_rate s0 a0 a1 a2 a3 a4) := by
  unfold fX11_rate
  repeat' (first
    | with_reducible assumption
    | with_reducible exact kk_none
    | with_reducible exact kk_ret (by assumption)
    | with_reducible refine kk_if ?_ ?_
    | with_reducible refine kk_p ?_ (fun s h => ?_)
    | with_reducible refine kk_as ?_ (fun s h => ?_)
    | with_reducible refine kk_na ?_ (fun s h => ?_)
    | with_reducible refine kk_pw ?_ (fun s h => ?_)
    | with_reducible refine kk_ar ?_ (fun s h => ?_)
    | with_reducible refine kk_cp ?_ (fun s h => ?_)
    | with_reducible refine kk_b ?_ (fun v s h => ?_)
    | with_reducible refine kk_g (fun v => ?_)
    | with_reducible refine kk_v ?_
    | with_reducible refine kk_w ?_ ?_ ?_ ?_ ?_ ?_
    | with_reducible refine kk_jn1 (fun k hk => ?_) ?_
    | with_reducible refine kk_jn2 (fun k hk => ?_) ?_
    | with_reducible refine kk_jn3 (fun k hk => ?_) ?_
    | with_reducible refine kk1i (fun s h => ?_)
    | with_reducible refine kk2i (fun s v h => ?_)
    | with_reducible refine kk3i (fun s v w h => ?_)
    | with_reducible refine kk4i (fun s v w x h => ?_)
    | with_reducible exact Kp.mul (by assumption)
    | with_reducible exact Kp.new (by assumption)
    | with_reducible exact kf_fX11_within (by first | assumption | exact Kp.mul (by assumption) | exact Kp.new (by assumption))
    | with_reducible exact kf_fX11_isGate (by first | assumption | exact Kp.mul (by assumption) | exact Kp.new (by assumption))
    | with_reducible exact kf_fX11_isMinute (by first | assumption | exact Kp.mul (by assumption) | exact Kp.new (by assumption))
    | with_reducible refine kl_lX11_rate_56 _ _ _ ?_
    | with_reducible exact kk1 (by assumption) (by assumption)
    | with_reducible exact kk2 (by assumption) (by assumption)
    | with_reducible exact kk3 (by assumption) (by assumption)
    | with_reducible exact kk4 (by assumption) (by assumption))
theorem kf_fX11_toll {b : ZS} {s0 : ZS} {a0 : Int} {a1 : Int} {a2 : Int} {a3 : Int} (h : Kp b s0) : KK b (fX11_toll s0 a0 a1 a2 a3) := by
  unfold fX11_toll
  repeat' (first
    | with_reducible assumption
    | with_reducible exact kk_none
    | with_reducible exact kk_ret (by assumption)
    | with_reducible refine kk_if ?_ ?_
    | with_reducible refine kk_p ?_ (fun s h => ?_)
    | with_reducible refine kk_as ?_ (fun s h => ?_)
    | with_reducible refine kk_na ?_ (fun s h => ?_)
    | with_reducible refine kk_pw ?_ (fun s h => ?_)
    | with_reducible refine kk_ar ?_ (fun s h => ?_)
    | with_reducible refine kk_cp ?_ (fun s h => ?_)
    | with_reducible refine kk_b ?_ (fun v s h => ?_)
    | with_reducible refine kk_g (fun v => ?_)
    | with_reducible refine kk_v ?_
    | with_reducible refine kk_w ?_ ?_ ?_ ?_ ?_ ?_
    | with_reducible refine kk_jn1 (fun k hk => ?_) ?_
    | with_reducible refine kk_jn2 (fun k hk => ?_) ?_
    | with_reducible refine kk_jn3 (fun k hk => ?_) ?_
    | with_reducible refine kk1i (fun s h => ?_)
    | with_reducible refine kk2i (fun s v h => ?_)
    | with_reducible refine kk3i (fun s v w h => ?_)
    | with_reducible refine kk4i (fun s v w x h => ?_)
    | with_reducible exact Kp.mul (by assumption)
    | with_reducible exact Kp.new (by assumption)
    | with_reducible exact kf_fX11_within (by first | assumption | exact Kp.mul (by assumption) | exact Kp.new (by assumption))
    | with_reducible exact kf_fX11_isGate (by first | assumption | exact Kp.mul (by assumption) | exact Kp.new (by assumption))
    | with_reducible exact kf_fX11_isMinute (by first | assumption | exact Kp.mul (by assumption) | exact Kp.new (by assumption))
    | with_reducible exact kk1 (by assumption) (by assumption)
    | with_reducible exact kk2 (by assumption) (by assumption)
    | with_reducible exact kk3 (by assumption) (by assumption)
    | with_reducible exact kk4 (by assumption) (by assumption))
theorem kf_fX11_sort {b : ZS} {s0 : ZS} {a0 : Int} {a1 : Int} {a2 : Int} {a3 : Int} {a4 : Int} (h : Kp b s0) : KK b (fX11_sort s0 a0 a1 a2 a3 a4) := by
  unfold fX11_sort
  repeat' (first
    | with_reducible assumption
    | with_reducible exact kk_none
    | with_reducible exact kk_ret (by assumption)
    | with_reducible refine kk_if ?_ ?_
    | with_reducible refine kk_p ?_ (fun s h => ?_)
    | with_reducible refine kk_as ?_ (fun s h => ?_)
    | with_reducible refine kk_na ?_ (fun s h => ?_)
    | with_reducible refine kk_pw ?_ (fun s h => ?_)
    | with_reducible refine kk_ar ?_ (fun s h => ?_)
    | with_reducible refine kk_cp ?_ (fun s h => ?_)
    | with_reducible refine kk_b ?_ (fun v s h => ?_)
    | with_reducible refine kk_g (fun v => ?_)
    | with_reducible refine kk_v ?_
    | with_reducible refine kk_w ?_ ?_ ?_ ?_ ?_ ?_
    | with_reducible refine kk_jn1 (fun k hk => ?_) ?_
    | with_reducible refine kk_jn2 (fun k hk => ?_) ?_
    | with_reducible refine kk_jn3 (fun k hk => ?_) ?_
    | with_reducible refine kk1i (fun s h => ?_)
    | with_reducible refine kk2i (fun s v h => ?_)
    | with_reducible refine kk3i (fun s v w h => ?_)
    | with_reducible refine kk4i (fun s v w x h => ?_)
    | with_reducible exact Kp.mul (by assumption)
    | with_reducible exact Kp.new (by assumption)
    | with_reducible exact kf_fX11_within (by first | assumption | exact Kp.mul (by assumption) | exact Kp.new (by assumption))
    | with_reducible exact kf_fX11_isMinute (by first | assumption | exact Kp.mul (by assumption) | exact Kp.new (by assumption))
    | with_reducible exact kk1 (by assumption) (by assumption)
    | with_reducible exact kk2 (by assumption) (by assumption)
    | with_reducible exact kk3 (by assumption) (by assumption)
    | with_reducible exact kk4 (by assumption) (by assumption))
theorem kf_fX11_isSort {b : ZS} {s0 : ZS} {a0 : Int} {a1 : Int} (h : Kp b s0) : KK b (fX11_isSort s0 a0 a1) := by
  unfold fX11_isSort
  repeat' (first
    | with_reducible assumption
    | with_reducible exact kk_none
    | with_reducible exact kk_ret (by assumption)
    | with_reducible refine kk_if ?_ ?_
    | with_reducible refine kk_p ?_ (fun s h => ?_)
    | with_reducible refine kk_as ?_ (fun s h => ?_)
    | with_reducible refine kk_na ?_ (fun s h => ?_)
    | with_reducible refine kk_pw ?_ (fun s h => ?_)
    | with_reducible refine kk_ar ?_ (fun s h => ?_)
    | with_reducible refine kk_cp ?_ (fun s h => ?_)
    | with_reducible refine kk_b ?_ (fun v s h => ?_)
    | with_reducible refine kk_g (fun v => ?_)
    | with_reducible refine kk_v ?_
    | with_reducible refine kk_w ?_ ?_ ?_ ?_ ?_ ?_
    | with_reducible refine kk_jn1 (fun k hk => ?_) ?_
    | with_reducible refine kk_jn2 (fun k hk => ?_) ?_
    | with_reducible refine kk_jn3 (fun k hk => ?_) ?_
    | with_reducible refine kk1i (fun s h => ?_)
    | with_reducible refine kk2i (fun s v h => ?_)
    | with_reducible refine kk3i (fun s v w h => ?_)
    | with_reducible refine kk4i (fun s v w x h => ?_)
    | with_reducible exact Kp.mul (by assumption)
    | with_reducible exact Kp.new (by assumption)
    | with_reducible exact kk1 (by assumption) (by assumption)
    | with_reducible exact kk2 (by assumption) (by assumption)
    | with_reducible exact kk3 (by assumption) (by assumption)
    | with_reducible exact kk4 (by assumption) (by assumption))
theorem kf_fX11_cart {b : ZS} {s0 : ZS} {a0 : Int} {a1 : Int} (h : Kp b s0) : KK b (fX11_cart s0 a0 a1) := by
  unfold fX11_cart
  repeat' (first
    | with_reducible assumption
    | with_reducible exact kk_none
    | with_reducible exact kk_ret (by assumption)
    | with_reducible refine kk_if ?_ ?_
    | with_reducible refine kk_p ?_ (fun s h => ?_)
    | with_reducible refine kk_as ?_ (fun s h => ?_)
    | with_reducible refine kk_na ?_ (fun s h => ?_)
    | with_reducible refine kk_pw ?_ (fun s h => ?_)
    | with_reducible refine kk_ar ?_ (fun s h => ?_)
    | with_reducible refine kk_cp ?_ (fun s h => ?_)
    | with_reducible refine kk_b ?_ (fun v s h => ?_)
    | with_reducible refine kk_g (fun v => ?_)
    | with_reducible refine kk_v ?_
    | with_reducible refine kk_w ?_ ?_ ?_ ?_ ?_ ?_
    | with_reducible refine kk_jn1 (fun k hk => ?_) ?_
    | with_reducible refine kk_jn2 (fun k hk => ?_) ?_
    | with_reducible refine kk_jn3 (fun k hk => ?_) ?_
    | with_reducible refine kk1i (fun s h => ?_)
    | with_reducible refine kk2i (fun s v h => ?_)
    | with_reducible refine kk3i (fun s v w h => ?_)
    | with_reducible refine kk4i (fun s v w x h => ?_)
    | with_reducible exact Kp.mul (by assumption)
    | with_reducible exact Kp.new (by assumption)
    | with_reducible exact kf_fX11_isSort (by first | assumption | exact Kp.mul (by assumption) | exact Kp.new (by assumption))
    | with_reducible exact kk1 (by assumption) (by assumption)
    | with_reducible exact kk2 (by assumption) (by assumption)
    | with_reducible exact kk3 (by assumption) (by assumption)
    | with_reducible exact kk4 (by assumption) (by assumption))
theorem kf_fX11_wishes {b : ZS} {s0 : ZS} {a0 : Int} {a1 : Int} {a2 : Int} (h : Kp b s0) : KK b (fX11_wishes s0 a0 a1 a2) := by
  unfold fX11_wishes
  repeat' (first
    | with_reducible assumption
    | with_reducible exact kk_none
    | with_reducible exact kk_ret (by assumption)
    | with_reducible refine kk_if ?_ ?_
    | with_reducible refine kk_p ?_ (fun s h => ?_)
    | with_reducible refine kk_as ?_ (fun s h => ?_)
    | with_reducible refine kk_na ?_ (fun s h => ?_)
    | with_reducible refine kk_pw ?_ (fun s h => ?_)
    | with_reducible refine kk_ar ?_ (fun s h => ?_)
    | with_reducible refine kk_cp ?_ (fun s h => ?_)
    | with_reducible refine kk_b ?_ (fun v s h => ?_)
    | with_reducible refine kk_g (fun v => ?_)
    | with_reducible refine kk_v ?_
    | with_reducible refine kk_w ?_ ?_ ?_ ?_ ?_ ?_
    | with_reducible refine kk_jn1 (fun k hk => ?_) ?_
    | with_reducible refine kk_jn2 (fun k hk => ?_) ?_
    | with_reducible refine kk_jn3 (fun k hk => ?_) ?_
    | with_reducible refine kk1i (fun s h => ?_)
    | with_reducible refine kk2i (fun s v h => ?_)
    | with_reducible refine kk3i (fun s v w h => ?_)
    | with_reducible refine kk4i (fun s v w x h => ?_)
    | with_reducible exact Kp.mul (by assumption)
    | with_reducible exact Kp.new (by assumption)
    | with_reducible exact kf_fX11_isMinute (by first | assumption | exact Kp.mul (by assumption) | exact Kp.new (by assumption))
    | with_reducible exact kf_fX11_isSort (by first | assumption | exact Kp.mul (by assumption) | exact Kp.new (by assumption))
    | with_reducible exact kk1 (by assumption) (by assumption)
    | with_reducible exact kk2 (by assumption) (by assumption)
    | with_reducible exact kk3 (by assumption) (by assumption)
    | with_reducible exact kk4 (by assumption) (by assumption))
theorem kf_fX11_gateTold {b : ZS} {s0 : ZS} {a0 : Int} {a1 : Int} {a2 : Int} {a3 : Int} (h : Kp b s0) : KK b (fX11_gateTold s0 a0 a1 a2 a3) := by
  unfold fX11_gateTold
  repeat' (first
    | with_reducible assumption
    | with_reducible exact kk_none
    | with_reducible exact kk_ret (by assumption)
    | with_reducible refine kk_if ?_ ?_
    | with_reducible refine kk_p ?_ (fun s h => ?_)
    | with_reducible refine kk_as ?_ (fun s h => ?_)
    | with_reducible refine kk_na ?_ (fun s h => ?_)
    | with_reducible refine kk_pw ?_ (fun s h => ?_)
    | with_reducible refine kk_ar ?_ (fun s h => ?_)
    | with_reducible refine kk_cp ?_ (fun s h => ?_)
    | with_reducible refine kk_b ?_ (fun v s h => ?_)
    | with_reducible refine kk_g (fun v => ?_)
    | with_reducible refine kk_v ?_
    | with_reducible refine kk_w ?_ ?_ ?_ ?_ ?_ ?_
    | with_reducible refine kk_jn1 (fun k hk => ?_) ?_
    | with_reducible refine kk_jn2 (fun k hk => ?_) ?_
    | with_reducible refine kk_jn3 (fun k hk => ?_) ?_
    | with_reducible refine kk1i (fun s h => ?_)
    | with_reducible refine kk2i (fun s v h => ?_)
    | with_reducible refine kk3i (fun s v w h => ?_)
    | with_reducible refine kk4i (fun s v w x h => ?_)
    | with_reducible exact Kp.mul (by assumption)
    | with_reducible exact Kp.new (by assumption)
    | with_reducible exact kf_fX11_isGate (by first | assumption | exact Kp.mul (by assumption) | exact Kp.new (by assumption))
    | with_reducible exact kf_fX11_isMinute (by first | assumption | exact Kp.mul (by assumption) | exact Kp.new (by assumption))
    | with_reducible exact kk1 (by assumption) (by assumption)
    | with_reducible exact kk2 (by assumption) (by assumption)
    | with_reducible exact kk3 (by assumption) (by assumption)
    | with_reducible exact kk4 (by assumption) (by assumption))
theorem kf_fX11_sortTold {b : ZS} {s0 : ZS} {a0 : Int} {a1 : Int} {a2 : Int} (h : Kp b s0) : KK b (fX11_sortTold s0 a0 a1 a2) := by
  unfold fX11_sortTold
  repeat' (first
    | with_reducible assumption
    | with_reducible exact kk_none
    | with_reducible exact kk_ret (by assumption)
    | with_reducible refine kk_if ?_ ?_
    | with_reducible refine kk_p ?_ (fun s h => ?_)
    | with_reducible refine kk_as ?_ (fun s h => ?_)
    | with_reducible refine kk_na ?_ (fun s h => ?_)
    | with_reducible refine kk_pw ?_ (fun s h => ?_)
    | with_reducible refine kk_ar ?_ (fun s h => ?_)
    | with_reducible refine kk_cp ?_ (fun s h => ?_)
    | with_reducible refine kk_b ?_ (fun v s h => ?_)
    | with_reducible refine kk_g (fun v => ?_)
    | with_reducible refine kk_v ?_
    | with_reducible refine kk_w ?_ ?_ ?_ ?_ ?_ ?_
    | with_reducible refine kk_jn1 (fun k hk => ?_) ?_
    | with_reducible refine kk_jn2 (fun k hk => ?_) ?_
    | with_reducible refine kk_jn3 (fun k hk => ?_) ?_
    | with_reducible refine kk1i (fun s h => ?_)
    | with_reducible refine kk2i (fun s v h => ?_)
    | with_reducible refine kk3i (fun s v w h => ?_)
    | with_reducible refine kk4i (fun s v w x h => ?_)
    | with_reducible exact Kp.mul (by assumption)
    | with_reducible exact Kp.new (by assumption)
    | with_reducible exact kf_fX11_isSort (by first | assumption | exact Kp.mul (by assumption) | exact Kp.new (by assumption))
    | with_reducible exact kk1 (by assumption) (by assumption)
    | with_reducible exact kk2 (by assumption) (by assumption)
    | with_reducible exact kk3 (by assumption) (by assumption)
    | with_reducible exact kk4 (by assumption) (by assumption))
theorem kl_lX4_append_19 {b : ZS} {u4 u5 : Int} : ∀ (n : Nat) (s : ZS) (x0 : Int), Kp b s → KK b (lX4_append_19 u4 u5 n s x0) := by
  intro n
  induction n with
  | zero => intro s x0 h; exact kk_none
  | succ n ih =>
    intro s x0 h
    rw [lX4_append_19]
    repeat' (first
    | with_reducible assumption
    | with_reducible exact kk_none
    | with_reducible exact kk_ret (by assumption)
    | with_reducible refine kk_if ?_ ?_
    | with_reducible refine kk_p ?_ (fun s h => ?_)
    | with_reducible refine kk_as ?_ (fun s h => ?_)
    | with_reducible refine kk_na ?_ (fun s h => ?_)
    | with_reducible refine kk_pw ?_ (fun s h => ?_)
    | with_reducible refine kk_ar ?_ (fun s h => ?_)
    | with_reducible refine kk_cp ?_ (fun s h => ?_)
    | with_reducible refine kk_b ?_ (fun v s h => ?_)
    | with_reducible refine kk_g (fun v => ?_)
    | with_reducible refine kk_v ?_
    | with_reducible refine kk_w ?_ ?_ ?_ ?_ ?_ ?_
    | with_reducible refine kk_jn1 (fun k hk => ?_) ?_
    | with_reducible refine kk_jn2 (fun k hk => ?_) ?_
    | with_reducible refine kk_jn3 (fun k hk => ?_) ?_
    | with_reducible refine kk1i (fun s h => ?_)
    | with_reducible refine kk2i (fun s v h => ?_)
    | with_reducible refine kk3i (fun s v w h => ?_)
    | with_reducible refine kk4i (fun s v w x h => ?_)
    | with_reducible exact Kp.mul (by assumption)
    | with_reducible exact Kp.new (by assumption)
    | with_reducible exact ih _ _ (by assumption)
    | with_reducible exact kk1 (by assumption) (by assumption)
    | with_reducible exact kk2 (by assumption) (by assumption)
    | with_reducible exact kk3 (by assumption) (by assumption)
    | with_reducible exact kk4 (by assumption) (by assumption))
theorem kf_fX4_append {b : ZS} {s0 : ZS} {a0 : Int} {a1 : Int} {a3 : Int} (h : Kp b s0) : KK b (fX4_append s0 a0 a1 a3) := by
  unfold fX4_append
  repeat' (first
    | with_reducible assumption
    | with_reducible exact kk_none
    | with_reducible exact kk_ret (by assumption)
    | with_reducible refine kk_if ?_ ?_
    | with_reducible refine kk_p ?_ (fun s h => ?_)
    | with_reducible refine kk_as ?_ (fun s h => ?_)
    | with_reducible refine kk_na ?_ (fun s h => ?_)
    | with_reducible refine kk_pw ?_ (fun s h => ?_)
    | with_reducible refine kk_ar ?_ (fun s h => ?_)
    | with_reducible refine kk_cp ?_ (fun s h => ?_)
    | with_reducible refine kk_b ?_ (fun v s h => ?_)
    | with_reducible refine kk_g (fun v => ?_)
    | with_reducible refine kk_v ?_
    | with_reducible refine kk_w ?_ ?_ ?_ ?_ ?_ ?_
    | with_reducible refine kk_jn1 (fun k hk => ?_) ?_
    | with_reducible refine kk_jn2 (fun k hk => ?_) ?_
    | with_reducible refine kk_jn3 (fun k hk => ?_) ?_
    | with_reducible refine kk1i (fun s h => ?_)
    | with_reducible refine kk2i (fun s v h => ?_)
    | with_reducible refine kk3i (fun s v w h => ?_)
    | with_reducible refine kk4i (fun s v w x h => ?_)
    | with_reducible exact Kp.mul (by assumption)
    | with_reducible exact Kp.new (by assumption)
    | with_reducible refine kl_lX4_append_19 _ _ _ ?_
    | with_reducible exact kk1 (by assumption) (by assumption)
    | with_reducible exact kk2 (by assumption) (by assumption)
    | with_reducible exact kk3 (by assumption) (by assumption)
    | with_reducible exact kk4 (by assumption) (by assumption))
theorem kf_fX11_feed {b : ZS} {s0 : ZS} {a0 : Int} {a1 : Int} {a3 : Int} (h : Kp b s0) : KK b (fX11_feed s0 a0 a1 a3) := by
  unfold fX11_feed
  repeat' (first
    | with_reducible assumption
    | with_reducible exact kk_none
    | with_reducible exact kk_ret (by assumption)
    | with_reducible refine kk_if ?_ ?_
    | with_reducible refine kk_p ?_ (fun s h => ?_)
    | with_reducible refine kk_as ?_ (fun s h => ?_)
    | with_reducible refine kk_na ?_ (fun s h => ?_)
    | with_reducible refine kk_pw ?_ (fun s h => ?_)
    | with_reducible refine kk_ar ?_ (fun s h => ?_)
    | with_reducible refine kk_cp ?_ (fun s h => ?_)
    | with_reducible refine kk_b ?_ (fun v s h => ?_)
    | with_reducible refine kk_g (fun v => ?_)
    | with_reducible refine kk_v ?_
    | with_reducible refine kk_w ?_ ?_ ?_ ?_ ?_ ?_
    | with_reducible refine kk_jn1 (fun k hk => ?_) ?_
    | with_reducible refine kk_jn2 (fun k hk => ?_) ?_
    | with_reducible refine kk_jn3 (fun k hk => ?_) ?_
    | with_reducible refine kk1i (fun s h => ?_)
    | with_reducible refine kk2i (fun s v h => ?_)
    | with_reducible refine kk3i (fun s v w h => ?_)
    | with_reducible refine kk4i (fun s v w x h => ?_)
    | with_reducible exact Kp.mul (by assumption)
    | with_reducible exact Kp.new (by assumption)
    | with_reducible exact kf_fX4_append (by first | assumption | exact Kp.mul (by assumption) | exact Kp.new (by assumption))
    | with_reducible exact kk1 (by assumption) (by assumption)
    | with_reducible exact kk2 (by assumption) (by assumption)
    | with_reducible exact kk3 (by assumption) (by assumption)
    | with_reducible exact kk4 (by assumption) (by assumption))
theorem kf_fX4_lookOf {b : ZS} {s0 : ZS} {a0 : Int} (h : Kp b s0) : KK b (fX4_lookOf s0 a0) := by
  unfold fX4_lookOf
  repeat' (first
    | with_reducible assumption
    | with_reducible exact kk_none
    | with_reducible exact kk_ret (by assumption)
    | with_reducible refine kk_if ?_ ?_
    | with_reducible refine kk_p ?_ (fun s h => ?_)
    | with_reducible refine kk_as ?_ (fun s h => ?_)
    | with_reducible refine kk_na ?_ (fun s h => ?_)
    | with_reducible refine kk_pw ?_ (fun s h => ?_)
    | with_reducible refine kk_ar ?_ (fun s h => ?_)
    | with_reducible refine kk_cp ?_ (fun s h => ?_)
    | with_reducible refine kk_b ?_ (fun v s h => ?_)
    | with_reducible refine kk_g (fun v => ?_)
    | with_reducible refine kk_v ?_
    | with_reducible refine kk_w ?_ ?_ ?_ ?_ ?_ ?_
    | with_reducible refine kk_jn1 (fun k hk => ?_) ?_
    | with_reducible refine kk_jn2 (fun k hk => ?_) ?_
    | with_reducible refine kk_jn3 (fun k hk => ?_) ?_
    | with_reducible refine kk1i (fun s h => ?_)
    | with_reducible refine kk2i (fun s v h => ?_)
    | with_reducible refine kk3i (fun s v w h => ?_)
    | with_reducible refine kk4i (fun s v w x h => ?_)
    | with_reducible exact Kp.mul (by assumption)
    | with_reducible exact Kp.new (by assumption)
    | with_reducible exact kk1 (by assumption) (by assumption)
    | with_reducible exact kk2 (by assumption) (by assumption)
    | with_reducible exact kk3 (by assumption) (by assumption)
    | with_reducible exact kk4 (by assumption) (by assumption))
theorem kf_fJ0_coder_7d493 {b : ZS} {s0 : ZS} {i : Nat} (h : Kp b s0) : KK b (fJ0_coder_7d493 s0 i) := by
  unfold fJ0_coder_7d493
  repeat' (first
    | with_reducible assumption
    | with_reducible exact kk_none
    | with_reducible exact kk_ret (by assumption)
    | with_reducible refine kk_if ?_ ?_
    | with_reducible refine kk_p ?_ (fun s h => ?_)
    | with_reducible refine kk_as ?_ (fun s h => ?_)
    | with_reducible refine kk_na ?_ (fun s h => ?_)
    | with_reducible refine kk_pw ?_ (fun s h => ?_)
    | with_reducible refine kk_ar ?_ (fun s h => ?_)
    | with_reducible refine kk_cp ?_ (fun s h => ?_)
    | with_reducible refine kk_b ?_ (fun v s h => ?_)
    | with_reducible refine kk_g (fun v => ?_)
    | with_reducible refine kk_v ?_
    | with_reducible refine kk_w ?_ ?_ ?_ ?_ ?_ ?_
    | with_reducible refine kk_jn1 (fun k hk => ?_) ?_
    | with_reducible refine kk_jn2 (fun k hk => ?_) ?_
    | with_reducible refine kk_jn3 (fun k hk => ?_) ?_
    | with_reducible refine kk1i (fun s h => ?_)
    | with_reducible refine kk2i (fun s v h => ?_)
    | with_reducible refine kk3i (fun s v w h => ?_)
    | with_reducible refine kk4i (fun s v w x h => ?_)
    | with_reducible exact Kp.mul (by assumption)
    | with_reducible exact Kp.new (by assumption)
    | with_reducible exact kk1 (by assumption) (by assumption)
    | with_reducible exact kk2 (by assumption) (by assumption)
    | with_reducible exact kk3 (by assumption) (by assumption)
    | with_reducible exact kk4 (by assumption) (by assumption))
theorem kf_fJ0_length_8abf5 {b : ZS} {s0 : ZS} {i : Nat} (h : Kp b s0) : KK b (fJ0_length_8abf5 s0 i) := by
  unfold fJ0_length_8abf5
  repeat' (first
    | with_reducible assumption
    | with_reducible exact kk_none
    | with_reducible exact kk_ret (by assumption)
    | with_reducible refine kk_if ?_ ?_
    | with_reducible refine kk_p ?_ (fun s h => ?_)
    | with_reducible refine kk_as ?_ (fun s h => ?_)
    | with_reducible refine kk_na ?_ (fun s h => ?_)
    | with_reducible refine kk_pw ?_ (fun s h => ?_)
    | with_reducible refine kk_ar ?_ (fun s h => ?_)
    | with_reducible refine kk_cp ?_ (fun s h => ?_)
    | with_reducible refine kk_b ?_ (fun v s h => ?_)
    | with_reducible refine kk_g (fun v => ?_)
    | with_reducible refine kk_v ?_
    | with_reducible refine kk_w ?_ ?_ ?_ ?_ ?_ ?_
    | with_reducible refine kk_jn1 (fun k hk => ?_) ?_
    | with_reducible refine kk_jn2 (fun k hk => ?_) ?_
    | with_reducible refine kk_jn3 (fun k hk => ?_) ?_
    | with_reducible refine kk1i (fun s h => ?_)
    | with_reducible refine kk2i (fun s v h => ?_)
    | with_reducible refine kk3i (fun s v w h => ?_)
    | with_reducible refine kk4i (fun s v w x h => ?_)
    | with_reducible exact Kp.mul (by assumption)
    | with_reducible exact Kp.new (by assumption)
    | with_reducible exact kf_fJ0_coder_7d493 (by first | assumption | exact Kp.mul (by assumption) | exact Kp.new (by assumption))
    | with_reducible exact kk1 (by assumption) (by assumption)
    | with_reducible exact kk2 (by assumption) (by assumption)
    | with_reducible exact kk3 (by assumption) (by assumption)
    | with_reducible exact kk4 (by assumption) (by assumption))
theorem kf_fJ0_isLatin1_aae02 {b : ZS} {s0 : ZS} {i : Nat} (h : Kp b s0) : KK b (fJ0_isLatin1_aae02 s0 i) := by
  unfold fJ0_isLatin1_aae02
  repeat' (first
    | with_reducible assumption
    | with_reducible exact kk_none
    | with_reducible exact kk_ret (by assumption)
    | with_reducible refine kk_if ?_ ?_
    | with_reducible refine kk_p ?_ (fun s h => ?_)
    | with_reducible refine kk_as ?_ (fun s h => ?_)
    | with_reducible refine kk_na ?_ (fun s h => ?_)
    | with_reducible refine kk_pw ?_ (fun s h => ?_)
    | with_reducible refine kk_ar ?_ (fun s h => ?_)
    | with_reducible refine kk_cp ?_ (fun s h => ?_)
    | with_reducible refine kk_b ?_ (fun v s h => ?_)
    | with_reducible refine kk_g (fun v => ?_)
    | with_reducible refine kk_v ?_
    | with_reducible refine kk_w ?_ ?_ ?_ ?_ ?_ ?_
    | with_reducible refine kk_jn1 (fun k hk => ?_) ?_
    | with_reducible refine kk_jn2 (fun k hk => ?_) ?_
    | with_reducible refine kk_jn3 (fun k hk => ?_) ?_
    | with_reducible refine kk1i (fun s h => ?_)
    | with_reducible refine kk2i (fun s v h => ?_)
    | with_reducible refine kk3i (fun s v w h => ?_)
    | with_reducible refine kk4i (fun s v w x h => ?_)
    | with_reducible exact Kp.mul (by assumption)
    | with_reducible exact Kp.new (by assumption)
    | with_reducible exact kk1 (by assumption) (by assumption)
    | with_reducible exact kk2 (by assumption) (by assumption)
    | with_reducible exact kk3 (by assumption) (by assumption)
    | with_reducible exact kk4 (by assumption) (by assumption))
theorem kf_fJ3_checkIndex_8e157 {b : ZS} {s0 : ZS} {a0 : Int} {a1 : Int} (h : Kp b s0) : KK b (fJ3_checkIndex_8e157 s0 a0 a1) := by
  unfold fJ3_checkIndex_8e157
  repeat' (first
    | with_reducible assumption
    | with_reducible exact kk_none
    | with_reducible exact kk_ret (by assumption)
    | with_reducible refine kk_if ?_ ?_
    | with_reducible refine kk_p ?_ (fun s h => ?_)
    | with_reducible refine kk_as ?_ (fun s h => ?_)
    | with_reducible refine kk_na ?_ (fun s h => ?_)
    | with_reducible refine kk_pw ?_ (fun s h => ?_)
    | with_reducible refine kk_ar ?_ (fun s h => ?_)
    | with_reducible refine kk_cp ?_ (fun s h => ?_)
    | with_reducible refine kk_b ?_ (fun v s h => ?_)
    | with_reducible refine kk_g (fun v => ?_)
    | with_reducible refine kk_v ?_
    | with_reducible refine kk_w ?_ ?_ ?_ ?_ ?_ ?_
    | with_reducible refine kk_jn1 (fun k hk => ?_) ?_
    | with_reducible refine kk_jn2 (fun k hk => ?_) ?_
    | with_reducible refine kk_jn3 (fun k hk => ?_) ?_
    | with_reducible refine kk1i (fun s h => ?_)
    | with_reducible refine kk2i (fun s v h => ?_)
    | with_reducible refine kk3i (fun s v w h => ?_)
    | with_reducible refine kk4i (fun s v w x h => ?_)
    | with_reducible exact Kp.mul (by assumption)
    | with_reducible exact Kp.new (by assumption)
    | with_reducible exact kk1 (by assumption) (by assumption)
    | with_reducible exact kk2 (by assumption) (by assumption)
    | with_reducible exact kk3 (by assumption) (by assumption)
    | with_reducible exact kk4 (by assumption) (by assumption))
theorem kf_fJ0_checkIndex_df160 {b : ZS} {s0 : ZS} {a0 : Int} {a1 : Int} (h : Kp b s0) : KK b (fJ0_checkIndex_df160 s0 a0 a1) := by
  unfold fJ0_checkIndex_df160
  repeat' (first
    | with_reducible assumption
    | with_reducible exact kk_none
    | with_reducible exact kk_ret (by assumption)
    | with_reducible refine kk_if ?_ ?_
    | with_reducible refine kk_p ?_ (fun s h => ?_)
    | with_reducible refine kk_as ?_ (fun s h => ?_)
    | with_reducible refine kk_na ?_ (fun s h => ?_)
    | with_reducible refine kk_pw ?_ (fun s h => ?_)
    | with_reducible refine kk_ar ?_ (fun s h => ?_)
    | with_reducible refine kk_cp ?_ (fun s h => ?_)
    | with_reducible refine kk_b ?_ (fun v s h => ?_)
    | with_reducible refine kk_g (fun v => ?_)
    | with_reducible refine kk_v ?_
    | with_reducible refine kk_w ?_ ?_ ?_ ?_ ?_ ?_
    | with_reducible refine kk_jn1 (fun k hk => ?_) ?_
    | with_reducible refine kk_jn2 (fun k hk => ?_) ?_
    | with_reducible refine kk_jn3 (fun k hk => ?_) ?_
    | with_reducible refine kk1i (fun s h => ?_)
    | with_reducible refine kk2i (fun s v h => ?_)
    | with_reducible refine kk3i (fun s v w h => ?_)
    | with_reducible refine kk4i (fun s v w x h => ?_)
    | with_reducible exact Kp.mul (by assumption)
    | with_reducible exact Kp.new (by assumption)
    | with_reducible exact kf_fJ3_checkIndex_8e157 (by first | assumption | exact Kp.mul (by assumption) | exact Kp.new (by assumption))
    | with_reducible exact kk1 (by assumption) (by assumption)
    | with_reducible exact kk2 (by assumption) (by assumption)
    | with_reducible exact kk3 (by assumption) (by assumption)
    | with_reducible exact kk4 (by assumption) (by assumption))
theorem kf_fJ1_charAt_3b067 {b : ZS} {s0 : ZS} {i : Nat} {a1 : Int} (h : Kp b s0) : KK b (fJ1_charAt_3b067 s0 i a1) := by
  unfold fJ1_charAt_3b067
  repeat' (first
    | with_reducible assumption
    | with_reducible exact kk_none
    | with_reducible exact kk_ret (by assumption)
    | with_reducible refine kk_if ?_ ?_
    | with_reducible refine kk_p ?_ (fun s h => ?_)
    | with_reducible refine kk_as ?_ (fun s h => ?_)
    | with_reducible refine kk_na ?_ (fun s h => ?_)
    | with_reducible refine kk_pw ?_ (fun s h => ?_)
    | with_reducible refine kk_ar ?_ (fun s h => ?_)
    | with_reducible refine kk_cp ?_ (fun s h => ?_)
    | with_reducible refine kk_b ?_ (fun v s h => ?_)
    | with_reducible refine kk_g (fun v => ?_)
    | with_reducible refine kk_v ?_
    | with_reducible refine kk_w ?_ ?_ ?_ ?_ ?_ ?_
    | with_reducible refine kk_jn1 (fun k hk => ?_) ?_
    | with_reducible refine kk_jn2 (fun k hk => ?_) ?_
    | with_reducible refine kk_jn3 (fun k hk => ?_) ?_
    | with_reducible refine kk1i (fun s h => ?_)
    | with_reducible refine kk2i (fun s v h => ?_)
    | with_reducible refine kk3i (fun s v w h => ?_)
    | with_reducible refine kk4i (fun s v w x h => ?_)
    | with_reducible exact Kp.mul (by assumption)
    | with_reducible exact Kp.new (by assumption)
    | with_reducible exact kf_fJ0_checkIndex_df160 (by first | assumption | exact Kp.mul (by assumption) | exact Kp.new (by assumption))
    | with_reducible exact kk1 (by assumption) (by assumption)
    | with_reducible exact kk2 (by assumption) (by assumption)
    | with_reducible exact kk3 (by assumption) (by assumption)
    | with_reducible exact kk4 (by assumption) (by assumption))
theorem kf_fJ0_charAt_5068e {b : ZS} {s0 : ZS} {i : Nat} {a1 : Int} (h : Kp b s0) : KK b (fJ0_charAt_5068e s0 i a1) := by
  unfold fJ0_charAt_5068e
  repeat' (first
    | with_reducible assumption
    | with_reducible exact kk_none
    | with_reducible exact kk_ret (by assumption)
    | with_reducible refine kk_if ?_ ?_
    | with_reducible refine kk_p ?_ (fun s h => ?_)
    | with_reducible refine kk_as ?_ (fun s h => ?_)
    | with_reducible refine kk_na ?_ (fun s h => ?_)
    | with_reducible refine kk_pw ?_ (fun s h => ?_)
    | with_reducible refine kk_ar ?_ (fun s h => ?_)
    | with_reducible refine kk_cp ?_ (fun s h => ?_)
    | with_reducible refine kk_b ?_ (fun v s h => ?_)
    | with_reducible refine kk_g (fun v => ?_)
    | with_reducible refine kk_v ?_
    | with_reducible refine kk_w ?_ ?_ ?_ ?_ ?_ ?_
    | with_reducible refine kk_jn1 (fun k hk => ?_) ?_
    | with_reducible refine kk_jn2 (fun k hk => ?_) ?_
    | with_reducible refine kk_jn3 (fun k hk => ?_) ?_
    | with_reducible refine kk1i (fun s h => ?_)
    | with_reducible refine kk2i (fun s v h => ?_)
    | with_reducible refine kk3i (fun s v w h => ?_)
    | with_reducible refine kk4i (fun s v w x h => ?_)
    | with_reducible exact Kp.mul (by assumption)
    | with_reducible exact Kp.new (by assumption)
    | with_reducible exact kf_fJ0_isLatin1_aae02 (by first | assumption | exact Kp.mul (by assumption) | exact Kp.new (by assumption))
    | with_reducible exact kf_fJ1_charAt_3b067 (by first | assumption | exact Kp.mul (by assumption) | exact Kp.new (by assumption))
    | with_reducible exact kk1 (by assumption) (by assumption)
    | with_reducible exact kk2 (by assumption) (by assumption)
    | with_reducible exact kk3 (by assumption) (by assumption)
    | with_reducible exact kk4 (by assumption) (by assumption))
theorem kl_lX4_isWord_3 {b : ZS} {u2 u3 u4 u5 : Int} : ∀ (n : Nat) (s : ZS) (x0 : Int), Kp b s → KK b (lX4_isWord_3 u2 u3 u4 u5 n s x0) := by
  intro n
  induction n with
  | zero => intro s x0 h; exact kk_none
  | succ n ih =>
    intro s x0 h
    rw [lX4_isWord_3]
    repeat' (first
    | with_reducible assumption
    | with_reducible exact kk_none
    | with_reducible exact kk_ret (by assumption)
    | with_reducible refine kk_if ?_ ?_
    | with_reducible refine kk_p ?_ (fun s h => ?_)
    | with_reducible refine kk_as ?_ (fun s h => ?_)
    | with_reducible refine kk_na ?_ (fun s h => ?_)
    | with_reducible refine kk_pw ?_ (fun s h => ?_)
    | with_reducible refine kk_ar ?_ (fun s h => ?_)
    | with_reducible refine kk_cp ?_ (fun s h => ?_)
    | with_reducible refine kk_b ?_ (fun v s h => ?_)
    | with_reducible refine kk_g (fun v => ?_)
    | with_reducible refine kk_v ?_
    | with_reducible refine kk_w ?_ ?_ ?_ ?_ ?_ ?_
    | with_reducible refine kk_jn1 (fun k hk => ?_) ?_
    | with_reducible refine kk_jn2 (fun k hk => ?_) ?_
    | with_reducible refine kk_jn3 (fun k hk => ?_) ?_
    | with_reducible refine kk1i (fun s h => ?_)
    | with_reducible refine kk2i (fun s v h => ?_)
    | with_reducible refine kk3i (fun s v w h => ?_)
    | with_reducible refine kk4i (fun s v w x h => ?_)
    | with_reducible exact Kp.mul (by assumption)
    | with_reducible exact Kp.new (by assumption)
    | with_reducible exact kf_fJ0_charAt_5068e (by first | assumption | exact Kp.mul (by assumption) | exact Kp.new (by assumption))
    | with_reducible exact ih _ _ (by assumption)
    | with_reducible exact kk1 (by assumption) (by assumption)
    | with_reducible exact kk2 (by assumption) (by assumption)
    | with_reducible exact kk3 (by assumption) (by assumption)
    | with_reducible exact kk4 (by assumption) (by assumption))
theorem kf_fX4_isWord {b : ZS} {s0 : ZS} {a0 : Int} {a1 : Int} {a2 : Int} {a3 : Int} (h : Kp b s0) : KK b (fX4_isWord s0 a0 a1 a2 a3) := by
  unfold fX4_isWord
  repeat' (first
    | with_reducible assumption
    | with_reducible exact kk_none
    | with_reducible exact kk_ret (by assumption)
    | with_reducible refine kk_if ?_ ?_
    | with_reducible refine kk_p ?_ (fun s h => ?_)
    | with_reducible refine kk_as ?_ (fun s h => ?_)
    | with_reducible refine kk_na ?_ (fun s h => ?_)
    | with_reducible refine kk_pw ?_ (fun s h => ?_)
    | with_reducible refine kk_ar ?_ (fun s h => ?_)
    | with_reducible refine kk_cp ?_ (fun s h => ?_)
    | with_reducible refine kk_b ?_ (fun v s h => ?_)
    | with_reducible refine kk_g (fun v => ?_)
    | with_reducible refine kk_v ?_
    | with_reducible refine kk_w ?_ ?_ ?_ ?_ ?_ ?_
    | with_reducible refine kk_jn1 (fun k hk => ?_) ?_
    | with_reducible refine kk_jn2 (fun k hk => ?_) ?_
    | with_reducible refine kk_jn3 (fun k hk => ?_) ?_
    | with_reducible refine kk1i (fun s h => ?_)
    | with_reducible refine kk2i (fun s v h => ?_)
    | with_reducible refine kk3i (fun s v w h => ?_)
    | with_reducible refine kk4i (fun s v w x h => ?_)
    | with_reducible exact Kp.mul (by assumption)
    | with_reducible exact Kp.new (by assumption)
    | with_reducible refine kl_lX4_isWord_3 _ _ _ ?_
    | with_reducible exact kk1 (by assumption) (by assumption)
    | with_reducible exact kk2 (by assumption) (by assumption)
    | with_reducible exact kk3 (by assumption) (by assumption)
    | with_reducible exact kk4 (by assumption) (by assumption))
theorem kl_lX4_wordAt_2 {b : ZS} {u2 u3 : Int} {K29 : ZS → Int → Option (Int × ZS)} (hkK29 : KK2 b K29) : ∀ (n : Nat) (s : ZS) (x0 : Int), Kp b s → KK b (lX4_wordAt_2 u2 u3 K29 n s x0) := by
  intro n
  induction n with
  | zero => intro s x0 h; exact kk_none
  | succ n ih =>
    intro s x0 h
    rw [lX4_wordAt_2]
    repeat' (first
    | with_reducible assumption
    | with_reducible exact kk_none
    | with_reducible exact kk_ret (by assumption)
    | with_reducible refine kk_if ?_ ?_
    | with_reducible refine kk_p ?_ (fun s h => ?_)
    | with_reducible refine kk_as ?_ (fun s h => ?_)
    | with_reducible refine kk_na ?_ (fun s h => ?_)
    | with_reducible refine kk_pw ?_ (fun s h => ?_)
    | with_reducible refine kk_ar ?_ (fun s h => ?_)
    | with_reducible refine kk_cp ?_ (fun s h => ?_)
    | with_reducible refine kk_b ?_ (fun v s h => ?_)
    | with_reducible refine kk_g (fun v => ?_)
    | with_reducible refine kk_v ?_
    | with_reducible refine kk_w ?_ ?_ ?_ ?_ ?_ ?_
    | with_reducible refine kk_jn1 (fun k hk => ?_) ?_
    | with_reducible refine kk_jn2 (fun k hk => ?_) ?_
    | with_reducible refine kk_jn3 (fun k hk => ?_) ?_
    | with_reducible refine kk1i (fun s h => ?_)
    | with_reducible refine kk2i (fun s v h => ?_)
    | with_reducible refine kk3i (fun s v w h => ?_)
    | with_reducible refine kk4i (fun s v w x h => ?_)
    | with_reducible exact Kp.mul (by assumption)
    | with_reducible exact Kp.new (by assumption)
    | with_reducible exact kf_fX4_lookOf (by first | assumption | exact Kp.mul (by assumption) | exact Kp.new (by assumption))
    | with_reducible exact ih _ _ (by assumption)
    | with_reducible exact kk1 (by assumption) (by assumption)
    | with_reducible exact kk2 (by assumption) (by assumption)
    | with_reducible exact kk3 (by assumption) (by assumption)
    | with_reducible exact kk4 (by assumption) (by assumption))
theorem kl_lX4_wordAt_37 {b : ZS} {u18 u19 u20 : Int} : ∀ (n : Nat) (s : ZS) (x0 x1 x2 : Int), Kp b s → KK b (lX4_wordAt_37 u18 u19 u20 n s x0 x1 x2) := by
  intro n
  induction n with
  | zero => intro s x0 x1 x2 h; exact kk_none
  | succ n ih =>
    intro s x0 x1 x2 h
    rw [lX4_wordAt_37]
    repeat' (first
    | with_reducible assumption
    | with_reducible exact kk_none
    | with_reducible exact kk_ret (by assumption)
    | with_reducible refine kk_if ?_ ?_
    | with_reducible refine kk_p ?_ (fun s h => ?_)
    | with_reducible refine kk_as ?_ (fun s h => ?_)
    | with_reducible refine kk_na ?_ (fun s h => ?_)
    | with_reducible refine kk_pw ?_ (fun s h => ?_)
    | with_reducible refine kk_ar ?_ (fun s h => ?_)
    | with_reducible refine kk_cp ?_ (fun s h => ?_)
    | with_reducible refine kk_b ?_ (fun v s h => ?_)
    | with_reducible refine kk_g (fun v => ?_)
    | with_reducible refine kk_v ?_
    | with_reducible refine kk_w ?_ ?_ ?_ ?_ ?_ ?_
    | with_reducible refine kk_jn1 (fun k hk => ?_) ?_
    | with_reducible refine kk_jn2 (fun k hk => ?_) ?_
    | with_reducible refine kk_jn3 (fun k hk => ?_) ?_
    | with_reducible refine kk1i (fun s h => ?_)
    | with_reducible refine kk2i (fun s v h => ?_)
    | with_reducible refine kk3i (fun s v w h => ?_)
    | with_reducible refine kk4i (fun s v w x h => ?_)
    | with_reducible exact Kp.mul (by assumption)
    | with_reducible exact Kp.new (by assumption)
    | with_reducible exact kf_fJ0_length_8abf5 (by first | assumption | exact Kp.mul (by assumption) | exact Kp.new (by assumption))
    | with_reducible exact kf_fJ0_charAt_5068e (by first | assumption | exact Kp.mul (by assumption) | exact Kp.new (by assumption))
    | with_reducible exact kf_fX4_isWord (by first | assumption | exact Kp.mul (by assumption) | exact Kp.new (by assumption))
    | with_reducible exact ih _ _ _ _ (by assumption)
    | with_reducible exact kk1 (by assumption) (by assumption)
    | with_reducible exact kk2 (by assumption) (by assumption)
    | with_reducible exact kk3 (by assumption) (by assumption)
    | with_reducible exact kk4 (by assumption) (by assumption))
theorem kf_fX4_wordAt {b : ZS} {s0 : ZS} {a0 : Int} {a1 : Int} (h : Kp b s0) : KK b (fX4_wordAt s0 a0 a1) := by
  unfold fX4_wordAt
  repeat' (first
    | with_reducible assumption
    | with_reducible exact kk_none
    | with_reducible exact kk_ret (by assumption)
    | with_reducible refine kk_if ?_ ?_
    | with_reducible refine kk_p ?_ (fun s h => ?_)
    | with_reducible refine kk_as ?_ (fun s h => ?_)
    | with_reducible refine kk_na ?_ (fun s h => ?_)
    | with_reducible refine kk_pw ?_ (fun s h => ?_)
    | with_reducible refine kk_ar ?_ (fun s h => ?_)
    | with_reducible refine kk_cp ?_ (fun s h => ?_)
    | with_reducible refine kk_b ?_ (fun v s h => ?_)
    | with_reducible refine kk_g (fun v => ?_)
    | with_reducible refine kk_v ?_
    | with_reducible refine kk_w ?_ ?_ ?_ ?_ ?_ ?_
    | with_reducible refine kk_jn1 (fun k hk => ?_) ?_
    | with_reducible refine kk_jn2 (fun k hk => ?_) ?_
    | with_reducible refine kk_jn3 (fun k hk => ?_) ?_
    | with_reducible refine kk1i (fun s h => ?_)
    | with_reducible refine kk2i (fun s v h => ?_)
    | with_reducible refine kk3i (fun s v w h => ?_)
    | with_reducible refine kk4i (fun s v w x h => ?_)
    | with_reducible exact Kp.mul (by assumption)
    | with_reducible exact Kp.new (by assumption)
    | with_reducible refine kl_lX4_wordAt_2 ?_ _ _ _ ?_
    | with_reducible refine kl_lX4_wordAt_37 _ _ _ _ _ ?_
    | with_reducible exact kk1 (by assumption) (by assumption)
    | with_reducible exact kk2 (by assumption) (by assumption)
    | with_reducible exact kk3 (by assumption) (by assumption)
    | with_reducible exact kk4 (by assumption) (by assumption))
theorem kl_lX4_numberAt_7 {b : ZS} {u2 : Int} {K55 : ZS → Int → Int → Option (Int × ZS)} (hkK55 : KK3 b K55) : ∀ (n : Nat) (s : ZS) (x0 x1 x2 : Int), Kp b s → KK b (lX4_numberAt_7 u2 K55 n s x0 x1 x2) := by
  intro n
  induction n with
  | zero => intro s x0 x1 x2 h; exact kk_none
  | succ n ih =>
    intro s x0 x1 x2 h
    rw [lX4_numberAt_7]
    repeat' (first
    | with_reducible assumption
    | with_reducible exact kk_none
    | with_reducible exact kk_ret (by assumption)
    | with_reducible refine kk_if ?_ ?_
    | with_reducible refine kk_p ?_ (fun s h => ?_)
    | with_reducible refine kk_as ?_ (fun s h => ?_)
    | with_reducible refine kk_na ?_ (fun s h => ?_)
    | with_reducible refine kk_pw ?_ (fun s h => ?_)
    | with_reducible refine kk_ar ?_ (fun s h => ?_)
    | with_reducible refine kk_cp ?_ (fun s h => ?_)
    | with_reducible refine kk_b ?_ (fun v s h => ?_)
    | with_reducible refine kk_g (fun v => ?_)
    | with_reducible refine kk_v ?_
    | with_reducible refine kk_w ?_ ?_ ?_ ?_ ?_ ?_
    | with_reducible refine kk_jn1 (fun k hk => ?_) ?_
    | with_reducible refine kk_jn2 (fun k hk => ?_) ?_
    | with_reducible refine kk_jn3 (fun k hk => ?_) ?_
    | with_reducible refine kk1i (fun s h => ?_)
    | with_reducible refine kk2i (fun s v h => ?_)
    | with_reducible refine kk3i (fun s v w h => ?_)
    | with_reducible refine kk4i (fun s v w x h => ?_)
    | with_reducible exact Kp.mul (by assumption)
    | with_reducible exact Kp.new (by assumption)
    | with_reducible exact kf_fX4_lookOf (by first | assumption | exact Kp.mul (by assumption) | exact Kp.new (by assumption))
    | with_reducible exact ih _ _ _ _ (by assumption)
    | with_reducible exact kk1 (by assumption) (by assumption)
    | with_reducible exact kk2 (by assumption) (by assumption)
    | with_reducible exact kk3 (by assumption) (by assumption)
    | with_reducible exact kk4 (by assumption) (by assumption))
theorem kf_fX4_numberAt {b : ZS} {s0 : ZS} {a0 : Int} {a1 : Int} (h : Kp b s0) : KK b (fX4_numberAt s0 a0 a1) := by
  unfold fX4_numberAt
  repeat' (first
    | with_reducible assumption
    | with_reducible exact kk_none
    | with_reducible exact kk_ret (by assumption)
    | with_reducible refine kk_if ?_ ?_
    | with_reducible refine kk_p ?_ (fun s h => ?_)
    | with_reducible refine kk_as ?_ (fun s h => ?_)
    | with_reducible refine kk_na ?_ (fun s h => ?_)
    | with_reducible refine kk_pw ?_ (fun s h => ?_)
    | with_reducible refine kk_ar ?_ (fun s h => ?_)
    | with_reducible refine kk_cp ?_ (fun s h => ?_)
    | with_reducible refine kk_b ?_ (fun v s h => ?_)
    | with_reducible refine kk_g (fun v => ?_)
    | with_reducible refine kk_v ?_
    | with_reducible refine kk_w ?_ ?_ ?_ ?_ ?_ ?_
    | with_reducible refine kk_jn1 (fun k hk => ?_) ?_
    | with_reducible refine kk_jn2 (fun k hk => ?_) ?_
    | with_reducible refine kk_jn3 (fun k hk => ?_) ?_
    | with_reducible refine kk1i (fun s h => ?_)
    | with_reducible refine kk2i (fun s v h => ?_)
    | with_reducible refine kk3i (fun s v w h => ?_)
    | with_reducible refine kk4i (fun s v w x h => ?_)
    | with_reducible exact Kp.mul (by assumption)
    | with_reducible exact Kp.new (by assumption)
    | with_reducible refine kl_lX4_numberAt_7 ?_ _ _ _ _ _ ?_
    | with_reducible exact kk1 (by assumption) (by assumption)
    | with_reducible exact kk2 (by assumption) (by assumption)
    | with_reducible exact kk3 (by assumption) (by assumption)
    | with_reducible exact kk4 (by assumption) (by assumption))
theorem kf_fJ1_canEncode_9a6ad {b : ZS} {s0 : ZS} {a0 : Int} (h : Kp b s0) : KK b (fJ1_canEncode_9a6ad s0 a0) := by
  unfold fJ1_canEncode_9a6ad
  repeat' (first
    | with_reducible assumption
    | with_reducible exact kk_none
    | with_reducible exact kk_ret (by assumption)
    | with_reducible refine kk_if ?_ ?_
    | with_reducible refine kk_p ?_ (fun s h => ?_)
    | with_reducible refine kk_as ?_ (fun s h => ?_)
    | with_reducible refine kk_na ?_ (fun s h => ?_)
    | with_reducible refine kk_pw ?_ (fun s h => ?_)
    | with_reducible refine kk_ar ?_ (fun s h => ?_)
    | with_reducible refine kk_cp ?_ (fun s h => ?_)
    | with_reducible refine kk_b ?_ (fun v s h => ?_)
    | with_reducible refine kk_g (fun v => ?_)
    | with_reducible refine kk_v ?_
    | with_reducible refine kk_w ?_ ?_ ?_ ?_ ?_ ?_
    | with_reducible refine kk_jn1 (fun k hk => ?_) ?_
    | with_reducible refine kk_jn2 (fun k hk => ?_) ?_
    | with_reducible refine kk_jn3 (fun k hk => ?_) ?_
    | with_reducible refine kk1i (fun s h => ?_)
    | with_reducible refine kk2i (fun s v h => ?_)
    | with_reducible refine kk3i (fun s v w h => ?_)
    | with_reducible refine kk4i (fun s v w x h => ?_)
    | with_reducible exact Kp.mul (by assumption)
    | with_reducible exact Kp.new (by assumption)
    | with_reducible exact kk1 (by assumption) (by assumption)
    | with_reducible exact kk2 (by assumption) (by assumption)
    | with_reducible exact kk3 (by assumption) (by assumption)
    | with_reducible exact kk4 (by assumption) (by assumption))
theorem kl_lJ1_indexOfChar_4cfef_7 {b : ZS} {i : Nat} {u3 u4 : Int} : ∀ (n : Nat) (s : ZS) (x0 : Int), Kp b s → KK b (lJ1_indexOfChar_4cfef_7 i u3 u4 n s x0) := by
  intro n
  induction n with
  | zero => intro s x0 h; exact kk_none
  | succ n ih =>
    intro s x0 h
    rw [lJ1_indexOfChar_4cfef_7]
    repeat' (first
    | with_reducible assumption
    | with_reducible exact kk_none
    | with_reducible exact kk_ret (by assumption)
    | with_reducible refine kk_if ?_ ?_
    | with_reducible refine kk_p ?_ (fun s h => ?_)
    | with_reducible refine kk_as ?_ (fun s h => ?_)
    | with_reducible refine kk_na ?_ (fun s h => ?_)
    | with_reducible refine kk_pw ?_ (fun s h => ?_)
    | with_reducible refine kk_ar ?_ (fun s h => ?_)
    | with_reducible refine kk_cp ?_ (fun s h => ?_)
    | with_reducible refine kk_b ?_ (fun v s h => ?_)
    | with_reducible refine kk_g (fun v => ?_)
    | with_reducible refine kk_v ?_
    | with_reducible refine kk_w ?_ ?_ ?_ ?_ ?_ ?_
    | with_reducible refine kk_jn1 (fun k hk => ?_) ?_
    | with_reducible refine kk_jn2 (fun k hk => ?_) ?_
    | with_reducible refine kk_jn3 (fun k hk => ?_) ?_
    | with_reducible refine kk1i (fun s h => ?_)
    | with_reducible refine kk2i (fun s v h => ?_)
    | with_reducible refine kk3i (fun s v w h => ?_)
    | with_reducible refine kk4i (fun s v w x h => ?_)
    | with_reducible exact Kp.mul (by assumption)
    | with_reducible exact Kp.new (by assumption)
    | with_reducible exact ih _ _ (by assumption)
    | with_reducible exact kk1 (by assumption) (by assumption)
    | with_reducible exact kk2 (by assumption) (by assumption)
    | with_reducible exact kk3 (by assumption) (by assumption)
    | with_reducible exact kk4 (by assumption) (by assumption))
theorem kf_fJ1_indexOfChar_4cfef {b : ZS} {s0 : ZS} {i : Nat} {a1 : Int} {a2 : Int} {a3 : Int} (h : Kp b s0) : KK b (fJ1_indexOfChar_4cfef s0 i a1 a2 a3) := by
  unfold fJ1_indexOfChar_4cfef
  repeat' (first
    | with_reducible assumption
    | with_reducible exact kk_none
    | with_reducible exact kk_ret (by assumption)
    | with_reducible refine kk_if ?_ ?_
    | with_reducible refine kk_p ?_ (fun s h => ?_)
    | with_reducible refine kk_as ?_ (fun s h => ?_)
    | with_reducible refine kk_na ?_ (fun s h => ?_)
    | with_reducible refine kk_pw ?_ (fun s h => ?_)
    | with_reducible refine kk_ar ?_ (fun s h => ?_)
    | with_reducible refine kk_cp ?_ (fun s h => ?_)
    | with_reducible refine kk_b ?_ (fun v s h => ?_)
    | with_reducible refine kk_g (fun v => ?_)
    | with_reducible refine kk_v ?_
    | with_reducible refine kk_w ?_ ?_ ?_ ?_ ?_ ?_
    | with_reducible refine kk_jn1 (fun k hk => ?_) ?_
    | with_reducible refine kk_jn2 (fun k hk => ?_) ?_
    | with_reducible refine kk_jn3 (fun k hk => ?_) ?_
    | with_reducible refine kk1i (fun s h => ?_)
    | with_reducible refine kk2i (fun s v h => ?_)
    | with_reducible refine kk3i (fun s v w h => ?_)
    | with_reducible refine kk4i (fun s v w x h => ?_)
    | with_reducible exact Kp.mul (by assumption)
    | with_reducible exact Kp.new (by assumption)
    | with_reducible refine kl_lJ1_indexOfChar_4cfef_7 _ _ _ ?_
    | with_reducible exact kk1 (by assumption) (by assumption)
    | with_reducible exact kk2 (by assumption) (by assumption)
    | with_reducible exact kk3 (by assumption) (by assumption)
    | with_reducible exact kk4 (by assumption) (by assumption))
theorem kf_fJ1_indexOf_4cfef {b : ZS} {s0 : ZS} {i : Nat} {a1 : Int} {a2 : Int} {a3 : Int} (h : Kp b s0) : KK b (fJ1_indexOf_4cfef s0 i a1 a2 a3) := by
  unfold fJ1_indexOf_4cfef
  repeat' (first
    | with_reducible assumption
    | with_reducible exact kk_none
    | with_reducible exact kk_ret (by assumption)
    | with_reducible refine kk_if ?_ ?_
    | with_reducible refine kk_p ?_ (fun s h => ?_)
    | with_reducible refine kk_as ?_ (fun s h => ?_)
    | with_reducible refine kk_na ?_ (fun s h => ?_)
    | with_reducible refine kk_pw ?_ (fun s h => ?_)
    | with_reducible refine kk_ar ?_ (fun s h => ?_)
    | with_reducible refine kk_cp ?_ (fun s h => ?_)
    | with_reducible refine kk_b ?_ (fun v s h => ?_)
    | with_reducible refine kk_g (fun v => ?_)
    | with_reducible refine kk_v ?_
    | with_reducible refine kk_w ?_ ?_ ?_ ?_ ?_ ?_
    | with_reducible refine kk_jn1 (fun k hk => ?_) ?_
    | with_reducible refine kk_jn2 (fun k hk => ?_) ?_
    | with_reducible refine kk_jn3 (fun k hk => ?_) ?_
    | with_reducible refine kk1i (fun s h => ?_)
    | with_reducible refine kk2i (fun s v h => ?_)
    | with_reducible refine kk3i (fun s v w h => ?_)
    | with_reducible refine kk4i (fun s v w x h => ?_)
    | with_reducible exact Kp.mul (by assumption)
    | with_reducible exact Kp.new (by assumption)
    | with_reducible exact kf_fJ1_canEncode_9a6ad (by first | assumption | exact Kp.mul (by assumption) | exact Kp.new (by assumption))
    | with_reducible exact kf_fJ1_indexOfChar_4cfef (by first | assumption | exact Kp.mul (by assumption) | exact Kp.new (by assumption))
    | with_reducible exact kk1 (by assumption) (by assumption)
    | with_reducible exact kk2 (by assumption) (by assumption)
    | with_reducible exact kk3 (by assumption) (by assumption)
    | with_reducible exact kk4 (by assumption) (by assumption))
theorem kf_fJ0_indexOf_7cf53 {b : ZS} {s0 : ZS} {i : Nat} {a1 : Int} {a2 : Int} (h : Kp b s0) : KK b (fJ0_indexOf_7cf53 s0 i a1 a2) := by
  unfold fJ0_indexOf_7cf53
  repeat' (first
    | with_reducible assumption
    | with_reducible exact kk_none
    | with_reducible exact kk_ret (by assumption)
    | with_reducible refine kk_if ?_ ?_
    | with_reducible refine kk_p ?_ (fun s h => ?_)
    | with_reducible refine kk_as ?_ (fun s h => ?_)
    | with_reducible refine kk_na ?_ (fun s h => ?_)
    | with_reducible refine kk_pw ?_ (fun s h => ?_)
    | with_reducible refine kk_ar ?_ (fun s h => ?_)
    | with_reducible refine kk_cp ?_ (fun s h => ?_)
    | with_reducible refine kk_b ?_ (fun v s h => ?_)
    | with_reducible refine kk_g (fun v => ?_)
    | with_reducible refine kk_v ?_
    | with_reducible refine kk_w ?_ ?_ ?_ ?_ ?_ ?_
    | with_reducible refine kk_jn1 (fun k hk => ?_) ?_
    | with_reducible refine kk_jn2 (fun k hk => ?_) ?_
    | with_reducible refine kk_jn3 (fun k hk => ?_) ?_
    | with_reducible refine kk1i (fun s h => ?_)
    | with_reducible refine kk2i (fun s v h => ?_)
    | with_reducible refine kk3i (fun s v w h => ?_)
    | with_reducible refine kk4i (fun s v w x h => ?_)
    | with_reducible exact Kp.mul (by assumption)
    | with_reducible exact Kp.new (by assumption)
    | with_reducible exact kf_fJ0_length_8abf5 (by first | assumption | exact Kp.mul (by assumption) | exact Kp.new (by assumption))
    | with_reducible exact kf_fJ0_isLatin1_aae02 (by first | assumption | exact Kp.mul (by assumption) | exact Kp.new (by assumption))
    | with_reducible exact kf_fJ1_indexOf_4cfef (by first | assumption | exact Kp.mul (by assumption) | exact Kp.new (by assumption))
    | with_reducible exact kk1 (by assumption) (by assumption)
    | with_reducible exact kk2 (by assumption) (by assumption)
    | with_reducible exact kk3 (by assumption) (by assumption)
    | with_reducible exact kk4 (by assumption) (by assumption))
theorem kf_fJ0_indexOf_0f7a4 {b : ZS} {s0 : ZS} {i : Nat} {a1 : Int} (h : Kp b s0) : KK b (fJ0_indexOf_0f7a4 s0 i a1) := by
  unfold fJ0_indexOf_0f7a4
  repeat' (first
    | with_reducible assumption
    | with_reducible exact kk_none
    | with_reducible exact kk_ret (by assumption)
    | with_reducible refine kk_if ?_ ?_
    | with_reducible refine kk_p ?_ (fun s h => ?_)
    | with_reducible refine kk_as ?_ (fun s h => ?_)
    | with_reducible refine kk_na ?_ (fun s h => ?_)
    | with_reducible refine kk_pw ?_ (fun s h => ?_)
    | with_reducible refine kk_ar ?_ (fun s h => ?_)
    | with_reducible refine kk_cp ?_ (fun s h => ?_)
    | with_reducible refine kk_b ?_ (fun v s h => ?_)
    | with_reducible refine kk_g (fun v => ?_)
    | with_reducible refine kk_v ?_
    | with_reducible refine kk_w ?_ ?_ ?_ ?_ ?_ ?_
    | with_reducible refine kk_jn1 (fun k hk => ?_) ?_
    | with_reducible refine kk_jn2 (fun k hk => ?_) ?_
    | with_reducible refine kk_jn3 (fun k hk => ?_) ?_
    | with_reducible refine kk1i (fun s h => ?_)
    | with_reducible refine kk2i (fun s v h => ?_)
    | with_reducible refine kk3i (fun s v w h => ?_)
    | with_reducible refine kk4i (fun s v w x h => ?_)
    | with_reducible exact Kp.mul (by assumption)
    | with_reducible exact Kp.new (by assumption)
    | with_reducible exact kf_fJ0_indexOf_7cf53 (by first | assumption | exact Kp.mul (by assumption) | exact Kp.new (by assumption))
    | with_reducible exact kk1 (by assumption) (by assumption)
    | with_reducible exact kk2 (by assumption) (by assumption)
    | with_reducible exact kk3 (by assumption) (by assumption)
    | with_reducible exact kk4 (by assumption) (by assumption))
theorem kf_fX4_signAt {b : ZS} {s0 : ZS} {a0 : Int} {a1 : Int} (h : Kp b s0) : KK b (fX4_signAt s0 a0 a1) := by
  unfold fX4_signAt
  repeat' (first
    | with_reducible assumption
    | with_reducible exact kk_none
    | with_reducible exact kk_ret (by assumption)
    | with_reducible refine kk_if ?_ ?_
    | with_reducible refine kk_p ?_ (fun s h => ?_)
    | with_reducible refine kk_as ?_ (fun s h => ?_)
    | with_reducible refine kk_na ?_ (fun s h => ?_)
    | with_reducible refine kk_pw ?_ (fun s h => ?_)
    | with_reducible refine kk_ar ?_ (fun s h => ?_)
    | with_reducible refine kk_cp ?_ (fun s h => ?_)
    | with_reducible refine kk_b ?_ (fun v s h => ?_)
    | with_reducible refine kk_g (fun v => ?_)
    | with_reducible refine kk_v ?_
    | with_reducible refine kk_w ?_ ?_ ?_ ?_ ?_ ?_
    | with_reducible refine kk_jn1 (fun k hk => ?_) ?_
    | with_reducible refine kk_jn2 (fun k hk => ?_) ?_
    | with_reducible refine kk_jn3 (fun k hk => ?_) ?_
    | with_reducible refine kk1i (fun s h => ?_)
    | with_reducible refine kk2i (fun s v h => ?_)
    | with_reducible refine kk3i (fun s v w h => ?_)
    | with_reducible refine kk4i (fun s v w x h => ?_)
    | with_reducible exact Kp.mul (by assumption)
    | with_reducible exact Kp.new (by assumption)
    | with_reducible exact kf_fJ0_indexOf_0f7a4 (by first | assumption | exact Kp.mul (by assumption) | exact Kp.new (by assumption))
    | with_reducible exact kk1 (by assumption) (by assumption)
    | with_reducible exact kk2 (by assumption) (by assumption)
    | with_reducible exact kk3 (by assumption) (by assumption)
    | with_reducible exact kk4 (by assumption) (by assumption))
theorem kl_lX4_scan_7 {b : ZS} {u3 : Int} {K129 : ZS → Option (Int × ZS)} (hkK129 : KK1 b K129) : ∀ (n : Nat) (s : ZS) (x0 : Int), Kp b s → KK b (lX4_scan_7 u3 K129 n s x0) := by
  intro n
  induction n with
  | zero => intro s x0 h; exact kk_none
  | succ n ih =>
    intro s x0 h
    rw [lX4_scan_7]
    repeat' (first
    | with_reducible assumption
    | with_reducible exact kk_none
    | with_reducible exact kk_ret (by assumption)
    | with_reducible refine kk_if ?_ ?_
    | with_reducible refine kk_p ?_ (fun s h => ?_)
    | with_reducible refine kk_as ?_ (fun s h => ?_)
    | with_reducible refine kk_na ?_ (fun s h => ?_)
    | with_reducible refine kk_pw ?_ (fun s h => ?_)
    | with_reducible refine kk_ar ?_ (fun s h => ?_)
    | with_reducible refine kk_cp ?_ (fun s h => ?_)
    | with_reducible refine kk_b ?_ (fun v s h => ?_)
    | with_reducible refine kk_g (fun v => ?_)
    | with_reducible refine kk_v ?_
    | with_reducible refine kk_w ?_ ?_ ?_ ?_ ?_ ?_
    | with_reducible refine kk_jn1 (fun k hk => ?_) ?_
    | with_reducible refine kk_jn2 (fun k hk => ?_) ?_
    | with_reducible refine kk_jn3 (fun k hk => ?_) ?_
    | with_reducible refine kk1i (fun s h => ?_)
    | with_reducible refine kk2i (fun s v h => ?_)
    | with_reducible refine kk3i (fun s v w h => ?_)
    | with_reducible refine kk4i (fun s v w x h => ?_)
    | with_reducible exact Kp.mul (by assumption)
    | with_reducible exact Kp.new (by assumption)
    | with_reducible exact kf_fX4_lookOf (by first | assumption | exact Kp.mul (by assumption) | exact Kp.new (by assumption))
    | with_reducible exact kf_fX4_wordAt (by first | assumption | exact Kp.mul (by assumption) | exact Kp.new (by assumption))
    | with_reducible exact kf_fX4_numberAt (by first | assumption | exact Kp.mul (by assumption) | exact Kp.new (by assumption))
    | with_reducible exact kf_fX4_signAt (by first | assumption | exact Kp.mul (by assumption) | exact Kp.new (by assumption))
    | with_reducible exact ih _ _ (by assumption)
    | with_reducible exact kk1 (by assumption) (by assumption)
    | with_reducible exact kk2 (by assumption) (by assumption)
    | with_reducible exact kk3 (by assumption) (by assumption)
    | with_reducible exact kk4 (by assumption) (by assumption))
theorem kf_fX4_scan {b : ZS} {s0 : ZS} {a0 : Int} (h : Kp b s0) : KK b (fX4_scan s0 a0) := by
  unfold fX4_scan
  repeat' (first
    | with_reducible assumption
    | with_reducible exact kk_none
    | with_reducible exact kk_ret (by assumption)
    | with_reducible refine kk_if ?_ ?_
    | with_reducible refine kk_p ?_ (fun s h => ?_)
    | with_reducible refine kk_as ?_ (fun s h => ?_)
    | with_reducible refine kk_na ?_ (fun s h => ?_)
    | with_reducible refine kk_pw ?_ (fun s h => ?_)
    | with_reducible refine kk_ar ?_ (fun s h => ?_)
    | with_reducible refine kk_cp ?_ (fun s h => ?_)
    | with_reducible refine kk_b ?_ (fun v s h => ?_)
    | with_reducible refine kk_g (fun v => ?_)
    | with_reducible refine kk_v ?_
    | with_reducible refine kk_w ?_ ?_ ?_ ?_ ?_ ?_
    | with_reducible refine kk_jn1 (fun k hk => ?_) ?_
    | with_reducible refine kk_jn2 (fun k hk => ?_) ?_
    | with_reducible refine kk_jn3 (fun k hk => ?_) ?_
    | with_reducible refine kk1i (fun s h => ?_)
    | with_reducible refine kk2i (fun s v h => ?_)
    | with_reducible refine kk3i (fun s v w h => ?_)
    | with_reducible refine kk4i (fun s v w x h => ?_)
    | with_reducible exact Kp.mul (by assumption)
    | with_reducible exact Kp.new (by assumption)
    | with_reducible refine kl_lX4_scan_7 ?_ _ _ _ ?_
    | with_reducible exact kk1 (by assumption) (by assumption)
    | with_reducible exact kk2 (by assumption) (by assumption)
    | with_reducible exact kk3 (by assumption) (by assumption)
    | with_reducible exact kk4 (by assumption) (by assumption))
theorem kf_fX4_advance {b : ZS} {s0 : ZS} {a0 : Int} (h : Kp b s0) : KK b (fX4_advance s0 a0) := by
  unfold fX4_advance
  repeat' (first
    | with_reducible assumption
    | with_reducible exact kk_none
    | with_reducible exact kk_ret (by assumption)
    | with_reducible refine kk_if ?_ ?_
    | with_reducible refine kk_p ?_ (fun s h => ?_)
    | with_reducible refine kk_as ?_ (fun s h => ?_)
    | with_reducible refine kk_na ?_ (fun s h => ?_)
    | with_reducible refine kk_pw ?_ (fun s h => ?_)
    | with_reducible refine kk_ar ?_ (fun s h => ?_)
    | with_reducible refine kk_cp ?_ (fun s h => ?_)
    | with_reducible refine kk_b ?_ (fun v s h => ?_)
    | with_reducible refine kk_g (fun v => ?_)
    | with_reducible refine kk_v ?_
    | with_reducible refine kk_w ?_ ?_ ?_ ?_ ?_ ?_
    | with_reducible refine kk_jn1 (fun k hk => ?_) ?_
    | with_reducible refine kk_jn2 (fun k hk => ?_) ?_
    | with_reducible refine kk_jn3 (fun k hk => ?_) ?_
    | with_reducible refine kk1i (fun s h => ?_)
    | with_reducible refine kk2i (fun s v h => ?_)
    | with_reducible refine kk3i (fun s v w h => ?_)
    | with_reducible refine kk4i (fun s v w x h => ?_)
    | with_reducible exact Kp.mul (by assumption)
    | with_reducible exact Kp.new (by assumption)
    | with_reducible exact kk1 (by assumption) (by assumption)
    | with_reducible exact kk2 (by assumption) (by assumption)
    | with_reducible exact kk3 (by assumption) (by assumption)
    | with_reducible exact kk4 (by assumption) (by assumption))
theorem kf_fX4_fail {b : ZS} {s0 : ZS} {a0 : Int} (h : Kp b s0) : KK b (fX4_fail s0 a0) := by
  unfold fX4_fail
  repeat' (first
    | with_reducible assumption
    | with_reducible exact kk_none
    | with_reducible exact kk_ret (by assumption)
    | with_reducible refine kk_if ?_ ?_
    | with_reducible refine kk_p ?_ (fun s h => ?_)
    | with_reducible refine kk_as ?_ (fun s h => ?_)
    | with_reducible refine kk_na ?_ (fun s h => ?_)
    | with_reducible refine kk_pw ?_ (fun s h => ?_)
    | with_reducible refine kk_ar ?_ (fun s h => ?_)
    | with_reducible refine kk_cp ?_ (fun s h => ?_)
    | with_reducible refine kk_b ?_ (fun v s h => ?_)
    | with_reducible refine kk_g (fun v => ?_)
    | with_reducible refine kk_v ?_
    | with_reducible refine kk_w ?_ ?_ ?_ ?_ ?_ ?_
    | with_reducible refine kk_jn1 (fun k hk => ?_) ?_
    | with_reducible refine kk_jn2 (fun k hk => ?_) ?_
    | with_reducible refine kk_jn3 (fun k hk => ?_) ?_
    | with_reducible refine kk1i (fun s h => ?_)
    | with_reducible refine kk2i (fun s v h => ?_)
    | with_reducible refine kk3i (fun s v w h => ?_)
    | with_reducible refine kk4i (fun s v w x h => ?_)
    | with_reducible exact Kp.mul (by assumption)
    | with_reducible exact Kp.new (by assumption)
    | with_reducible exact kk1 (by assumption) (by assumption)
    | with_reducible exact kk2 (by assumption) (by assumption)
    | with_reducible exact kk3 (by assumption) (by assumption)
    | with_reducible exact kk4 (by assumption) (by assumption))
theorem kf_fX4_expect {b : ZS} {s0 : ZS} {a0 : Int} {a1 : Int} (h : Kp b s0) : KK b (fX4_expect s0 a0 a1) := by
  unfold fX4_expect
  repeat' (first
    | with_reducible assumption
    | with_reducible exact kk_none
    | with_reducible exact kk_ret (by assumption)
    | with_reducible refine kk_if ?_ ?_
    | with_reducible refine kk_p ?_ (fun s h => ?_)
    | with_reducible refine kk_as ?_ (fun s h => ?_)
    | with_reducible refine kk_na ?_ (fun s h => ?_)
    | with_reducible refine kk_pw ?_ (fun s h => ?_)
    | with_reducible refine kk_ar ?_ (fun s h => ?_)
    | with_reducible refine kk_cp ?_ (fun s h => ?_)
    | with_reducible refine kk_b ?_ (fun v s h => ?_)
    | with_reducible refine kk_g (fun v => ?_)
    | with_reducible refine kk_v ?_
    | with_reducible refine kk_w ?_ ?_ ?_ ?_ ?_ ?_
    | with_reducible refine kk_jn1 (fun k hk => ?_) ?_
    | with_reducible refine kk_jn2 (fun k hk => ?_) ?_
    | with_reducible refine kk_jn3 (fun k hk => ?_) ?_
    | with_reducible refine kk1i (fun s h => ?_)
    | with_reducible refine kk2i (fun s v h => ?_)
    | with_reducible refine kk3i (fun s v w h => ?_)
    | with_reducible refine kk4i (fun s v w x h => ?_)
    | with_reducible exact Kp.mul (by assumption)
    | with_reducible exact Kp.new (by assumption)
    | with_reducible exact kf_fX4_advance (by first | assumption | exact Kp.mul (by assumption) | exact Kp.new (by assumption))
    | with_reducible exact kf_fX4_fail (by first | assumption | exact Kp.mul (by assumption) | exact Kp.new (by assumption))
    | with_reducible exact kk1 (by assumption) (by assumption)
    | with_reducible exact kk2 (by assumption) (by assumption)
    | with_reducible exact kk3 (by assumption) (by assumption)
    | with_reducible exact kk4 (by assumption) (by assumption))
theorem kf_fX4_mayOpen {b : ZS} {s0 : ZS} {a0 : Int} {a1 : Int} (h : Kp b s0) : KK b (fX4_mayOpen s0 a0 a1) := by
  unfold fX4_mayOpen
  repeat' (first
    | with_reducible assumption
    | with_reducible exact kk_none
    | with_reducible exact kk_ret (by assumption)
    | with_reducible refine kk_if ?_ ?_
    | with_reducible refine kk_p ?_ (fun s h => ?_)
    | with_reducible refine kk_as ?_ (fun s h => ?_)
    | with_reducible refine kk_na ?_ (fun s h => ?_)
    | with_reducible refine kk_pw ?_ (fun s h => ?_)
    | with_reducible refine kk_ar ?_ (fun s h => ?_)
    | with_reducible refine kk_cp ?_ (fun s h => ?_)
    | with_reducible refine kk_b ?_ (fun v s h => ?_)
    | with_reducible refine kk_g (fun v => ?_)
    | with_reducible refine kk_v ?_
    | with_reducible refine kk_w ?_ ?_ ?_ ?_ ?_ ?_
    | with_reducible refine kk_jn1 (fun k hk => ?_) ?_
    | with_reducible refine kk_jn2 (fun k hk => ?_) ?_
    | with_reducible refine kk_jn3 (fun k hk => ?_) ?_
    | with_reducible refine kk1i (fun s h => ?_)
    | with_reducible refine kk2i (fun s v h => ?_)
    | with_reducible refine kk3i (fun s v w h => ?_)
    | with_reducible refine kk4i (fun s v w x h => ?_)
    | with_reducible exact Kp.mul (by assumption)
    | with_reducible exact Kp.new (by assumption)
    | with_reducible exact kf_fX4_advance (by first | assumption | exact Kp.mul (by assumption) | exact Kp.new (by assumption))
    | with_reducible exact kf_fX4_fail (by first | assumption | exact Kp.mul (by assumption) | exact Kp.new (by assumption))
    | with_reducible exact kk1 (by assumption) (by assumption)
    | with_reducible exact kk2 (by assumption) (by assumption)
    | with_reducible exact kk3 (by assumption) (by assumption)
    | with_reducible exact kk4 (by assumption) (by assumption))
theorem kf_fX4_emit {b : ZS} {s0 : ZS} {a0 : Int} {a1 : Int} (h : Kp b s0) : KK b (fX4_emit s0 a0 a1) := by
  unfold fX4_emit
  repeat' (first
    | with_reducible assumption
    | with_reducible exact kk_none
    | with_reducible exact kk_ret (by assumption)
    | with_reducible refine kk_if ?_ ?_
    | with_reducible refine kk_p ?_ (fun s h => ?_)
    | with_reducible refine kk_as ?_ (fun s h => ?_)
    | with_reducible refine kk_na ?_ (fun s h => ?_)
    | with_reducible refine kk_pw ?_ (fun s h => ?_)
    | with_reducible refine kk_ar ?_ (fun s h => ?_)
    | with_reducible refine kk_cp ?_ (fun s h => ?_)
    | with_reducible refine kk_b ?_ (fun v s h => ?_)
    | with_reducible refine kk_g (fun v => ?_)
    | with_reducible refine kk_v ?_
    | with_reducible refine kk_w ?_ ?_ ?_ ?_ ?_ ?_
    | with_reducible refine kk_jn1 (fun k hk => ?_) ?_
    | with_reducible refine kk_jn2 (fun k hk => ?_) ?_
    | with_reducible refine kk_jn3 (fun k hk => ?_) ?_
    | with_reducible refine kk1i (fun s h => ?_)
    | with_reducible refine kk2i (fun s v h => ?_)
    | with_reducible refine kk3i (fun s v w h => ?_)
    | with_reducible refine kk4i (fun s v w x h => ?_)
    | with_reducible exact Kp.mul (by assumption)
    | with_reducible exact Kp.new (by assumption)
    | with_reducible exact kk1 (by assumption) (by assumption)
    | with_reducible exact kk2 (by assumption) (by assumption)
    | with_reducible exact kk3 (by assumption) (by assumption)
    | with_reducible exact kk4 (by assumption) (by assumption))
theorem kl_lX4_readOr_7 {b : ZS} {rf : Nat → ZS → Int → Int → Option (Int × ZS)} {u5 u6 : Int} (hr : RF b rf) : ∀ (n : Nat) (s : ZS) (x0 : Int), Kp b s → KK b (lX4_readOr_7 rf u5 u6 n s x0) := by
  intro n
  induction n with
  | zero => intro s x0 h; exact kk_none
  | succ n ih =>
    intro s x0 h
    rw [lX4_readOr_7]
    repeat' (first
    | with_reducible assumption
    | with_reducible exact kk_none
    | with_reducible exact kk_ret (by assumption)
    | with_reducible refine kk_if ?_ ?_
    | with_reducible refine kk_p ?_ (fun s h => ?_)
    | with_reducible refine kk_as ?_ (fun s h => ?_)
    | with_reducible refine kk_na ?_ (fun s h => ?_)
    | with_reducible refine kk_pw ?_ (fun s h => ?_)
    | with_reducible refine kk_ar ?_ (fun s h => ?_)
    | with_reducible refine kk_cp ?_ (fun s h => ?_)
    | with_reducible refine kk_b ?_ (fun v s h => ?_)
    | with_reducible refine kk_g (fun v => ?_)
    | with_reducible refine kk_v ?_
    | with_reducible refine kk_w ?_ ?_ ?_ ?_ ?_ ?_
    | with_reducible refine kk_jn1 (fun k hk => ?_) ?_
    | with_reducible refine kk_jn2 (fun k hk => ?_) ?_
    | with_reducible refine kk_jn3 (fun k hk => ?_) ?_
    | with_reducible refine kk1i (fun s h => ?_)
    | with_reducible refine kk2i (fun s v h => ?_)
    | with_reducible refine kk3i (fun s v w h => ?_)
    | with_reducible refine kk4i (fun s v w x h => ?_)
    | with_reducible exact Kp.mul (by assumption)
    | with_reducible exact Kp.new (by assumption)
    | with_reducible exact kf_fX4_advance (by first | assumption | exact Kp.mul (by assumption) | exact Kp.new (by assumption))
    | with_reducible exact kf_fX4_emit (by first | assumption | exact Kp.mul (by assumption) | exact Kp.new (by assumption))
    | with_reducible exact kkr hr (by assumption)
    | with_reducible exact ih _ _ (by assumption)
    | with_reducible exact kk1 (by assumption) (by assumption)
    | with_reducible exact kk2 (by assumption) (by assumption)
    | with_reducible exact kk3 (by assumption) (by assumption)
    | with_reducible exact kk4 (by assumption) (by assumption))
theorem kl_lX4_readAnd_7 {b : ZS} {rf : Nat → ZS → Int → Int → Option (Int × ZS)} {u5 u6 : Int} (hr : RF b rf) : ∀ (n : Nat) (s : ZS) (x0 : Int), Kp b s → KK b (lX4_readAnd_7 rf u5 u6 n s x0) := by
  intro n
  induction n with
  | zero => intro s x0 h; exact kk_none
  | succ n ih =>
    intro s x0 h
    rw [lX4_readAnd_7]
    repeat' (first
    | with_reducible assumption
    | with_reducible exact kk_none
    | with_reducible exact kk_ret (by assumption)
    | with_reducible refine kk_if ?_ ?_
    | with_reducible refine kk_p ?_ (fun s h => ?_)
    | with_reducible refine kk_as ?_ (fun s h => ?_)
    | with_reducible refine kk_na ?_ (fun s h => ?_)
    | with_reducible refine kk_pw ?_ (fun s h => ?_)
    | with_reducible refine kk_ar ?_ (fun s h => ?_)
    | with_reducible refine kk_cp ?_ (fun s h => ?_)
    | with_reducible refine kk_b ?_ (fun v s h => ?_)
    | with_reducible refine kk_g (fun v => ?_)
    | with_reducible refine kk_v ?_
    | with_reducible refine kk_w ?_ ?_ ?_ ?_ ?_ ?_
    | with_reducible refine kk_jn1 (fun k hk => ?_) ?_
    | with_reducible refine kk_jn2 (fun k hk => ?_) ?_
    | with_reducible refine kk_jn3 (fun k hk => ?_) ?_
    | with_reducible refine kk1i (fun s h => ?_)
    | with_reducible refine kk2i (fun s v h => ?_)
    | with_reducible refine kk3i (fun s v w h => ?_)
    | with_reducible refine kk4i (fun s v w x h => ?_)
    | with_reducible exact Kp.mul (by assumption)
    | with_reducible exact Kp.new (by assumption)
    | with_reducible exact kf_fX4_advance (by first | assumption | exact Kp.mul (by assumption) | exact Kp.new (by assumption))
    | with_reducible exact kf_fX4_emit (by first | assumption | exact Kp.mul (by assumption) | exact Kp.new (by assumption))
    | with_reducible exact kkr hr (by assumption)
    | with_reducible exact ih _ _ (by assumption)
    | with_reducible exact kk1 (by assumption) (by assumption)
    | with_reducible exact kk2 (by assumption) (by assumption)
    | with_reducible exact kk3 (by assumption) (by assumption)
    | with_reducible exact kk4 (by assumption) (by assumption))
theorem kl_lX4_readSum_7 {b : ZS} {rf : Nat → ZS → Int → Int → Option (Int × ZS)} {u5 u6 : Int} (hr : RF b rf) : ∀ (n : Nat) (s : ZS) (x0 : Int), Kp b s → KK b (lX4_readSum_7 rf u5 u6 n s x0) := by
  intro n
  induction n with
  | zero => intro s x0 h; exact kk_none
  | succ n ih =>
    intro s x0 h
    rw [lX4_readSum_7]
    repeat' (first
    | with_reducible assumption
    | with_reducible exact kk_none
    | with_reducible exact kk_ret (by assumption)
    | with_reducible refine kk_if ?_ ?_
    | with_reducible refine kk_p ?_ (fun s h => ?_)
    | with_reducible refine kk_as ?_ (fun s h => ?_)
    | with_reducible refine kk_na ?_ (fun s h => ?_)
    | with_reducible refine kk_pw ?_ (fun s h => ?_)
    | with_reducible refine kk_ar ?_ (fun s h => ?_)
    | with_reducible refine kk_cp ?_ (fun s h => ?_)
    | with_reducible refine kk_b ?_ (fun v s h => ?_)
    | with_reducible refine kk_g (fun v => ?_)
    | with_reducible refine kk_v ?_
    | with_reducible refine kk_w ?_ ?_ ?_ ?_ ?_ ?_
    | with_reducible refine kk_jn1 (fun k hk => ?_) ?_
    | with_reducible refine kk_jn2 (fun k hk => ?_) ?_
    | with_reducible refine kk_jn3 (fun k hk => ?_) ?_
    | with_reducible refine kk1i (fun s h => ?_)
    | with_reducible refine kk2i (fun s v h => ?_)
    | with_reducible refine kk3i (fun s v w h => ?_)
    | with_reducible refine kk4i (fun s v w x h => ?_)
    | with_reducible exact Kp.mul (by assumption)
    | with_reducible exact Kp.new (by assumption)
    | with_reducible exact kf_fX4_advance (by first | assumption | exact Kp.mul (by assumption) | exact Kp.new (by assumption))
    | with_reducible exact kf_fX4_emit (by first | assumption | exact Kp.mul (by assumption) | exact Kp.new (by assumption))
    | with_reducible exact kkr hr (by assumption)
    | with_reducible exact ih _ _ (by assumption)
    | with_reducible exact kk1 (by assumption) (by assumption)
    | with_reducible exact kk2 (by assumption) (by assumption)
    | with_reducible exact kk3 (by assumption) (by assumption)
    | with_reducible exact kk4 (by assumption) (by assumption))
theorem kl_lX4_readTerm_7 {b : ZS} {rf : Nat → ZS → Int → Int → Option (Int × ZS)} {u5 u6 : Int} (hr : RF b rf) : ∀ (n : Nat) (s : ZS) (x0 : Int), Kp b s → KK b (lX4_readTerm_7 rf u5 u6 n s x0) := by
  intro n
  induction n with
  | zero => intro s x0 h; exact kk_none
  | succ n ih =>
    intro s x0 h
    rw [lX4_readTerm_7]
    repeat' (first
    | with_reducible assumption
    | with_reducible exact kk_none
    | with_reducible exact kk_ret (by assumption)
    | with_reducible refine kk_if ?_ ?_
    | with_reducible refine kk_p ?_ (fun s h => ?_)
    | with_reducible refine kk_as ?_ (fun s h => ?_)
    | with_reducible refine kk_na ?_ (fun s h => ?_)
    | with_reducible refine kk_pw ?_ (fun s h => ?_)
    | with_reducible refine kk_ar ?_ (fun s h => ?_)
    | with_reducible refine kk_cp ?_ (fun s h => ?_)
    | with_reducible refine kk_b ?_ (fun v s h => ?_)
    | with_reducible refine kk_g (fun v => ?_)
    | with_reducible refine kk_v ?_
    | with_reducible refine kk_w ?_ ?_ ?_ ?_ ?_ ?_
    | with_reducible refine kk_jn1 (fun k hk => ?_) ?_
    | with_reducible refine kk_jn2 (fun k hk => ?_) ?_
    | with_reducible refine kk_jn3 (fun k hk => ?_) ?_
    | with_reducible refine kk1i (fun s h => ?_)
    | with_reducible refine kk2i (fun s v h => ?_)
    | with_reducible refine kk3i (fun s v w h => ?_)
    | with_reducible refine kk4i (fun s v w x h => ?_)
    | with_reducible exact Kp.mul (by assumption)
    | with_reducible exact Kp.new (by assumption)
    | with_reducible exact kf_fX4_advance (by first | assumption | exact Kp.mul (by assumption) | exact Kp.new (by assumption))
    | with_reducible exact kf_fX4_emit (by first | assumption | exact Kp.mul (by assumption) | exact Kp.new (by assumption))
    | with_reducible exact kkr hr (by assumption)
    | with_reducible exact ih _ _ (by assumption)
    | with_reducible exact kk1 (by assumption) (by assumption)
    | with_reducible exact kk2 (by assumption) (by assumption)
    | with_reducible exact kk3 (by assumption) (by assumption)
    | with_reducible exact kk4 (by assumption) (by assumption))
theorem kf_sX4_readOr {b : ZS} {rf : Nat → ZS → Int → Int → Option (Int × ZS)} {s0 : ZS} {a0 a1 : Int} (hr : RF b rf) (h : Kp b s0) : KK b (sX4_readOr rf s0 a0 a1) := by
  unfold sX4_readOr
  repeat' (first
    | with_reducible assumption
    | with_reducible exact kk_none
    | with_reducible exact kk_ret (by assumption)
    | with_reducible refine kk_if ?_ ?_
    | with_reducible refine kk_p ?_ (fun s h => ?_)
    | with_reducible refine kk_as ?_ (fun s h => ?_)
    | with_reducible refine kk_na ?_ (fun s h => ?_)
    | with_reducible refine kk_pw ?_ (fun s h => ?_)
    | with_reducible refine kk_ar ?_ (fun s h => ?_)
    | with_reducible refine kk_cp ?_ (fun s h => ?_)
    | with_reducible refine kk_b ?_ (fun v s h => ?_)
    | with_reducible refine kk_g (fun v => ?_)
    | with_reducible refine kk_v ?_
    | with_reducible refine kk_w ?_ ?_ ?_ ?_ ?_ ?_
    | with_reducible refine kk_jn1 (fun k hk => ?_) ?_
    | with_reducible refine kk_jn2 (fun k hk => ?_) ?_
    | with_reducible refine kk_jn3 (fun k hk => ?_) ?_
    | with_reducible refine kk1i (fun s h => ?_)
    | with_reducible refine kk2i (fun s v h => ?_)
    | with_reducible refine kk3i (fun s v w h => ?_)
    | with_reducible refine kk4i (fun s v w x h => ?_)
    | with_reducible exact Kp.mul (by assumption)
    | with_reducible exact Kp.new (by assumption)
    | with_reducible refine kl_lX4_readOr_7 (by assumption) _ _ _ ?_
    | with_reducible exact kkr hr (by assumption)
    | with_reducible exact kk1 (by assumption) (by assumption)
    | with_reducible exact kk2 (by assumption) (by assumption)
    | with_reducible exact kk3 (by assumption) (by assumption)
    | with_reducible exact kk4 (by assumption) (by assumption))
theorem kf_sX4_readAnd {b : ZS} {rf : Nat → ZS → Int → Int → Option (Int × ZS)} {s0 : ZS} {a0 a1 : Int} (hr : RF b rf) (h : Kp b s0) : KK b (sX4_readAnd rf s0 a0 a1) := by
  unfold sX4_readAnd
  repeat' (first
    | with_reducible assumption
    | with_reducible exact kk_none
    | with_reducible exact kk_ret (by assumption)
    | with_reducible refine kk_if ?_ ?_
    | with_reducible refine kk_p ?_ (fun s h => ?_)
    | with_reducible refine kk_as ?_ (fun s h => ?_)
    | with_reducible refine kk_na ?_ (fun s h => ?_)
    | with_reducible refine kk_pw ?_ (fun s h => ?_)
    | with_reducible refine kk_ar ?_ (fun s h => ?_)
    | with_reducible refine kk_cp ?_ (fun s h => ?_)
    | with_reducible refine kk_b ?_ (fun v s h => ?_)
    | with_reducible refine kk_g (fun v => ?_)
    | with_reducible refine kk_v ?_
    | with_reducible refine kk_w ?_ ?_ ?_ ?_ ?_ ?_
    | with_reducible refine kk_jn1 (fun k hk => ?_) ?_
    | with_reducible refine kk_jn2 (fun k hk => ?_) ?_
    | with_reducible refine kk_jn3 (fun k hk => ?_) ?_
    | with_reducible refine kk1i (fun s h => ?_)
    | with_reducible refine kk2i (fun s v h => ?_)
    | with_reducible refine kk3i (fun s v w h => ?_)
    | with_reducible refine kk4i (fun s v w x h => ?_)
    | with_reducible exact Kp.mul (by assumption)
    | with_reducible exact Kp.new (by assumption)
    | with_reducible refine kl_lX4_readAnd_7 (by assumption) _ _ _ ?_
    | with_reducible exact kkr hr (by assumption)
    | with_reducible exact kk1 (by assumption) (by assumption)
    | with_reducible exact kk2 (by assumption) (by assumption)
    | with_reducible exact kk3 (by assumption) (by assumption)
    | with_reducible exact kk4 (by assumption) (by assumption))
theorem kf_sX4_readNot {b : ZS} {rf : Nat → ZS → Int → Int → Option (Int × ZS)} {s0 : ZS} {a0 a1 : Int} (hr : RF b rf) (h : Kp b s0) : KK b (sX4_readNot rf s0 a0 a1) := by
  unfold sX4_readNot
  repeat' (first
    | with_reducible assumption
    | with_reducible exact kk_none
    | with_reducible exact kk_ret (by assumption)
    | with_reducible refine kk_if ?_ ?_
    | with_reducible refine kk_p ?_ (fun s h => ?_)
    | with_reducible refine kk_as ?_ (fun s h => ?_)
    | with_reducible refine kk_na ?_ (fun s h => ?_)
    | with_reducible refine kk_pw ?_ (fun s h => ?_)
    | with_reducible refine kk_ar ?_ (fun s h => ?_)
    | with_reducible refine kk_cp ?_ (fun s h => ?_)
    | with_reducible refine kk_b ?_ (fun v s h => ?_)
    | with_reducible refine kk_g (fun v => ?_)
    | with_reducible refine kk_v ?_
    | with_reducible refine kk_w ?_ ?_ ?_ ?_ ?_ ?_
    | with_reducible refine kk_jn1 (fun k hk => ?_) ?_
    | with_reducible refine kk_jn2 (fun k hk => ?_) ?_
    | with_reducible refine kk_jn3 (fun k hk => ?_) ?_
    | with_reducible refine kk1i (fun s h => ?_)
    | with_reducible refine kk2i (fun s v h => ?_)
    | with_reducible refine kk3i (fun s v w h => ?_)
    | with_reducible refine kk4i (fun s v w x h => ?_)
    | with_reducible exact Kp.mul (by assumption)
    | with_reducible exact Kp.new (by assumption)
    | with_reducible exact kf_fX4_advance (by first | assumption | exact Kp.mul (by assumption) | exact Kp.new (by assumption))
    | with_reducible exact kf_fX4_mayOpen (by first | assumption | exact Kp.mul (by assumption) | exact Kp.new (by assumption))
    | with_reducible exact kf_fX4_emit (by first | assumption | exact Kp.mul (by assumption) | exact Kp.new (by assumption))
    | with_reducible exact kkr hr (by assumption)
    | with_reducible exact kk1 (by assumption) (by assumption)
    | with_reducible exact kk2 (by assumption) (by assumption)
    | with_reducible exact kk3 (by assumption) (by assumption)
    | with_reducible exact kk4 (by assumption) (by assumption))
theorem kf_sX4_readSum {b : ZS} {rf : Nat → ZS → Int → Int → Option (Int × ZS)} {s0 : ZS} {a0 a1 : Int} (hr : RF b rf) (h : Kp b s0) : KK b (sX4_readSum rf s0 a0 a1) := by
  unfold sX4_readSum
  repeat' (first
    | with_reducible assumption
    | with_reducible exact kk_none
    | with_reducible exact kk_ret (by assumption)
    | with_reducible refine kk_if ?_ ?_
    | with_reducible refine kk_p ?_ (fun s h => ?_)
    | with_reducible refine kk_as ?_ (fun s h => ?_)
    | with_reducible refine kk_na ?_ (fun s h => ?_)
    | with_reducible refine kk_pw ?_ (fun s h => ?_)
    | with_reducible refine kk_ar ?_ (fun s h => ?_)
    | with_reducible refine kk_cp ?_ (fun s h => ?_)
    | with_reducible refine kk_b ?_ (fun v s h => ?_)
    | with_reducible refine kk_g (fun v => ?_)
    | with_reducible refine kk_v ?_
    | with_reducible refine kk_w ?_ ?_ ?_ ?_ ?_ ?_
    | with_reducible refine kk_jn1 (fun k hk => ?_) ?_
    | with_reducible refine kk_jn2 (fun k hk => ?_) ?_
    | with_reducible refine kk_jn3 (fun k hk => ?_) ?_
    | with_reducible refine kk1i (fun s h => ?_)
    | with_reducible refine kk2i (fun s v h => ?_)
    | with_reducible refine kk3i (fun s v w h => ?_)
    | with_reducible refine kk4i (fun s v w x h => ?_)
    | with_reducible exact Kp.mul (by assumption)
    | with_reducible exact Kp.new (by assumption)
    | with_reducible refine kl_lX4_readSum_7 (by assumption) _ _ _ ?_
    | with_reducible exact kkr hr (by assumption)
    | with_reducible exact kk1 (by assumption) (by assumption)
    | with_reducible exact kk2 (by assumption) (by assumption)
    | with_reducible exact kk3 (by assumption) (by assumption)
    | with_reducible exact kk4 (by assumption) (by assumption))
theorem kf_sX4_readTerm {b : ZS} {rf : Nat → ZS → Int → Int → Option (Int × ZS)} {s0 : ZS} {a0 a1 : Int} (hr : RF b rf) (h : Kp b s0) : KK b (sX4_readTerm rf s0 a0 a1) := by
  unfold sX4_readTerm
  repeat' (first
    | with_reducible assumption
    | with_reducible exact kk_none
    | with_reducible exact kk_ret (by assumption)
    | with_reducible refine kk_if ?_ ?_
    | with_reducible refine kk_p ?_ (fun s h => ?_)
    | with_reducible refine kk_as ?_ (fun s h => ?_)
    | with_reducible refine kk_na ?_ (fun s h => ?_)
    | with_reducible refine kk_pw ?_ (fun s h => ?_)
    | with_reducible refine kk_ar ?_ (fun s h => ?_)
    | with_reducible refine kk_cp ?_ (fun s h => ?_)
    | with_reducible refine kk_b ?_ (fun v s h => ?_)
    | with_reducible refine kk_g (fun v => ?_)
    | with_reducible refine kk_v ?_
    | with_reducible refine kk_w ?_ ?_ ?_ ?_ ?_ ?_
    | with_reducible refine kk_jn1 (fun k hk => ?_) ?_
    | with_reducible refine kk_jn2 (fun k hk => ?_) ?_
    | with_reducible refine kk_jn3 (fun k hk => ?_) ?_
    | with_reducible refine kk1i (fun s h => ?_)
    | with_reducible refine kk2i (fun s v h => ?_)
    | with_reducible refine kk3i (fun s v w h => ?_)
    | with_reducible refine kk4i (fun s v w x h => ?_)
    | with_reducible exact Kp.mul (by assumption)
    | with_reducible exact Kp.new (by assumption)
    | with_reducible refine kl_lX4_readTerm_7 (by assumption) _ _ _ ?_
    | with_reducible exact kkr hr (by assumption)
    | with_reducible exact kk1 (by assumption) (by assumption)
    | with_reducible exact kk2 (by assumption) (by assumption)
    | with_reducible exact kk3 (by assumption) (by assumption)
    | with_reducible exact kk4 (by assumption) (by assumption))
theorem kf_sX4_readOne {b : ZS} {rf : Nat → ZS → Int → Int → Option (Int × ZS)} {s0 : ZS} {a0 a1 : Int} (hr : RF b rf) (h : Kp b s0) : KK b (sX4_readOne rf s0 a0 a1) := by
  unfold sX4_readOne
  repeat' (first
    | with_reducible assumption
    | with_reducible exact kk_none
    | with_reducible exact kk_ret (by assumption)
    | with_reducible refine kk_if ?_ ?_
    | with_reducible refine kk_p ?_ (fun s h => ?_)
    | with_reducible refine kk_as ?_ (fun s h => ?_)
    | with_reducible refine kk_na ?_ (fun s h => ?_)
    | with_reducible refine kk_pw ?_ (fun s h => ?_)
    | with_reducible refine kk_ar ?_ (fun s h => ?_)
    | with_reducible refine kk_cp ?_ (fun s h => ?_)
    | with_reducible refine kk_b ?_ (fun v s h => ?_)
    | with_reducible refine kk_g (fun v => ?_)
    | with_reducible refine kk_v ?_
    | with_reducible refine kk_w ?_ ?_ ?_ ?_ ?_ ?_
    | with_reducible refine kk_jn1 (fun k hk => ?_) ?_
    | with_reducible refine kk_jn2 (fun k hk => ?_) ?_
    | with_reducible refine kk_jn3 (fun k hk => ?_) ?_
    | with_reducible refine kk1i (fun s h => ?_)
    | with_reducible refine kk2i (fun s v h => ?_)
    | with_reducible refine kk3i (fun s v w h => ?_)
    | with_reducible refine kk4i (fun s v w x h => ?_)
    | with_reducible exact Kp.mul (by assumption)
    | with_reducible exact Kp.new (by assumption)
    | with_reducible exact kf_fX4_advance (by first | assumption | exact Kp.mul (by assumption) | exact Kp.new (by assumption))
    | with_reducible exact kf_fX4_fail (by first | assumption | exact Kp.mul (by assumption) | exact Kp.new (by assumption))
    | with_reducible exact kf_fX4_expect (by first | assumption | exact Kp.mul (by assumption) | exact Kp.new (by assumption))
    | with_reducible exact kf_fX4_mayOpen (by first | assumption | exact Kp.mul (by assumption) | exact Kp.new (by assumption))
    | with_reducible exact kf_fX4_emit (by first | assumption | exact Kp.mul (by assumption) | exact Kp.new (by assumption))
    | with_reducible exact kkr hr (by assumption)
    | with_reducible exact kk1 (by assumption) (by assumption)
    | with_reducible exact kk2 (by assumption) (by assumption)
    | with_reducible exact kk3 (by assumption) (by assumption)
    | with_reducible exact kk4 (by assumption) (by assumption))
theorem kf_sX4_rec {b : ZS} {rf : Nat → ZS → Int → Int → Option (Int × ZS)} {t : Nat} {s0 : ZS} {a0 a1 : Int} (hr : RF b rf) (h : Kp b s0) : KK b (sX4_rec rf t s0 a0 a1) := by
  unfold sX4_rec
  repeat' (first
    | with_reducible assumption
    | with_reducible exact kk_none
    | with_reducible exact kk_ret (by assumption)
    | with_reducible refine kk_if ?_ ?_
    | with_reducible refine kk_p ?_ (fun s h => ?_)
    | with_reducible refine kk_as ?_ (fun s h => ?_)
    | with_reducible refine kk_na ?_ (fun s h => ?_)
    | with_reducible refine kk_pw ?_ (fun s h => ?_)
    | with_reducible refine kk_ar ?_ (fun s h => ?_)
    | with_reducible refine kk_cp ?_ (fun s h => ?_)
    | with_reducible refine kk_b ?_ (fun v s h => ?_)
    | with_reducible refine kk_g (fun v => ?_)
    | with_reducible refine kk_v ?_
    | with_reducible refine kk_w ?_ ?_ ?_ ?_ ?_ ?_
    | with_reducible refine kk_jn1 (fun k hk => ?_) ?_
    | with_reducible refine kk_jn2 (fun k hk => ?_) ?_
    | with_reducible refine kk_jn3 (fun k hk => ?_) ?_
    | with_reducible refine kk1i (fun s h => ?_)
    | with_reducible refine kk2i (fun s v h => ?_)
    | with_reducible refine kk3i (fun s v w h => ?_)
    | with_reducible refine kk4i (fun s v w x h => ?_)
    | with_reducible exact Kp.mul (by assumption)
    | with_reducible exact Kp.new (by assumption)
    | with_reducible exact kf_sX4_readOr (by assumption) (by first | assumption | exact Kp.mul (by assumption) | exact Kp.new (by assumption))
    | with_reducible exact kf_sX4_readAnd (by assumption) (by first | assumption | exact Kp.mul (by assumption) | exact Kp.new (by assumption))
    | with_reducible exact kf_sX4_readNot (by assumption) (by first | assumption | exact Kp.mul (by assumption) | exact Kp.new (by assumption))
    | with_reducible exact kf_sX4_readSum (by assumption) (by first | assumption | exact Kp.mul (by assumption) | exact Kp.new (by assumption))
    | with_reducible exact kf_sX4_readTerm (by assumption) (by first | assumption | exact Kp.mul (by assumption) | exact Kp.new (by assumption))
    | with_reducible exact kf_sX4_readOne (by assumption) (by first | assumption | exact Kp.mul (by assumption) | exact Kp.new (by assumption))
    | with_reducible exact kkr hr (by assumption)
    | with_reducible exact kk1 (by assumption) (by assumption)
    | with_reducible exact kk2 (by assumption) (by assumption)
    | with_reducible exact kk3 (by assumption) (by assumption)
    | with_reducible exact kk4 (by assumption) (by assumption))
theorem kf_fX4_rec {b : ZS} : ∀ d : Nat, RF b (fX4_rec d) := by
  intro d
  induction d with
  | zero => intro t s x y h; exact kk_none
  | succ d ih => intro t s x y h; rw [fX4_rec]; exact kf_sX4_rec ih (by first | assumption | exact Kp.mul (by assumption) | exact Kp.new (by assumption))
theorem kf_fX4_readOr {b : ZS} {s0 : ZS} {a0 a1 : Int} (h : Kp b s0) : KK b (fX4_readOr s0 a0 a1) := by
  unfold fX4_readOr
  repeat' (first
    | with_reducible assumption
    | with_reducible exact kk_none
    | with_reducible exact kk_ret (by assumption)
    | with_reducible refine kk_if ?_ ?_
    | with_reducible refine kk_p ?_ (fun s h => ?_)
    | with_reducible refine kk_as ?_ (fun s h => ?_)
    | with_reducible refine kk_na ?_ (fun s h => ?_)
    | with_reducible refine kk_pw ?_ (fun s h => ?_)
    | with_reducible refine kk_ar ?_ (fun s h => ?_)
    | with_reducible refine kk_cp ?_ (fun s h => ?_)
    | with_reducible refine kk_b ?_ (fun v s h => ?_)
    | with_reducible refine kk_g (fun v => ?_)
    | with_reducible refine kk_v ?_
    | with_reducible refine kk_w ?_ ?_ ?_ ?_ ?_ ?_
    | with_reducible refine kk_jn1 (fun k hk => ?_) ?_
    | with_reducible refine kk_jn2 (fun k hk => ?_) ?_
    | with_reducible refine kk_jn3 (fun k hk => ?_) ?_
    | with_reducible refine kk1i (fun s h => ?_)
    | with_reducible refine kk2i (fun s v h => ?_)
    | with_reducible refine kk3i (fun s v w h => ?_)
    | with_reducible refine kk4i (fun s v w x h => ?_)
    | with_reducible exact Kp.mul (by assumption)
    | with_reducible exact Kp.new (by assumption)
    | with_reducible exact kkr (kf_fX4_rec _) (by assumption)
    | with_reducible exact kk1 (by assumption) (by assumption)
    | with_reducible exact kk2 (by assumption) (by assumption)
    | with_reducible exact kk3 (by assumption) (by assumption)
    | with_reducible exact kk4 (by assumption) (by assumption))
theorem kf_fX4_readClause {b : ZS} {s0 : ZS} {a0 : Int} {a1 : Int} (h : Kp b s0) : KK b (fX4_readClause s0 a0 a1) := by
  unfold fX4_readClause
  repeat' (first
    | with_reducible assumption
    | with_reducible exact kk_none
    | with_reducible exact kk_ret (by assumption)
    | with_reducible refine kk_if ?_ ?_
    | with_reducible refine kk_p ?_ (fun s h => ?_)
    | with_reducible refine kk_as ?_ (fun s h => ?_)
    | with_reducible refine kk_na ?_ (fun s h => ?_)
    | with_reducible refine kk_pw ?_ (fun s h => ?_)
    | with_reducible refine kk_ar ?_ (fun s h => ?_)
    | with_reducible refine kk_cp ?_ (fun s h => ?_)
    | with_reducible refine kk_b ?_ (fun v s h => ?_)
    | with_reducible refine kk_g (fun v => ?_)
    | with_reducible refine kk_v ?_
    | with_reducible refine kk_w ?_ ?_ ?_ ?_ ?_ ?_
    | with_reducible refine kk_jn1 (fun k hk => ?_) ?_
    | with_reducible refine kk_jn2 (fun k hk => ?_) ?_
    | with_reducible refine kk_jn3 (fun k hk => ?_) ?_
    | with_reducible refine kk1i (fun s h => ?_)
    | with_reducible refine kk2i (fun s v h => ?_)
    | with_reducible refine kk3i (fun s v w h => ?_)
    | with_reducible refine kk4i (fun s v w x h => ?_)
    | with_reducible exact Kp.mul (by assumption)
    | with_reducible exact Kp.new (by assumption)
    | with_reducible exact kf_fX4_expect (by first | assumption | exact Kp.mul (by assumption) | exact Kp.new (by assumption))
    | with_reducible exact kf_fX4_readOr (by first | assumption | exact Kp.mul (by assumption) | exact Kp.new (by assumption))
    | with_reducible exact kk1 (by assumption) (by assumption)
    | with_reducible exact kk2 (by assumption) (by assumption)
    | with_reducible exact kk3 (by assumption) (by assumption)
    | with_reducible exact kk4 (by assumption) (by assumption))
theorem kf_fJ7_copyOf_59c91 {b : ZS} {s0 : ZS} {a0 : Int} {a1 : Int} (h : Kp b s0) : KK b (fJ7_copyOf_59c91 s0 a0 a1) := by
  unfold fJ7_copyOf_59c91
  repeat' (first
    | with_reducible assumption
    | with_reducible exact kk_none
    | with_reducible exact kk_ret (by assumption)
    | with_reducible refine kk_if ?_ ?_
    | with_reducible refine kk_p ?_ (fun s h => ?_)
    | with_reducible refine kk_as ?_ (fun s h => ?_)
    | with_reducible refine kk_na ?_ (fun s h => ?_)
    | with_reducible refine kk_pw ?_ (fun s h => ?_)
    | with_reducible refine kk_ar ?_ (fun s h => ?_)
    | with_reducible refine kk_cp ?_ (fun s h => ?_)
    | with_reducible refine kk_b ?_ (fun v s h => ?_)
    | with_reducible refine kk_g (fun v => ?_)
    | with_reducible refine kk_v ?_
    | with_reducible refine kk_w ?_ ?_ ?_ ?_ ?_ ?_
    | with_reducible refine kk_jn1 (fun k hk => ?_) ?_
    | with_reducible refine kk_jn2 (fun k hk => ?_) ?_
    | with_reducible refine kk_jn3 (fun k hk => ?_) ?_
    | with_reducible refine kk1i (fun s h => ?_)
    | with_reducible refine kk2i (fun s v h => ?_)
    | with_reducible refine kk3i (fun s v w h => ?_)
    | with_reducible refine kk4i (fun s v w x h => ?_)
    | with_reducible exact Kp.mul (by assumption)
    | with_reducible exact Kp.new (by assumption)
    | with_reducible exact kk1 (by assumption) (by assumption)
    | with_reducible exact kk2 (by assumption) (by assumption)
    | with_reducible exact kk3 (by assumption) (by assumption)
    | with_reducible exact kk4 (by assumption) (by assumption))
theorem kf_fJ7_checkLength_df160 {b : ZS} {s0 : ZS} {a0 : Int} {a1 : Int} (h : Kp b s0) : KK b (fJ7_checkLength_df160 s0 a0 a1) := by
  unfold fJ7_checkLength_df160
  repeat' (first
    | with_reducible assumption
    | with_reducible exact kk_none
    | with_reducible exact kk_ret (by assumption)
    | with_reducible refine kk_if ?_ ?_
    | with_reducible refine kk_p ?_ (fun s h => ?_)
    | with_reducible refine kk_as ?_ (fun s h => ?_)
    | with_reducible refine kk_na ?_ (fun s h => ?_)
    | with_reducible refine kk_pw ?_ (fun s h => ?_)
    | with_reducible refine kk_ar ?_ (fun s h => ?_)
    | with_reducible refine kk_cp ?_ (fun s h => ?_)
    | with_reducible refine kk_b ?_ (fun v s h => ?_)
    | with_reducible refine kk_g (fun v => ?_)
    | with_reducible refine kk_v ?_
    | with_reducible refine kk_w ?_ ?_ ?_ ?_ ?_ ?_
    | with_reducible refine kk_jn1 (fun k hk => ?_) ?_
    | with_reducible refine kk_jn2 (fun k hk => ?_) ?_
    | with_reducible refine kk_jn3 (fun k hk => ?_) ?_
    | with_reducible refine kk1i (fun s h => ?_)
    | with_reducible refine kk2i (fun s v h => ?_)
    | with_reducible refine kk3i (fun s v w h => ?_)
    | with_reducible refine kk4i (fun s v w x h => ?_)
    | with_reducible exact Kp.mul (by assumption)
    | with_reducible exact Kp.new (by assumption)
    | with_reducible exact kk1 (by assumption) (by assumption)
    | with_reducible exact kk2 (by assumption) (by assumption)
    | with_reducible exact kk3 (by assumption) (by assumption)
    | with_reducible exact kk4 (by assumption) (by assumption))
theorem kf_fJ7_copyOfRangeInt_feecc {b : ZS} {s0 : ZS} {a0 : Int} {a1 : Int} {a2 : Int} (h : Kp b s0) : KK b (fJ7_copyOfRangeInt_feecc s0 a0 a1 a2) := by
  unfold fJ7_copyOfRangeInt_feecc
  repeat' (first
    | with_reducible assumption
    | with_reducible exact kk_none
    | with_reducible exact kk_ret (by assumption)
    | with_reducible refine kk_if ?_ ?_
    | with_reducible refine kk_p ?_ (fun s h => ?_)
    | with_reducible refine kk_as ?_ (fun s h => ?_)
    | with_reducible refine kk_na ?_ (fun s h => ?_)
    | with_reducible refine kk_pw ?_ (fun s h => ?_)
    | with_reducible refine kk_ar ?_ (fun s h => ?_)
    | with_reducible refine kk_cp ?_ (fun s h => ?_)
    | with_reducible refine kk_b ?_ (fun v s h => ?_)
    | with_reducible refine kk_g (fun v => ?_)
    | with_reducible refine kk_v ?_
    | with_reducible refine kk_w ?_ ?_ ?_ ?_ ?_ ?_
    | with_reducible refine kk_jn1 (fun k hk => ?_) ?_
    | with_reducible refine kk_jn2 (fun k hk => ?_) ?_
    | with_reducible refine kk_jn3 (fun k hk => ?_) ?_
    | with_reducible refine kk1i (fun s h => ?_)
    | with_reducible refine kk2i (fun s v h => ?_)
    | with_reducible refine kk3i (fun s v w h => ?_)
    | with_reducible refine kk4i (fun s v w x h => ?_)
    | with_reducible exact Kp.mul (by assumption)
    | with_reducible exact Kp.new (by assumption)
    | with_reducible exact kf_fJ7_checkLength_df160 (by first | assumption | exact Kp.mul (by assumption) | exact Kp.new (by assumption))
    | with_reducible exact kk1 (by assumption) (by assumption)
    | with_reducible exact kk2 (by assumption) (by assumption)
    | with_reducible exact kk3 (by assumption) (by assumption)
    | with_reducible exact kk4 (by assumption) (by assumption))
theorem kf_fJ7_copyOfRange_feecc {b : ZS} {s0 : ZS} {a0 : Int} {a1 : Int} {a2 : Int} (h : Kp b s0) : KK b (fJ7_copyOfRange_feecc s0 a0 a1 a2) := by
  unfold fJ7_copyOfRange_feecc
  repeat' (first
    | with_reducible assumption
    | with_reducible exact kk_none
    | with_reducible exact kk_ret (by assumption)
    | with_reducible refine kk_if ?_ ?_
    | with_reducible refine kk_p ?_ (fun s h => ?_)
    | with_reducible refine kk_as ?_ (fun s h => ?_)
    | with_reducible refine kk_na ?_ (fun s h => ?_)
    | with_reducible refine kk_pw ?_ (fun s h => ?_)
    | with_reducible refine kk_ar ?_ (fun s h => ?_)
    | with_reducible refine kk_cp ?_ (fun s h => ?_)
    | with_reducible refine kk_b ?_ (fun v s h => ?_)
    | with_reducible refine kk_g (fun v => ?_)
    | with_reducible refine kk_v ?_
    | with_reducible refine kk_w ?_ ?_ ?_ ?_ ?_ ?_
    | with_reducible refine kk_jn1 (fun k hk => ?_) ?_
    | with_reducible refine kk_jn2 (fun k hk => ?_) ?_
    | with_reducible refine kk_jn3 (fun k hk => ?_) ?_
    | with_reducible refine kk1i (fun s h => ?_)
    | with_reducible refine kk2i (fun s v h => ?_)
    | with_reducible refine kk3i (fun s v w h => ?_)
    | with_reducible refine kk4i (fun s v w x h => ?_)
    | with_reducible exact Kp.mul (by assumption)
    | with_reducible exact Kp.new (by assumption)
    | with_reducible exact kf_fJ7_copyOfRangeInt_feecc (by first | assumption | exact Kp.mul (by assumption) | exact Kp.new (by assumption))
    | with_reducible exact kk1 (by assumption) (by assumption)
    | with_reducible exact kk2 (by assumption) (by assumption)
    | with_reducible exact kk3 (by assumption) (by assumption)
    | with_reducible exact kk4 (by assumption) (by assumption))
theorem kf_fX4_readTape {b : ZS} {s0 : ZS} {a0 : Int} (h : Kp b s0) : KK b (fX4_readTape s0 a0) := by
  unfold fX4_readTape
  repeat' (first
    | with_reducible assumption
    | with_reducible exact kk_none
    | with_reducible exact kk_ret (by assumption)
    | with_reducible refine kk_if ?_ ?_
    | with_reducible refine kk_p ?_ (fun s h => ?_)
    | with_reducible refine kk_as ?_ (fun s h => ?_)
    | with_reducible refine kk_na ?_ (fun s h => ?_)
    | with_reducible refine kk_pw ?_ (fun s h => ?_)
    | with_reducible refine kk_ar ?_ (fun s h => ?_)
    | with_reducible refine kk_cp ?_ (fun s h => ?_)
    | with_reducible refine kk_b ?_ (fun v s h => ?_)
    | with_reducible refine kk_g (fun v => ?_)
    | with_reducible refine kk_v ?_
    | with_reducible refine kk_w ?_ ?_ ?_ ?_ ?_ ?_
    | with_reducible refine kk_jn1 (fun k hk => ?_) ?_
    | with_reducible refine kk_jn2 (fun k hk => ?_) ?_
    | with_reducible refine kk_jn3 (fun k hk => ?_) ?_
    | with_reducible refine kk1i (fun s h => ?_)
    | with_reducible refine kk2i (fun s v h => ?_)
    | with_reducible refine kk3i (fun s v w h => ?_)
    | with_reducible refine kk4i (fun s v w x h => ?_)
    | with_reducible exact Kp.mul (by assumption)
    | with_reducible exact Kp.new (by assumption)
    | with_reducible exact kf_fX8_init (by first | assumption | exact Kp.mul (by assumption) | exact Kp.new (by assumption))
    | with_reducible exact kf_fX4_scan (by first | assumption | exact Kp.mul (by assumption) | exact Kp.new (by assumption))
    | with_reducible exact kf_fX4_fail (by first | assumption | exact Kp.mul (by assumption) | exact Kp.new (by assumption))
    | with_reducible exact kf_fX4_readClause (by first | assumption | exact Kp.mul (by assumption) | exact Kp.new (by assumption))
    | with_reducible exact kf_fJ7_copyOf_59c91 (by first | assumption | exact Kp.mul (by assumption) | exact Kp.new (by assumption))
    | with_reducible exact kf_fJ7_copyOfRange_feecc (by first | assumption | exact Kp.mul (by assumption) | exact Kp.new (by assumption))
    | with_reducible exact kk1 (by assumption) (by assumption)
    | with_reducible exact kk2 (by assumption) (by assumption)
    | with_reducible exact kk3 (by assumption) (by assumption)
    | with_reducible exact kk4 (by assumption) (by assumption))
theorem kf_fX11_text {b : ZS} {s0 : ZS} {a0 : Int} (h : Kp b s0) : KK b (fX11_text s0 a0) := by
  unfold fX11_text
  repeat' (first
    | with_reducible assumption
    | with_reducible exact kk_none
    | with_reducible exact kk_ret (by assumption)
    | with_reducible refine kk_if ?_ ?_
    | with_reducible refine kk_p ?_ (fun s h => ?_)
    | with_reducible refine kk_as ?_ (fun s h => ?_)
    | with_reducible refine kk_na ?_ (fun s h => ?_)
    | with_reducible refine kk_pw ?_ (fun s h => ?_)
    | with_reducible refine kk_ar ?_ (fun s h => ?_)
    | with_reducible refine kk_cp ?_ (fun s h => ?_)
    | with_reducible refine kk_b ?_ (fun v s h => ?_)
    | with_reducible refine kk_g (fun v => ?_)
    | with_reducible refine kk_v ?_
    | with_reducible refine kk_w ?_ ?_ ?_ ?_ ?_ ?_
    | with_reducible refine kk_jn1 (fun k hk => ?_) ?_
    | with_reducible refine kk_jn2 (fun k hk => ?_) ?_
    | with_reducible refine kk_jn3 (fun k hk => ?_) ?_
    | with_reducible refine kk1i (fun s h => ?_)
    | with_reducible refine kk2i (fun s v h => ?_)
    | with_reducible refine kk3i (fun s v w h => ?_)
    | with_reducible refine kk4i (fun s v w x h => ?_)
    | with_reducible exact Kp.mul (by assumption)
    | with_reducible exact Kp.new (by assumption)
    | with_reducible exact kf_fX4_readTape (by first | assumption | exact Kp.mul (by assumption) | exact Kp.new (by assumption))
    | with_reducible exact kk1 (by assumption) (by assumption)
    | with_reducible exact kk2 (by assumption) (by assumption)
    | with_reducible exact kk3 (by assumption) (by assumption)
    | with_reducible exact kk4 (by assumption) (by assumption))
theorem kf_fX11_force {b : ZS} {s0 : ZS} {a0 : Int} {a1 : Int} (h : Kp b s0) : KK b (fX11_force s0 a0 a1) := by
  unfold fX11_force
  repeat' (first
    | with_reducible assumption
    | with_reducible exact kk_none
    | with_reducible exact kk_ret (by assumption)
    | with_reducible refine kk_if ?_ ?_
    | with_reducible refine kk_p ?_ (fun s h => ?_)
    | with_reducible refine kk_as ?_ (fun s h => ?_)
    | with_reducible refine kk_na ?_ (fun s h => ?_)
    | with_reducible refine kk_pw ?_ (fun s h => ?_)
    | with_reducible refine kk_ar ?_ (fun s h => ?_)
    | with_reducible refine kk_cp ?_ (fun s h => ?_)
    | with_reducible refine kk_b ?_ (fun v s h => ?_)
    | with_reducible refine kk_g (fun v => ?_)
    | with_reducible refine kk_v ?_
    | with_reducible refine kk_w ?_ ?_ ?_ ?_ ?_ ?_
    | with_reducible refine kk_jn1 (fun k hk => ?_) ?_
    | with_reducible refine kk_jn2 (fun k hk => ?_) ?_
    | with_reducible refine kk_jn3 (fun k hk => ?_) ?_
    | with_reducible refine kk1i (fun s h => ?_)
    | with_reducible refine kk2i (fun s v h => ?_)
    | with_reducible refine kk3i (fun s v w h => ?_)
    | with_reducible refine kk4i (fun s v w x h => ?_)
    | with_reducible exact Kp.mul (by assumption)
    | with_reducible exact Kp.new (by assumption)
    | with_reducible exact kk1 (by assumption) (by assumption)
    | with_reducible exact kk2 (by assumption) (by assumption)
    | with_reducible exact kk3 (by assumption) (by assumption)
    | with_reducible exact kk4 (by assumption) (by assumption))
theorem kf_fX11_isSheet {b : ZS} {s0 : ZS} {a0 : Int} (h : Kp b s0) : KK b (fX11_isSheet s0 a0) := by
  unfold fX11_isSheet
  repeat' (first
    | with_reducible assumption
    | with_reducible exact kk_none
    | with_reducible exact kk_ret (by assumption)
    | with_reducible refine kk_if ?_ ?_
    | with_reducible refine kk_p ?_ (fun s h => ?_)
    | with_reducible refine kk_as ?_ (fun s h => ?_)
    | with_reducible refine kk_na ?_ (fun s h => ?_)
    | with_reducible refine kk_pw ?_ (fun s h => ?_)
    | with_reducible refine kk_ar ?_ (fun s h => ?_)
    | with_reducible refine kk_cp ?_ (fun s h => ?_)
    | with_reducible refine kk_b ?_ (fun v s h => ?_)
    | with_reducible refine kk_g (fun v => ?_)
    | with_reducible refine kk_v ?_
    | with_reducible refine kk_w ?_ ?_ ?_ ?_ ?_ ?_
    | with_reducible refine kk_jn1 (fun k hk => ?_) ?_
    | with_reducible refine kk_jn2 (fun k hk => ?_) ?_
    | with_reducible refine kk_jn3 (fun k hk => ?_) ?_
    | with_reducible refine kk1i (fun s h => ?_)
    | with_reducible refine kk2i (fun s v h => ?_)
    | with_reducible refine kk3i (fun s v w h => ?_)
    | with_reducible refine kk4i (fun s v w x h => ?_)
    | with_reducible exact Kp.mul (by assumption)
    | with_reducible exact Kp.new (by assumption)
    | with_reducible exact kf_fX11_within (by first | assumption | exact Kp.mul (by assumption) | exact Kp.new (by assumption))
    | with_reducible exact kk1 (by assumption) (by assumption)
    | with_reducible exact kk2 (by assumption) (by assumption)
    | with_reducible exact kk3 (by assumption) (by assumption)
    | with_reducible exact kk4 (by assumption) (by assumption))
theorem kf_fX6_isMissing {b : ZS} {s0 : ZS} {a0 : Int} (h : Kp b s0) : KK b (fX6_isMissing s0 a0) := by
  unfold fX6_isMissing
  repeat' (first
    | with_reducible assumption
    | with_reducible exact kk_none
    | with_reducible exact kk_ret (by assumption)
    | with_reducible refine kk_if ?_ ?_
    | with_reducible refine kk_p ?_ (fun s h => ?_)
    | with_reducible refine kk_as ?_ (fun s h => ?_)
    | with_reducible refine kk_na ?_ (fun s h => ?_)
    | with_reducible refine kk_pw ?_ (fun s h => ?_)
    | with_reducible refine kk_ar ?_ (fun s h => ?_)
    | with_reducible refine kk_cp ?_ (fun s h => ?_)
    | with_reducible refine kk_b ?_ (fun v s h => ?_)
    | with_reducible refine kk_g (fun v => ?_)
    | with_reducible refine kk_v ?_
    | with_reducible refine kk_w ?_ ?_ ?_ ?_ ?_ ?_
    | with_reducible refine kk_jn1 (fun k hk => ?_) ?_
    | with_reducible refine kk_jn2 (fun k hk => ?_) ?_
    | with_reducible refine kk_jn3 (fun k hk => ?_) ?_
    | with_reducible refine kk1i (fun s h => ?_)
    | with_reducible refine kk2i (fun s v h => ?_)
    | with_reducible refine kk3i (fun s v w h => ?_)
    | with_reducible refine kk4i (fun s v w x h => ?_)
    | with_reducible exact Kp.mul (by assumption)
    | with_reducible exact Kp.new (by assumption)
    | with_reducible exact kk1 (by assumption) (by assumption)
    | with_reducible exact kk2 (by assumption) (by assumption)
    | with_reducible exact kk3 (by assumption) (by assumption)
    | with_reducible exact kk4 (by assumption) (by assumption))
theorem kl_lX11_holdsChoices_2 {b : ZS} {u2 : Int} : ∀ (n : Nat) (s : ZS) (x0 : Int), Kp b s → KK b (lX11_holdsChoices_2 u2 n s x0) := by
  intro n
  induction n with
  | zero => intro s x0 h; exact kk_none
  | succ n ih =>
    intro s x0 h
    rw [lX11_holdsChoices_2]
    repeat' (first
    | with_reducible assumption
    | with_reducible exact kk_none
    | with_reducible exact kk_ret (by assumption)
    | with_reducible refine kk_if ?_ ?_
    | with_reducible refine kk_p ?_ (fun s h => ?_)
    | with_reducible refine kk_as ?_ (fun s h => ?_)
    | with_reducible refine kk_na ?_ (fun s h => ?_)
    | with_reducible refine kk_pw ?_ (fun s h => ?_)
    | with_reducible refine kk_ar ?_ (fun s h => ?_)
    | with_reducible refine kk_cp ?_ (fun s h => ?_)
    | with_reducible refine kk_b ?_ (fun v s h => ?_)
    | with_reducible refine kk_g (fun v => ?_)
    | with_reducible refine kk_v ?_
    | with_reducible refine kk_w ?_ ?_ ?_ ?_ ?_ ?_
    | with_reducible refine kk_jn1 (fun k hk => ?_) ?_
    | with_reducible refine kk_jn2 (fun k hk => ?_) ?_
    | with_reducible refine kk_jn3 (fun k hk => ?_) ?_
    | with_reducible refine kk1i (fun s h => ?_)
    | with_reducible refine kk2i (fun s v h => ?_)
    | with_reducible refine kk3i (fun s v w h => ?_)
    | with_reducible refine kk4i (fun s v w x h => ?_)
    | with_reducible exact Kp.mul (by assumption)
    | with_reducible exact Kp.new (by assumption)
    | with_reducible exact kf_fX11_within (by first | assumption | exact Kp.mul (by assumption) | exact Kp.new (by assumption))
    | with_reducible exact ih _ _ (by assumption)
    | with_reducible exact kk1 (by assumption) (by assumption)
    | with_reducible exact kk2 (by assumption) (by assumption)
    | with_reducible exact kk3 (by assumption) (by assumption)
    | with_reducible exact kk4 (by assumption) (by assumption))
theorem kf_fX11_holdsChoices {b : ZS} {s0 : ZS} {a0 : Int} (h : Kp b s0) : KK b (fX11_holdsChoices s0 a0) := by
  unfold fX11_holdsChoices
  repeat' (first
    | with_reducible assumption
    | with_reducible exact kk_none
    | with_reducible exact kk_ret (by assumption)
    | with_reducible refine kk_if ?_ ?_
    | with_reducible refine kk_p ?_ (fun s h => ?_)
    | with_reducible refine kk_as ?_ (fun s h => ?_)
    | with_reducible refine kk_na ?_ (fun s h => ?_)
    | with_reducible refine kk_pw ?_ (fun s h => ?_)
    | with_reducible refine kk_ar ?_ (fun s h => ?_)
    | with_reducible refine kk_cp ?_ (fun s h => ?_)
    | with_reducible refine kk_b ?_ (fun v s h => ?_)
    | with_reducible refine kk_g (fun v => ?_)
    | with_reducible refine kk_v ?_
    | with_reducible refine kk_w ?_ ?_ ?_ ?_ ?_ ?_
    | with_reducible refine kk_jn1 (fun k hk => ?_) ?_
    | with_reducible refine kk_jn2 (fun k hk => ?_) ?_
    | with_reducible refine kk_jn3 (fun k hk => ?_) ?_
    | with_reducible refine kk1i (fun s h => ?_)
    | with_reducible refine kk2i (fun s v h => ?_)
    | with_reducible refine kk3i (fun s v w h => ?_)
    | with_reducible refine kk4i (fun s v w x h => ?_)
    | with_reducible exact Kp.mul (by assumption)
    | with_reducible exact Kp.new (by assumption)
    | with_reducible refine kl_lX11_holdsChoices_2 _ _ _ ?_
    | with_reducible exact kk1 (by assumption) (by assumption)
    | with_reducible exact kk2 (by assumption) (by assumption)
    | with_reducible exact kk3 (by assumption) (by assumption)
    | with_reducible exact kk4 (by assumption) (by assumption))
theorem kf_fX10_init {b : ZS} {s0 : ZS} {a0 : Int} {a1 : Int} (h : Kp b s0) : KK b (fX10_init s0 a0 a1) := by
  unfold fX10_init
  repeat' (first
    | with_reducible assumption
    | with_reducible exact kk_none
    | with_reducible exact kk_ret (by assumption)
    | with_reducible refine kk_if ?_ ?_
    | with_reducible refine kk_p ?_ (fun s h => ?_)
    | with_reducible refine kk_as ?_ (fun s h => ?_)
    | with_reducible refine kk_na ?_ (fun s h => ?_)
    | with_reducible refine kk_pw ?_ (fun s h => ?_)
    | with_reducible refine kk_ar ?_ (fun s h => ?_)
    | with_reducible refine kk_cp ?_ (fun s h => ?_)
    | with_reducible refine kk_b ?_ (fun v s h => ?_)
    | with_reducible refine kk_g (fun v => ?_)
    | with_reducible refine kk_v ?_
    | with_reducible refine kk_w ?_ ?_ ?_ ?_ ?_ ?_
    | with_reducible refine kk_jn1 (fun k hk => ?_) ?_
    | with_reducible refine kk_jn2 (fun k hk => ?_) ?_
    | with_reducible refine kk_jn3 (fun k hk => ?_) ?_
    | with_reducible refine kk1i (fun s h => ?_)
    | with_reducible refine kk2i (fun s v h => ?_)
    | with_reducible refine kk3i (fun s v w h => ?_)
    | with_reducible refine kk4i (fun s v w x h => ?_)
    | with_reducible exact Kp.mul (by assumption)
    | with_reducible exact Kp.new (by assumption)
    | with_reducible exact kk1 (by assumption) (by assumption)
    | with_reducible exact kk2 (by assumption) (by assumption)
    | with_reducible exact kk3 (by assumption) (by assumption)
    | with_reducible exact kk4 (by assumption) (by assumption))
theorem kf_fX9_init {b : ZS} {s0 : ZS} {a0 : Int} {a1 : Int} (h : Kp b s0) : KK b (fX9_init s0 a0 a1) := by
  unfold fX9_init
  repeat' (first
    | with_reducible assumption
    | with_reducible exact kk_none
    | with_reducible exact kk_ret (by assumption)
    | with_reducible refine kk_if ?_ ?_
    | with_reducible refine kk_p ?_ (fun s h => ?_)
    | with_reducible refine kk_as ?_ (fun s h => ?_)
    | with_reducible refine kk_na ?_ (fun s h => ?_)
    | with_reducible refine kk_pw ?_ (fun s h => ?_)
    | with_reducible refine kk_ar ?_ (fun s h => ?_)
    | with_reducible refine kk_cp ?_ (fun s h => ?_)
    | with_reducible refine kk_b ?_ (fun v s h => ?_)
    | with_reducible refine kk_g (fun v => ?_)
    | with_reducible refine kk_v ?_
    | with_reducible refine kk_w ?_ ?_ ?_ ?_ ?_ ?_
    | with_reducible refine kk_jn1 (fun k hk => ?_) ?_
    | with_reducible refine kk_jn2 (fun k hk => ?_) ?_
    | with_reducible refine kk_jn3 (fun k hk => ?_) ?_
    | with_reducible refine kk1i (fun s h => ?_)
    | with_reducible refine kk2i (fun s v h => ?_)
    | with_reducible refine kk3i (fun s v w h => ?_)
    | with_reducible refine kk4i (fun s v w x h => ?_)
    | with_reducible exact Kp.mul (by assumption)
    | with_reducible exact Kp.new (by assumption)
    | with_reducible exact kf_fX10_init (by first | assumption | exact Kp.mul (by assumption) | exact Kp.new (by assumption))
    | with_reducible exact kk1 (by assumption) (by assumption)
    | with_reducible exact kk2 (by assumption) (by assumption)
    | with_reducible exact kk3 (by assumption) (by assumption)
    | with_reducible exact kk4 (by assumption) (by assumption))
theorem kf_fX3_init {b : ZS} {s0 : ZS} {a0 : Int} {a1 : Int} (h : Kp b s0) : KK b (fX3_init s0 a0 a1) := by
  unfold fX3_init
  repeat' (first
    | with_reducible assumption
    | with_reducible exact kk_none
    | with_reducible exact kk_ret (by assumption)
    | with_reducible refine kk_if ?_ ?_
    | with_reducible refine kk_p ?_ (fun s h => ?_)
    | with_reducible refine kk_as ?_ (fun s h => ?_)
    | with_reducible refine kk_na ?_ (fun s h => ?_)
    | with_reducible refine kk_pw ?_ (fun s h => ?_)
    | with_reducible refine kk_ar ?_ (fun s h => ?_)
    | with_reducible refine kk_cp ?_ (fun s h => ?_)
    | with_reducible refine kk_b ?_ (fun v s h => ?_)
    | with_reducible refine kk_g (fun v => ?_)
    | with_reducible refine kk_v ?_
    | with_reducible refine kk_w ?_ ?_ ?_ ?_ ?_ ?_
    | with_reducible refine kk_jn1 (fun k hk => ?_) ?_
    | with_reducible refine kk_jn2 (fun k hk => ?_) ?_
    | with_reducible refine kk_jn3 (fun k hk => ?_) ?_
    | with_reducible refine kk1i (fun s h => ?_)
    | with_reducible refine kk2i (fun s v h => ?_)
    | with_reducible refine kk3i (fun s v w h => ?_)
    | with_reducible refine kk4i (fun s v w x h => ?_)
    | with_reducible exact Kp.mul (by assumption)
    | with_reducible exact Kp.new (by assumption)
    | with_reducible exact kf_fX10_init (by first | assumption | exact Kp.mul (by assumption) | exact Kp.new (by assumption))
    | with_reducible exact kk1 (by assumption) (by assumption)
    | with_reducible exact kk2 (by assumption) (by assumption)
    | with_reducible exact kk3 (by assumption) (by assumption)
    | with_reducible exact kk4 (by assumption) (by assumption))
theorem kf_fX0_init {b : ZS} {s0 : ZS} {a0 : Int} {a1 : Int} (h : Kp b s0) : KK b (fX0_init s0 a0 a1) := by
  unfold fX0_init
  repeat' (first
    | with_reducible assumption
    | with_reducible exact kk_none
    | with_reducible exact kk_ret (by assumption)
    | with_reducible refine kk_if ?_ ?_
    | with_reducible refine kk_p ?_ (fun s h => ?_)
    | with_reducible refine kk_as ?_ (fun s h => ?_)
    | with_reducible refine kk_na ?_ (fun s h => ?_)
    | with_reducible refine kk_pw ?_ (fun s h => ?_)
    | with_reducible refine kk_ar ?_ (fun s h => ?_)
    | with_reducible refine kk_cp ?_ (fun s h => ?_)
    | with_reducible refine kk_b ?_ (fun v s h => ?_)
    | with_reducible refine kk_g (fun v => ?_)
    | with_reducible refine kk_v ?_
    | with_reducible refine kk_w ?_ ?_ ?_ ?_ ?_ ?_
    | with_reducible refine kk_jn1 (fun k hk => ?_) ?_
    | with_reducible refine kk_jn2 (fun k hk => ?_) ?_
    | with_reducible refine kk_jn3 (fun k hk => ?_) ?_
    | with_reducible refine kk1i (fun s h => ?_)
    | with_reducible refine kk2i (fun s v h => ?_)
    | with_reducible refine kk3i (fun s v w h => ?_)
    | with_reducible refine kk4i (fun s v w x h => ?_)
    | with_reducible exact Kp.mul (by assumption)
    | with_reducible exact Kp.new (by assumption)
    | with_reducible exact kf_fX3_init (by first | assumption | exact Kp.mul (by assumption) | exact Kp.new (by assumption))
    | with_reducible exact kk1 (by assumption) (by assumption)
    | with_reducible exact kk2 (by assumption) (by assumption)
    | with_reducible exact kk3 (by assumption) (by assumption)
    | with_reducible exact kk4 (by assumption) (by assumption))
theorem kf_fX1_init {b : ZS} {s0 : ZS} {a0 : Int} {a1 : Int} (h : Kp b s0) : KK b (fX1_init s0 a0 a1) := by
  unfold fX1_init
  repeat' (first
    | with_reducible assumption
    | with_reducible exact kk_none
    | with_reducible exact kk_ret (by assumption)
    | with_reducible refine kk_if ?_ ?_
    | with_reducible refine kk_p ?_ (fun s h => ?_)
    | with_reducible refine kk_as ?_ (fun s h => ?_)
    | with_reducible refine kk_na ?_ (fun s h => ?_)
    | with_reducible refine kk_pw ?_ (fun s h => ?_)
    | with_reducible refine kk_ar ?_ (fun s h => ?_)
    | with_reducible refine kk_cp ?_ (fun s h => ?_)
    | with_reducible refine kk_b ?_ (fun v s h => ?_)
    | with_reducible refine kk_g (fun v => ?_)
    | with_reducible refine kk_v ?_
    | with_reducible refine kk_w ?_ ?_ ?_ ?_ ?_ ?_
    | with_reducible refine kk_jn1 (fun k hk => ?_) ?_
    | with_reducible refine kk_jn2 (fun k hk => ?_) ?_
    | with_reducible refine kk_jn3 (fun k hk => ?_) ?_
    | with_reducible refine kk1i (fun s h => ?_)
    | with_reducible refine kk2i (fun s v h => ?_)
    | with_reducible refine kk3i (fun s v w h => ?_)
    | with_reducible refine kk4i (fun s v w x h => ?_)
    | with_reducible exact Kp.mul (by assumption)
    | with_reducible exact Kp.new (by assumption)
    | with_reducible exact kf_fX10_init (by first | assumption | exact Kp.mul (by assumption) | exact Kp.new (by assumption))
    | with_reducible exact kk1 (by assumption) (by assumption)
    | with_reducible exact kk2 (by assumption) (by assumption)
    | with_reducible exact kk3 (by assumption) (by assumption)
    | with_reducible exact kk4 (by assumption) (by assumption))
theorem kf_fX7_init {b : ZS} {s0 : ZS} {a0 : Int} {a1 : Int} (h : Kp b s0) : KK b (fX7_init s0 a0 a1) := by
  unfold fX7_init
  repeat' (first
    | with_reducible assumption
    | with_reducible exact kk_none
    | with_reducible exact kk_ret (by assumption)
    | with_reducible refine kk_if ?_ ?_
    | with_reducible refine kk_p ?_ (fun s h => ?_)
    | with_reducible refine kk_as ?_ (fun s h => ?_)
    | with_reducible refine kk_na ?_ (fun s h => ?_)
    | with_reducible refine kk_pw ?_ (fun s h => ?_)
    | with_reducible refine kk_ar ?_ (fun s h => ?_)
    | with_reducible refine kk_cp ?_ (fun s h => ?_)
    | with_reducible refine kk_b ?_ (fun v s h => ?_)
    | with_reducible refine kk_g (fun v => ?_)
    | with_reducible refine kk_v ?_
    | with_reducible refine kk_w ?_ ?_ ?_ ?_ ?_ ?_
    | with_reducible refine kk_jn1 (fun k hk => ?_) ?_
    | with_reducible refine kk_jn2 (fun k hk => ?_) ?_
    | with_reducible refine kk_jn3 (fun k hk => ?_) ?_
    | with_reducible refine kk1i (fun s h => ?_)
    | with_reducible refine kk2i (fun s v h => ?_)
    | with_reducible refine kk3i (fun s v w h => ?_)
    | with_reducible refine kk4i (fun s v w x h => ?_)
    | with_reducible exact Kp.mul (by assumption)
    | with_reducible exact Kp.new (by assumption)
    | with_reducible exact kf_fX9_init (by first | assumption | exact Kp.mul (by assumption) | exact Kp.new (by assumption))
    | with_reducible exact kk1 (by assumption) (by assumption)
    | with_reducible exact kk2 (by assumption) (by assumption)
    | with_reducible exact kk3 (by assumption) (by assumption)
    | with_reducible exact kk4 (by assumption) (by assumption))
theorem kf_fX11_newWay {b : ZS} {s0 : ZS} {a0 : Int} {a1 : Int} (h : Kp b s0) : KK b (fX11_newWay s0 a0 a1) := by
  unfold fX11_newWay
  repeat' (first
    | with_reducible assumption
    | with_reducible exact kk_none
    | with_reducible exact kk_ret (by assumption)
    | with_reducible refine kk_if ?_ ?_
    | with_reducible refine kk_p ?_ (fun s h => ?_)
    | with_reducible refine kk_as ?_ (fun s h => ?_)
    | with_reducible refine kk_na ?_ (fun s h => ?_)
    | with_reducible refine kk_pw ?_ (fun s h => ?_)
    | with_reducible refine kk_ar ?_ (fun s h => ?_)
    | with_reducible refine kk_cp ?_ (fun s h => ?_)
    | with_reducible refine kk_b ?_ (fun v s h => ?_)
    | with_reducible refine kk_g (fun v => ?_)
    | with_reducible refine kk_v ?_
    | with_reducible refine kk_w ?_ ?_ ?_ ?_ ?_ ?_
    | with_reducible refine kk_jn1 (fun k hk => ?_) ?_
    | with_reducible refine kk_jn2 (fun k hk => ?_) ?_
    | with_reducible refine kk_jn3 (fun k hk => ?_) ?_
    | with_reducible refine kk1i (fun s h => ?_)
    | with_reducible refine kk2i (fun s v h => ?_)
    | with_reducible refine kk3i (fun s v w h => ?_)
    | with_reducible refine kk4i (fun s v w x h => ?_)
    | with_reducible exact Kp.mul (by assumption)
    | with_reducible exact Kp.new (by assumption)
    | with_reducible exact kf_fX10_init (by first | assumption | exact Kp.mul (by assumption) | exact Kp.new (by assumption))
    | with_reducible exact kf_fX9_init (by first | assumption | exact Kp.mul (by assumption) | exact Kp.new (by assumption))
    | with_reducible exact kf_fX3_init (by first | assumption | exact Kp.mul (by assumption) | exact Kp.new (by assumption))
    | with_reducible exact kf_fX0_init (by first | assumption | exact Kp.mul (by assumption) | exact Kp.new (by assumption))
    | with_reducible exact kf_fX1_init (by first | assumption | exact Kp.mul (by assumption) | exact Kp.new (by assumption))
    | with_reducible exact kf_fX7_init (by first | assumption | exact Kp.mul (by assumption) | exact Kp.new (by assumption))
    | with_reducible exact kk1 (by assumption) (by assumption)
    | with_reducible exact kk2 (by assumption) (by assumption)
    | with_reducible exact kk3 (by assumption) (by assumption)
    | with_reducible exact kk4 (by assumption) (by assumption))
theorem kf_fX11_way {b : ZS} {s0 : ZS} {a0 : Int} {a1 : Int} {a2 : Int} (h : Kp b s0) : KK b (fX11_way s0 a0 a1 a2) := by
  unfold fX11_way
  repeat' (first
    | with_reducible assumption
    | with_reducible exact kk_none
    | with_reducible exact kk_ret (by assumption)
    | with_reducible refine kk_if ?_ ?_
    | with_reducible refine kk_p ?_ (fun s h => ?_)
    | with_reducible refine kk_as ?_ (fun s h => ?_)
    | with_reducible refine kk_na ?_ (fun s h => ?_)
    | with_reducible refine kk_pw ?_ (fun s h => ?_)
    | with_reducible refine kk_ar ?_ (fun s h => ?_)
    | with_reducible refine kk_cp ?_ (fun s h => ?_)
    | with_reducible refine kk_b ?_ (fun v s h => ?_)
    | with_reducible refine kk_g (fun v => ?_)
    | with_reducible refine kk_v ?_
    | with_reducible refine kk_w ?_ ?_ ?_ ?_ ?_ ?_
    | with_reducible refine kk_jn1 (fun k hk => ?_) ?_
    | with_reducible refine kk_jn2 (fun k hk => ?_) ?_
    | with_reducible refine kk_jn3 (fun k hk => ?_) ?_
    | with_reducible refine kk1i (fun s h => ?_)
    | with_reducible refine kk2i (fun s v h => ?_)
    | with_reducible refine kk3i (fun s v w h => ?_)
    | with_reducible refine kk4i (fun s v w x h => ?_)
    | with_reducible exact Kp.mul (by assumption)
    | with_reducible exact Kp.new (by assumption)
    | with_reducible exact kf_fX11_within (by first | assumption | exact Kp.mul (by assumption) | exact Kp.new (by assumption))
    | with_reducible exact kf_fX11_isSheet (by first | assumption | exact Kp.mul (by assumption) | exact Kp.new (by assumption))
    | with_reducible exact kf_fX6_isMissing (by first | assumption | exact Kp.mul (by assumption) | exact Kp.new (by assumption))
    | with_reducible exact kf_fX11_holdsChoices (by first | assumption | exact Kp.mul (by assumption) | exact Kp.new (by assumption))
    | with_reducible exact kf_fX11_newWay (by first | assumption | exact Kp.mul (by assumption) | exact Kp.new (by assumption))
    | with_reducible exact kk1 (by assumption) (by assumption)
    | with_reducible exact kk2 (by assumption) (by assumption)
    | with_reducible exact kk3 (by assumption) (by assumption)
    | with_reducible exact kk4 (by assumption) (by assumption))
theorem kf_fX11_wayAt {b : ZS} {s0 : ZS} {a0 : Int} {a1 : Int} (h : Kp b s0) : KK b (fX11_wayAt s0 a0 a1) := by
  unfold fX11_wayAt
  repeat' (first
    | with_reducible assumption
    | with_reducible exact kk_none
    | with_reducible exact kk_ret (by assumption)
    | with_reducible refine kk_if ?_ ?_
    | with_reducible refine kk_p ?_ (fun s h => ?_)
    | with_reducible refine kk_as ?_ (fun s h => ?_)
    | with_reducible refine kk_na ?_ (fun s h => ?_)
    | with_reducible refine kk_pw ?_ (fun s h => ?_)
    | with_reducible refine kk_ar ?_ (fun s h => ?_)
    | with_reducible refine kk_cp ?_ (fun s h => ?_)
    | with_reducible refine kk_b ?_ (fun v s h => ?_)
    | with_reducible refine kk_g (fun v => ?_)
    | with_reducible refine kk_v ?_
    | with_reducible refine kk_w ?_ ?_ ?_ ?_ ?_ ?_
    | with_reducible refine kk_jn1 (fun k hk => ?_) ?_
    | with_reducible refine kk_jn2 (fun k hk => ?_) ?_
    | with_reducible refine kk_jn3 (fun k hk => ?_) ?_
    | with_reducible refine kk1i (fun s h => ?_)
    | with_reducible refine kk2i (fun s v h => ?_)
    | with_reducible refine kk3i (fun s v w h => ?_)
    | with_reducible refine kk4i (fun s v w x h => ?_)
    | with_reducible exact Kp.mul (by assumption)
    | with_reducible exact Kp.new (by assumption)
    | with_reducible exact kk1 (by assumption) (by assumption)
    | with_reducible exact kk2 (by assumption) (by assumption)
    | with_reducible exact kk3 (by assumption) (by assumption)
    | with_reducible exact kk4 (by assumption) (by assumption))
theorem kf_fX0_kind {b : ZS} {s0 : ZS} {a0 : Int} (h : Kp b s0) : KK b (fX0_kind s0 a0) := by
  unfold fX0_kind
  repeat' (first
    | with_reducible assumption
    | with_reducible exact kk_none
    | with_reducible exact kk_ret (by assumption)
    | with_reducible refine kk_if ?_ ?_
    | with_reducible refine kk_p ?_ (fun s h => ?_)
    | with_reducible refine kk_as ?_ (fun s h => ?_)
    | with_reducible refine kk_na ?_ (fun s h => ?_)
    | with_reducible refine kk_pw ?_ (fun s h => ?_)
    | with_reducible refine kk_ar ?_ (fun s h => ?_)
    | with_reducible refine kk_cp ?_ (fun s h => ?_)
    | with_reducible refine kk_b ?_ (fun v s h => ?_)
    | with_reducible refine kk_g (fun v => ?_)
    | with_reducible refine kk_v ?_
    | with_reducible refine kk_w ?_ ?_ ?_ ?_ ?_ ?_
    | with_reducible refine kk_jn1 (fun k hk => ?_) ?_
    | with_reducible refine kk_jn2 (fun k hk => ?_) ?_
    | with_reducible refine kk_jn3 (fun k hk => ?_) ?_
    | with_reducible refine kk1i (fun s h => ?_)
    | with_reducible refine kk2i (fun s v h => ?_)
    | with_reducible refine kk3i (fun s v w h => ?_)
    | with_reducible refine kk4i (fun s v w x h => ?_)
    | with_reducible exact Kp.mul (by assumption)
    | with_reducible exact Kp.new (by assumption)
    | with_reducible exact kk1 (by assumption) (by assumption)
    | with_reducible exact kk2 (by assumption) (by assumption)
    | with_reducible exact kk3 (by assumption) (by assumption)
    | with_reducible exact kk4 (by assumption) (by assumption))
theorem kf_fX1_kind {b : ZS} {s0 : ZS} {a0 : Int} (h : Kp b s0) : KK b (fX1_kind s0 a0) := by
  unfold fX1_kind
  repeat' (first
    | with_reducible assumption
    | with_reducible exact kk_none
    | with_reducible exact kk_ret (by assumption)
    | with_reducible refine kk_if ?_ ?_
    | with_reducible refine kk_p ?_ (fun s h => ?_)
    | with_reducible refine kk_as ?_ (fun s h => ?_)
    | with_reducible refine kk_na ?_ (fun s h => ?_)
    | with_reducible refine kk_pw ?_ (fun s h => ?_)
    | with_reducible refine kk_ar ?_ (fun s h => ?_)
    | with_reducible refine kk_cp ?_ (fun s h => ?_)
    | with_reducible refine kk_b ?_ (fun v s h => ?_)
    | with_reducible refine kk_g (fun v => ?_)
    | with_reducible refine kk_v ?_
    | with_reducible refine kk_w ?_ ?_ ?_ ?_ ?_ ?_
    | with_reducible refine kk_jn1 (fun k hk => ?_) ?_
    | with_reducible refine kk_jn2 (fun k hk => ?_) ?_
    | with_reducible refine kk_jn3 (fun k hk => ?_) ?_
    | with_reducible refine kk1i (fun s h => ?_)
    | with_reducible refine kk2i (fun s v h => ?_)
    | with_reducible refine kk3i (fun s v w h => ?_)
    | with_reducible refine kk4i (fun s v w x h => ?_)
    | with_reducible exact Kp.mul (by assumption)
    | with_reducible exact Kp.new (by assumption)
    | with_reducible exact kk1 (by assumption) (by assumption)
    | with_reducible exact kk2 (by assumption) (by assumption)
    | with_reducible exact kk3 (by assumption) (by assumption)
    | with_reducible exact kk4 (by assumption) (by assumption))
theorem kf_fX3_kind {b : ZS} {s0 : ZS} {a0 : Int} (h : Kp b s0) : KK b (fX3_kind s0 a0) := by
  unfold fX3_kind
  repeat' (first
    | with_reducible assumption
    | with_reducible exact kk_none
    | with_reducible exact kk_ret (by assumption)
    | with_reducible refine kk_if ?_ ?_
    | with_reducible refine kk_p ?_ (fun s h => ?_)
    | with_reducible refine kk_as ?_ (fun s h => ?_)
    | with_reducible refine kk_na ?_ (fun s h => ?_)
    | with_reducible refine kk_pw ?_ (fun s h => ?_)
    | with_reducible refine kk_ar ?_ (fun s h => ?_)
    | with_reducible refine kk_cp ?_ (fun s h => ?_)
    | with_reducible refine kk_b ?_ (fun v s h => ?_)
    | with_reducible refine kk_g (fun v => ?_)
    | with_reducible refine kk_v ?_
    | with_reducible refine kk_w ?_ ?_ ?_ ?_ ?_ ?_
    | with_reducible refine kk_jn1 (fun k hk => ?_) ?_
    | with_reducible refine kk_jn2 (fun k hk => ?_) ?_
    | with_reducible refine kk_jn3 (fun k hk => ?_) ?_
    | with_reducible refine kk1i (fun s h => ?_)
    | with_reducible refine kk2i (fun s v h => ?_)
    | with_reducible refine kk3i (fun s v w h => ?_)
    | with_reducible refine kk4i (fun s v w x h => ?_)
    | with_reducible exact Kp.mul (by assumption)
    | with_reducible exact Kp.new (by assumption)
    | with_reducible exact kk1 (by assumption) (by assumption)
    | with_reducible exact kk2 (by assumption) (by assumption)
    | with_reducible exact kk3 (by assumption) (by assumption)
    | with_reducible exact kk4 (by assumption) (by assumption))
theorem kf_fX7_kind {b : ZS} {s0 : ZS} {a0 : Int} (h : Kp b s0) : KK b (fX7_kind s0 a0) := by
  unfold fX7_kind
  repeat' (first
    | with_reducible assumption
    | with_reducible exact kk_none
    | with_reducible exact kk_ret (by assumption)
    | with_reducible refine kk_if ?_ ?_
    | with_reducible refine kk_p ?_ (fun s h => ?_)
    | with_reducible refine kk_as ?_ (fun s h => ?_)
    | with_reducible refine kk_na ?_ (fun s h => ?_)
    | with_reducible refine kk_pw ?_ (fun s h => ?_)
    | with_reducible refine kk_ar ?_ (fun s h => ?_)
    | with_reducible refine kk_cp ?_ (fun s h => ?_)
    | with_reducible refine kk_b ?_ (fun v s h => ?_)
    | with_reducible refine kk_g (fun v => ?_)
    | with_reducible refine kk_v ?_
    | with_reducible refine kk_w ?_ ?_ ?_ ?_ ?_ ?_
    | with_reducible refine kk_jn1 (fun k hk => ?_) ?_
    | with_reducible refine kk_jn2 (fun k hk => ?_) ?_
    | with_reducible refine kk_jn3 (fun k hk => ?_) ?_
    | with_reducible refine kk1i (fun s h => ?_)
    | with_reducible refine kk2i (fun s v h => ?_)
    | with_reducible refine kk3i (fun s v w h => ?_)
    | with_reducible refine kk4i (fun s v w x h => ?_)
    | with_reducible exact Kp.mul (by assumption)
    | with_reducible exact Kp.new (by assumption)
    | with_reducible exact kk1 (by assumption) (by assumption)
    | with_reducible exact kk2 (by assumption) (by assumption)
    | with_reducible exact kk3 (by assumption) (by assumption)
    | with_reducible exact kk4 (by assumption) (by assumption))
theorem kf_fX9_kind {b : ZS} {s0 : ZS} {a0 : Int} (h : Kp b s0) : KK b (fX9_kind s0 a0) := by
  unfold fX9_kind
  repeat' (first
    | with_reducible assumption
    | with_reducible exact kk_none
    | with_reducible exact kk_ret (by assumption)
    | with_reducible refine kk_if ?_ ?_
    | with_reducible refine kk_p ?_ (fun s h => ?_)
    | with_reducible refine kk_as ?_ (fun s h => ?_)
    | with_reducible refine kk_na ?_ (fun s h => ?_)
    | with_reducible refine kk_pw ?_ (fun s h => ?_)
    | with_reducible refine kk_ar ?_ (fun s h => ?_)
    | with_reducible refine kk_cp ?_ (fun s h => ?_)
    | with_reducible refine kk_b ?_ (fun v s h => ?_)
    | with_reducible refine kk_g (fun v => ?_)
    | with_reducible refine kk_v ?_
    | with_reducible refine kk_w ?_ ?_ ?_ ?_ ?_ ?_
    | with_reducible refine kk_jn1 (fun k hk => ?_) ?_
    | with_reducible refine kk_jn2 (fun k hk => ?_) ?_
    | with_reducible refine kk_jn3 (fun k hk => ?_) ?_
    | with_reducible refine kk1i (fun s h => ?_)
    | with_reducible refine kk2i (fun s v h => ?_)
    | with_reducible refine kk3i (fun s v w h => ?_)
    | with_reducible refine kk4i (fun s v w x h => ?_)
    | with_reducible exact Kp.mul (by assumption)
    | with_reducible exact Kp.new (by assumption)
    | with_reducible exact kk1 (by assumption) (by assumption)
    | with_reducible exact kk2 (by assumption) (by assumption)
    | with_reducible exact kk3 (by assumption) (by assumption)
    | with_reducible exact kk4 (by assumption) (by assumption))
theorem kf_fX10_kind {b : ZS} {s0 : ZS} {a0 : Int} (h : Kp b s0) : KK b (fX10_kind s0 a0) := by
  unfold fX10_kind
  repeat' (first
    | with_reducible assumption
    | with_reducible exact kk_none
    | with_reducible exact kk_ret (by assumption)
    | with_reducible refine kk_if ?_ ?_
    | with_reducible refine kk_p ?_ (fun s h => ?_)
    | with_reducible refine kk_as ?_ (fun s h => ?_)
    | with_reducible refine kk_na ?_ (fun s h => ?_)
    | with_reducible refine kk_pw ?_ (fun s h => ?_)
    | with_reducible refine kk_ar ?_ (fun s h => ?_)
    | with_reducible refine kk_cp ?_ (fun s h => ?_)
    | with_reducible refine kk_b ?_ (fun v s h => ?_)
    | with_reducible refine kk_g (fun v => ?_)
    | with_reducible refine kk_v ?_
    | with_reducible refine kk_w ?_ ?_ ?_ ?_ ?_ ?_
    | with_reducible refine kk_jn1 (fun k hk => ?_) ?_
    | with_reducible refine kk_jn2 (fun k hk => ?_) ?_
    | with_reducible refine kk_jn3 (fun k hk => ?_) ?_
    | with_reducible refine kk1i (fun s h => ?_)
    | with_reducible refine kk2i (fun s v h => ?_)
    | with_reducible refine kk3i (fun s v w h => ?_)
    | with_reducible refine kk4i (fun s v w x h => ?_)
    | with_reducible exact Kp.mul (by assumption)
    | with_reducible exact Kp.new (by assumption)
    | with_reducible exact kk1 (by assumption) (by assumption)
    | with_reducible exact kk2 (by assumption) (by assumption)
    | with_reducible exact kk3 (by assumption) (by assumption)
    | with_reducible exact kk4 (by assumption) (by assumption))
theorem kf_fX10_isFor {b : ZS} {s0 : ZS} {a0 : Int} {a1 : Int} (h : Kp b s0) : KK b (fX10_isFor s0 a0 a1) := by
  unfold fX10_isFor
  repeat' (first
    | with_reducible assumption
    | with_reducible exact kk_none
    | with_reducible exact kk_ret (by assumption)
    | with_reducible refine kk_if ?_ ?_
    | with_reducible refine kk_p ?_ (fun s h => ?_)
    | with_reducible refine kk_as ?_ (fun s h => ?_)
    | with_reducible refine kk_na ?_ (fun s h => ?_)
    | with_reducible refine kk_pw ?_ (fun s h => ?_)
    | with_reducible refine kk_ar ?_ (fun s h => ?_)
    | with_reducible refine kk_cp ?_ (fun s h => ?_)
    | with_reducible refine kk_b ?_ (fun v s h => ?_)
    | with_reducible refine kk_g (fun v => ?_)
    | with_reducible refine kk_v ?_
    | with_reducible refine kk_w ?_ ?_ ?_ ?_ ?_ ?_
    | with_reducible refine kk_jn1 (fun k hk => ?_) ?_
    | with_reducible refine kk_jn2 (fun k hk => ?_) ?_
    | with_reducible refine kk_jn3 (fun k hk => ?_) ?_
    | with_reducible refine kk1i (fun s h => ?_)
    | with_reducible refine kk2i (fun s v h => ?_)
    | with_reducible refine kk3i (fun s v w h => ?_)
    | with_reducible refine kk4i (fun s v w x h => ?_)
    | with_reducible exact Kp.mul (by assumption)
    | with_reducible exact Kp.new (by assumption)
    | with_reducible exact kk1 (by assumption) (by assumption)
    | with_reducible exact kk2 (by assumption) (by assumption)
    | with_reducible exact kk3 (by assumption) (by assumption)
    | with_reducible exact kk4 (by assumption) (by assumption))
theorem kf_fX11_wayTold {b : ZS} {s0 : ZS} {a0 : Int} {a1 : Int} {a2 : Int} (h : Kp b s0) : KK b (fX11_wayTold s0 a0 a1 a2) := by
  unfold fX11_wayTold
  repeat' (first
    | with_reducible assumption
    | with_reducible exact kk_none
    | with_reducible exact kk_ret (by assumption)
    | with_reducible refine kk_if ?_ ?_
    | with_reducible refine kk_p ?_ (fun s h => ?_)
    | with_reducible refine kk_as ?_ (fun s h => ?_)
    | with_reducible refine kk_na ?_ (fun s h => ?_)
    | with_reducible refine kk_pw ?_ (fun s h => ?_)
    | with_reducible refine kk_ar ?_ (fun s h => ?_)
    | with_reducible refine kk_cp ?_ (fun s h => ?_)
    | with_reducible refine kk_b ?_ (fun v s h => ?_)
    | with_reducible refine kk_g (fun v => ?_)
    | with_reducible refine kk_v ?_
    | with_reducible refine kk_w ?_ ?_ ?_ ?_ ?_ ?_
    | with_reducible refine kk_jn1 (fun k hk => ?_) ?_
    | with_reducible refine kk_jn2 (fun k hk => ?_) ?_
    | with_reducible refine kk_jn3 (fun k hk => ?_) ?_
    | with_reducible refine kk1i (fun s h => ?_)
    | with_reducible refine kk2i (fun s v h => ?_)
    | with_reducible refine kk3i (fun s v w h => ?_)
    | with_reducible refine kk4i (fun s v w x h => ?_)
    | with_reducible exact Kp.mul (by assumption)
    | with_reducible exact Kp.new (by assumption)
    | with_reducible exact kf_fX11_wayAt (by first | assumption | exact Kp.mul (by assumption) | exact Kp.new (by assumption))
    | with_reducible exact kf_fX0_kind (by first | assumption | exact Kp.mul (by assumption) | exact Kp.new (by assumption))
    | with_reducible exact kf_fX1_kind (by first | assumption | exact Kp.mul (by assumption) | exact Kp.new (by assumption))
    | with_reducible exact kf_fX3_kind (by first | assumption | exact Kp.mul (by assumption) | exact Kp.new (by assumption))
    | with_reducible exact kf_fX7_kind (by first | assumption | exact Kp.mul (by assumption) | exact Kp.new (by assumption))
    | with_reducible exact kf_fX9_kind (by first | assumption | exact Kp.mul (by assumption) | exact Kp.new (by assumption))
    | with_reducible exact kf_fX10_kind (by first | assumption | exact Kp.mul (by assumption) | exact Kp.new (by assumption))
    | with_reducible exact kf_fX10_isFor (by first | assumption | exact Kp.mul (by assumption) | exact Kp.new (by assumption))
    | with_reducible exact kk1 (by assumption) (by assumption)
    | with_reducible exact kk2 (by assumption) (by assumption)
    | with_reducible exact kk3 (by assumption) (by assumption)
    | with_reducible exact kk4 (by assumption) (by assumption))
theorem kf_fX11_set {b : ZS} {s0 : ZS} {a0 : Int} {a1 : Int} {a2 : Int} {a3 : Int} (h : Kp b s0) : KK b (fX11_set s0 a0 a1 a2 a3) := by
  unfold fX11_set
  repeat' (first
    | with_reducible assumption
    | with_reducible exact kk_none
    | with_reducible exact kk_ret (by assumption)
    | with_reducible refine kk_if ?_ ?_
    | with_reducible refine kk_p ?_ (fun s h => ?_)
    | with_reducible refine kk_as ?_ (fun s h => ?_)
    | with_reducible refine kk_na ?_ (fun s h => ?_)
    | with_reducible refine kk_pw ?_ (fun s h => ?_)
    | with_reducible refine kk_ar ?_ (fun s h => ?_)
    | with_reducible refine kk_cp ?_ (fun s h => ?_)
    | with_reducible refine kk_b ?_ (fun v s h => ?_)
    | with_reducible refine kk_g (fun v => ?_)
    | with_reducible refine kk_v ?_
    | with_reducible refine kk_w ?_ ?_ ?_ ?_ ?_ ?_
    | with_reducible refine kk_jn1 (fun k hk => ?_) ?_
    | with_reducible refine kk_jn2 (fun k hk => ?_) ?_
    | with_reducible refine kk_jn3 (fun k hk => ?_) ?_
    | with_reducible refine kk1i (fun s h => ?_)
    | with_reducible refine kk2i (fun s v h => ?_)
    | with_reducible refine kk3i (fun s v w h => ?_)
    | with_reducible refine kk4i (fun s v w x h => ?_)
    | with_reducible exact Kp.mul (by assumption)
    | with_reducible exact Kp.new (by assumption)
    | with_reducible exact kf_fX11_within (by first | assumption | exact Kp.mul (by assumption) | exact Kp.new (by assumption))
    | with_reducible exact kf_fX11_wayAt (by first | assumption | exact Kp.mul (by assumption) | exact Kp.new (by assumption))
    | with_reducible exact kf_fX10_isFor (by first | assumption | exact Kp.mul (by assumption) | exact Kp.new (by assumption))
    | with_reducible exact kk1 (by assumption) (by assumption)
    | with_reducible exact kk2 (by assumption) (by assumption)
    | with_reducible exact kk3 (by assumption) (by assumption)
    | with_reducible exact kk4 (by assumption) (by assumption))
theorem kf_fX2_cameBy {b : ZS} {s0 : ZS} {a0 : Int} {a1 : Int} {a2 : Int} (h : Kp b s0) : KK b (fX2_cameBy s0 a0 a1 a2) := by
  unfold fX2_cameBy
  repeat' (first
    | with_reducible assumption
    | with_reducible exact kk_none
    | with_reducible exact kk_ret (by assumption)
    | with_reducible refine kk_if ?_ ?_
    | with_reducible refine kk_p ?_ (fun s h => ?_)
    | with_reducible refine kk_as ?_ (fun s h => ?_)
    | with_reducible refine kk_na ?_ (fun s h => ?_)
    | with_reducible refine kk_pw ?_ (fun s h => ?_)
    | with_reducible refine kk_ar ?_ (fun s h => ?_)
    | with_reducible refine kk_cp ?_ (fun s h => ?_)
    | with_reducible refine kk_b ?_ (fun v s h => ?_)
    | with_reducible refine kk_g (fun v => ?_)
    | with_reducible refine kk_v ?_
    | with_reducible refine kk_w ?_ ?_ ?_ ?_ ?_ ?_
    | with_reducible refine kk_jn1 (fun k hk => ?_) ?_
    | with_reducible refine kk_jn2 (fun k hk => ?_) ?_
    | with_reducible refine kk_jn3 (fun k hk => ?_) ?_
    | with_reducible refine kk1i (fun s h => ?_)
    | with_reducible refine kk2i (fun s v h => ?_)
    | with_reducible refine kk3i (fun s v w h => ?_)
    | with_reducible refine kk4i (fun s v w x h => ?_)
    | with_reducible exact Kp.mul (by assumption)
    | with_reducible exact Kp.new (by assumption)
    | with_reducible exact kk1 (by assumption) (by assumption)
    | with_reducible exact kk2 (by assumption) (by assumption)
    | with_reducible exact kk3 (by assumption) (by assumption)
    | with_reducible exact kk4 (by assumption) (by assumption))
theorem kf_fX3_order {b : ZS} {s0 : ZS} {a0 : Int} {a1 : Int} {a2 : Int} {a3 : Int} (h : Kp b s0) : KK b (fX3_order s0 a0 a1 a2 a3) := by
  unfold fX3_order
  repeat' (first
    | with_reducible assumption
    | with_reducible exact kk_none
    | with_reducible exact kk_ret (by assumption)
    | with_reducible refine kk_if ?_ ?_
    | with_reducible refine kk_p ?_ (fun s h => ?_)
    | with_reducible refine kk_as ?_ (fun s h => ?_)
    | with_reducible refine kk_na ?_ (fun s h => ?_)
    | with_reducible refine kk_pw ?_ (fun s h => ?_)
    | with_reducible refine kk_ar ?_ (fun s h => ?_)
    | with_reducible refine kk_cp ?_ (fun s h => ?_)
    | with_reducible refine kk_b ?_ (fun v s h => ?_)
    | with_reducible refine kk_g (fun v => ?_)
    | with_reducible refine kk_v ?_
    | with_reducible refine kk_w ?_ ?_ ?_ ?_ ?_ ?_
    | with_reducible refine kk_jn1 (fun k hk => ?_) ?_
    | with_reducible refine kk_jn2 (fun k hk => ?_) ?_
    | with_reducible refine kk_jn3 (fun k hk => ?_) ?_
    | with_reducible refine kk1i (fun s h => ?_)
    | with_reducible refine kk2i (fun s v h => ?_)
    | with_reducible refine kk3i (fun s v w h => ?_)
    | with_reducible refine kk4i (fun s v w x h => ?_)
    | with_reducible exact Kp.mul (by assumption)
    | with_reducible exact Kp.new (by assumption)
    | with_reducible exact kk1 (by assumption) (by assumption)
    | with_reducible exact kk2 (by assumption) (by assumption)
    | with_reducible exact kk3 (by assumption) (by assumption)
    | with_reducible exact kk4 (by assumption) (by assumption))
theorem kf_fX0_order {b : ZS} {s0 : ZS} {a0 : Int} {a1 : Int} {a2 : Int} {a3 : Int} (h : Kp b s0) : KK b (fX0_order s0 a0 a1 a2 a3) := by
  unfold fX0_order
  repeat' (first
    | with_reducible assumption
    | with_reducible exact kk_none
    | with_reducible exact kk_ret (by assumption)
    | with_reducible refine kk_if ?_ ?_
    | with_reducible refine kk_p ?_ (fun s h => ?_)
    | with_reducible refine kk_as ?_ (fun s h => ?_)
    | with_reducible refine kk_na ?_ (fun s h => ?_)
    | with_reducible refine kk_pw ?_ (fun s h => ?_)
    | with_reducible refine kk_ar ?_ (fun s h => ?_)
    | with_reducible refine kk_cp ?_ (fun s h => ?_)
    | with_reducible refine kk_b ?_ (fun v s h => ?_)
    | with_reducible refine kk_g (fun v => ?_)
    | with_reducible refine kk_v ?_
    | with_reducible refine kk_w ?_ ?_ ?_ ?_ ?_ ?_
    | with_reducible refine kk_jn1 (fun k hk => ?_) ?_
    | with_reducible refine kk_jn2 (fun k hk => ?_) ?_
    | with_reducible refine kk_jn3 (fun k hk => ?_) ?_
    | with_reducible refine kk1i (fun s h => ?_)
    | with_reducible refine kk2i (fun s v h => ?_)
    | with_reducible refine kk3i (fun s v w h => ?_)
    | with_reducible refine kk4i (fun s v w x h => ?_)
    | with_reducible exact Kp.mul (by assumption)
    | with_reducible exact Kp.new (by assumption)
    | with_reducible exact kf_fX3_order (by first | assumption | exact Kp.mul (by assumption) | exact Kp.new (by assumption))
    | with_reducible exact kk1 (by assumption) (by assumption)
    | with_reducible exact kk2 (by assumption) (by assumption)
    | with_reducible exact kk3 (by assumption) (by assumption)
    | with_reducible exact kk4 (by assumption) (by assumption))
theorem kf_fX10_order {b : ZS} {s0 : ZS} {a0 : Int} {a1 : Int} {a2 : Int} {a3 : Int} (h : Kp b s0) : KK b (fX10_order s0 a0 a1 a2 a3) := by
  unfold fX10_order
  repeat' (first
    | with_reducible assumption
    | with_reducible exact kk_none
    | with_reducible exact kk_ret (by assumption)
    | with_reducible refine kk_if ?_ ?_
    | with_reducible refine kk_p ?_ (fun s h => ?_)
    | with_reducible refine kk_as ?_ (fun s h => ?_)
    | with_reducible refine kk_na ?_ (fun s h => ?_)
    | with_reducible refine kk_pw ?_ (fun s h => ?_)
    | with_reducible refine kk_ar ?_ (fun s h => ?_)
    | with_reducible refine kk_cp ?_ (fun s h => ?_)
    | with_reducible refine kk_b ?_ (fun v s h => ?_)
    | with_reducible refine kk_g (fun v => ?_)
    | with_reducible refine kk_v ?_
    | with_reducible refine kk_w ?_ ?_ ?_ ?_ ?_ ?_
    | with_reducible refine kk_jn1 (fun k hk => ?_) ?_
    | with_reducible refine kk_jn2 (fun k hk => ?_) ?_
    | with_reducible refine kk_jn3 (fun k hk => ?_) ?_
    | with_reducible refine kk1i (fun s h => ?_)
    | with_reducible refine kk2i (fun s v h => ?_)
    | with_reducible refine kk3i (fun s v w h => ?_)
    | with_reducible refine kk4i (fun s v w x h => ?_)
    | with_reducible exact Kp.mul (by assumption)
    | with_reducible exact Kp.new (by assumption)
    | with_reducible exact kk1 (by assumption) (by assumption)
    | with_reducible exact kk2 (by assumption) (by assumption)
    | with_reducible exact kk3 (by assumption) (by assumption)
    | with_reducible exact kk4 (by assumption) (by assumption))
theorem kf_fX1_order {b : ZS} {s0 : ZS} {a0 : Int} {a1 : Int} {a2 : Int} {a3 : Int} (h : Kp b s0) : KK b (fX1_order s0 a0 a1 a2 a3) := by
  unfold fX1_order
  repeat' (first
    | with_reducible assumption
    | with_reducible exact kk_none
    | with_reducible exact kk_ret (by assumption)
    | with_reducible refine kk_if ?_ ?_
    | with_reducible refine kk_p ?_ (fun s h => ?_)
    | with_reducible refine kk_as ?_ (fun s h => ?_)
    | with_reducible refine kk_na ?_ (fun s h => ?_)
    | with_reducible refine kk_pw ?_ (fun s h => ?_)
    | with_reducible refine kk_ar ?_ (fun s h => ?_)
    | with_reducible refine kk_cp ?_ (fun s h => ?_)
    | with_reducible refine kk_b ?_ (fun v s h => ?_)
    | with_reducible refine kk_g (fun v => ?_)
    | with_reducible refine kk_v ?_
    | with_reducible refine kk_w ?_ ?_ ?_ ?_ ?_ ?_
    | with_reducible refine kk_jn1 (fun k hk => ?_) ?_
    | with_reducible refine kk_jn2 (fun k hk => ?_) ?_
    | with_reducible refine kk_jn3 (fun k hk => ?_) ?_
    | with_reducible refine kk1i (fun s h => ?_)
    | with_reducible refine kk2i (fun s v h => ?_)
    | with_reducible refine kk3i (fun s v w h => ?_)
    | with_reducible refine kk4i (fun s v w x h => ?_)
    | with_reducible exact Kp.mul (by assumption)
    | with_reducible exact Kp.new (by assumption)
    | with_reducible exact kf_fX10_order (by first | assumption | exact Kp.mul (by assumption) | exact Kp.new (by assumption))
    | with_reducible exact kk1 (by assumption) (by assumption)
    | with_reducible exact kk2 (by assumption) (by assumption)
    | with_reducible exact kk3 (by assumption) (by assumption)
    | with_reducible exact kk4 (by assumption) (by assumption))
theorem kf_fX7_order {b : ZS} {s0 : ZS} {a0 : Int} {a1 : Int} {a2 : Int} {a3 : Int} (h : Kp b s0) : KK b (fX7_order s0 a0 a1 a2 a3) := by
  unfold fX7_order
  repeat' (first
    | with_reducible assumption
    | with_reducible exact kk_none
    | with_reducible exact kk_ret (by assumption)
    | with_reducible refine kk_if ?_ ?_
    | with_reducible refine kk_p ?_ (fun s h => ?_)
    | with_reducible refine kk_as ?_ (fun s h => ?_)
    | with_reducible refine kk_na ?_ (fun s h => ?_)
    | with_reducible refine kk_pw ?_ (fun s h => ?_)
    | with_reducible refine kk_ar ?_ (fun s h => ?_)
    | with_reducible refine kk_cp ?_ (fun s h => ?_)
    | with_reducible refine kk_b ?_ (fun v s h => ?_)
    | with_reducible refine kk_g (fun v => ?_)
    | with_reducible refine kk_v ?_
    | with_reducible refine kk_w ?_ ?_ ?_ ?_ ?_ ?_
    | with_reducible refine kk_jn1 (fun k hk => ?_) ?_
    | with_reducible refine kk_jn2 (fun k hk => ?_) ?_
    | with_reducible refine kk_jn3 (fun k hk => ?_) ?_
    | with_reducible refine kk1i (fun s h => ?_)
    | with_reducible refine kk2i (fun s v h => ?_)
    | with_reducible refine kk3i (fun s v w h => ?_)
    | with_reducible refine kk4i (fun s v w x h => ?_)
    | with_reducible exact Kp.mul (by assumption)
    | with_reducible exact Kp.new (by assumption)
    | with_reducible exact kf_fX10_order (by first | assumption | exact Kp.mul (by assumption) | exact Kp.new (by assumption))
    | with_reducible exact kk1 (by assumption) (by assumption)
    | with_reducible exact kk2 (by assumption) (by assumption)
    | with_reducible exact kk3 (by assumption) (by assumption)
    | with_reducible exact kk4 (by assumption) (by assumption))
theorem kl_lX2_rank_8 {b : ZS} {u4 u5 u6 u7 : Int} {K74 : ZS → Int → Option (Int × ZS)} (hkK74 : KK2 b K74) : ∀ (n : Nat) (s : ZS) (x0 : Int), Kp b s → KK b (lX2_rank_8 u4 u5 u6 u7 K74 n s x0) := by
  intro n
  induction n with
  | zero => intro s x0 h; exact kk_none
  | succ n ih =>
    intro s x0 h
    rw [lX2_rank_8]
    repeat' (first
    | with_reducible assumption
    | with_reducible exact kk_none
    | with_reducible exact kk_ret (by assumption)
    | with_reducible refine kk_if ?_ ?_
    | with_reducible refine kk_p ?_ (fun s h => ?_)
    | with_reducible refine kk_as ?_ (fun s h => ?_)
    | with_reducible refine kk_na ?_ (fun s h => ?_)
    | with_reducible refine kk_pw ?_ (fun s h => ?_)
    | with_reducible refine kk_ar ?_ (fun s h => ?_)
    | with_reducible refine kk_cp ?_ (fun s h => ?_)
    | with_reducible refine kk_b ?_ (fun v s h => ?_)
    | with_reducible refine kk_g (fun v => ?_)
    | with_reducible refine kk_v ?_
    | with_reducible refine kk_w ?_ ?_ ?_ ?_ ?_ ?_
    | with_reducible refine kk_jn1 (fun k hk => ?_) ?_
    | with_reducible refine kk_jn2 (fun k hk => ?_) ?_
    | with_reducible refine kk_jn3 (fun k hk => ?_) ?_
    | with_reducible refine kk1i (fun s h => ?_)
    | with_reducible refine kk2i (fun s v h => ?_)
    | with_reducible refine kk3i (fun s v w h => ?_)
    | with_reducible refine kk4i (fun s v w x h => ?_)
    | with_reducible exact Kp.mul (by assumption)
    | with_reducible exact Kp.new (by assumption)
    | with_reducible exact ih _ _ (by assumption)
    | with_reducible exact kk1 (by assumption) (by assumption)
    | with_reducible exact kk2 (by assumption) (by assumption)
    | with_reducible exact kk3 (by assumption) (by assumption)
    | with_reducible exact kk4 (by assumption) (by assumption))
theorem kf_fX2_rank {b : ZS} {s0 : ZS} {a0 : Int} {a1 : Int} {a2 : Int} {a3 : Int} (h : Kp b s0) : KK b (fX2_rank s0 a0 a1 a2 a3) := by
  unfold fX2_rank
  repeat' (first
    | with_reducible assumption
    | with_reducible exact kk_none
    | with_reducible exact kk_ret (by assumption)
    | with_reducible refine kk_if ?_ ?_
    | with_reducible refine kk_p ?_ (fun s h => ?_)
    | with_reducible refine kk_as ?_ (fun s h => ?_)
    | with_reducible refine kk_na ?_ (fun s h => ?_)
    | with_reducible refine kk_pw ?_ (fun s h => ?_)
    | with_reducible refine kk_ar ?_ (fun s h => ?_)
    | with_reducible refine kk_cp ?_ (fun s h => ?_)
    | with_reducible refine kk_b ?_ (fun v s h => ?_)
    | with_reducible refine kk_g (fun v => ?_)
    | with_reducible refine kk_v ?_
    | with_reducible refine kk_w ?_ ?_ ?_ ?_ ?_ ?_
    | with_reducible refine kk_jn1 (fun k hk => ?_) ?_
    | with_reducible refine kk_jn2 (fun k hk => ?_) ?_
    | with_reducible refine kk_jn3 (fun k hk => ?_) ?_
    | with_reducible refine kk1i (fun s h => ?_)
    | with_reducible refine kk2i (fun s v h => ?_)
    | with_reducible refine kk3i (fun s v w h => ?_)
    | with_reducible refine kk4i (fun s v w x h => ?_)
    | with_reducible exact Kp.mul (by assumption)
    | with_reducible exact Kp.new (by assumption)
    | with_reducible refine kl_lX2_rank_8 ?_ _ _ _ ?_
    | with_reducible exact kk1 (by assumption) (by assumption)
    | with_reducible exact kk2 (by assumption) (by assumption)
    | with_reducible exact kk3 (by assumption) (by assumption)
    | with_reducible exact kk4 (by assumption) (by assumption))
theorem kl_lX2_gather_16 {b : ZS} {u6 u7 u8 : Int} {K96 : ZS → Option (Int × ZS)} (hkK96 : KK1 b K96) : ∀ (n : Nat) (s : ZS) (x0 : Int), Kp b s → KK b (lX2_gather_16 u6 u7 u8 K96 n s x0) := by
  intro n
  induction n with
  | zero => intro s x0 h; exact kk_none
  | succ n ih =>
    intro s x0 h
    rw [lX2_gather_16]
    repeat' (first
    | with_reducible assumption
    | with_reducible exact kk_none
    | with_reducible exact kk_ret (by assumption)
    | with_reducible refine kk_if ?_ ?_
    | with_reducible refine kk_p ?_ (fun s h => ?_)
    | with_reducible refine kk_as ?_ (fun s h => ?_)
    | with_reducible refine kk_na ?_ (fun s h => ?_)
    | with_reducible refine kk_pw ?_ (fun s h => ?_)
    | with_reducible refine kk_ar ?_ (fun s h => ?_)
    | with_reducible refine kk_cp ?_ (fun s h => ?_)
    | with_reducible refine kk_b ?_ (fun v s h => ?_)
    | with_reducible refine kk_g (fun v => ?_)
    | with_reducible refine kk_v ?_
    | with_reducible refine kk_w ?_ ?_ ?_ ?_ ?_ ?_
    | with_reducible refine kk_jn1 (fun k hk => ?_) ?_
    | with_reducible refine kk_jn2 (fun k hk => ?_) ?_
    | with_reducible refine kk_jn3 (fun k hk => ?_) ?_
    | with_reducible refine kk1i (fun s h => ?_)
    | with_reducible refine kk2i (fun s v h => ?_)
    | with_reducible refine kk3i (fun s v w h => ?_)
    | with_reducible refine kk4i (fun s v w x h => ?_)
    | with_reducible exact Kp.mul (by assumption)
    | with_reducible exact Kp.new (by assumption)
    | with_reducible exact kf_fX2_cameBy (by first | assumption | exact Kp.mul (by assumption) | exact Kp.new (by assumption))
    | with_reducible exact kf_fX3_order (by first | assumption | exact Kp.mul (by assumption) | exact Kp.new (by assumption))
    | with_reducible exact kf_fX0_order (by first | assumption | exact Kp.mul (by assumption) | exact Kp.new (by assumption))
    | with_reducible exact kf_fX10_order (by first | assumption | exact Kp.mul (by assumption) | exact Kp.new (by assumption))
    | with_reducible exact kf_fX1_order (by first | assumption | exact Kp.mul (by assumption) | exact Kp.new (by assumption))
    | with_reducible exact kf_fX7_order (by first | assumption | exact Kp.mul (by assumption) | exact Kp.new (by assumption))
    | with_reducible exact kf_fX2_rank (by first | assumption | exact Kp.mul (by assumption) | exact Kp.new (by assumption))
    | with_reducible exact ih _ _ (by assumption)
    | with_reducible exact kk1 (by assumption) (by assumption)
    | with_reducible exact kk2 (by assumption) (by assumption)
    | with_reducible exact kk3 (by assumption) (by assumption)
    | with_reducible exact kk4 (by assumption) (by assumption))
theorem kl_lX2_gather_106 {b : ZS} {u45 u46 : Int} {K129 : ZS → Option (Int × ZS)} (hkK129 : KK1 b K129) : ∀ (n : Nat) (s : ZS) (x0 : Int), Kp b s → KK b (lX2_gather_106 u45 u46 K129 n s x0) := by
  intro n
  induction n with
  | zero => intro s x0 h; exact kk_none
  | succ n ih =>
    intro s x0 h
    rw [lX2_gather_106]
    repeat' (first
    | with_reducible assumption
    | with_reducible exact kk_none
    | with_reducible exact kk_ret (by assumption)
    | with_reducible refine kk_if ?_ ?_
    | with_reducible refine kk_p ?_ (fun s h => ?_)
    | with_reducible refine kk_as ?_ (fun s h => ?_)
    | with_reducible refine kk_na ?_ (fun s h => ?_)
    | with_reducible refine kk_pw ?_ (fun s h => ?_)
    | with_reducible refine kk_ar ?_ (fun s h => ?_)
    | with_reducible refine kk_cp ?_ (fun s h => ?_)
    | with_reducible refine kk_b ?_ (fun v s h => ?_)
    | with_reducible refine kk_g (fun v => ?_)
    | with_reducible refine kk_v ?_
    | with_reducible refine kk_w ?_ ?_ ?_ ?_ ?_ ?_
    | with_reducible refine kk_jn1 (fun k hk => ?_) ?_
    | with_reducible refine kk_jn2 (fun k hk => ?_) ?_
    | with_reducible refine kk_jn3 (fun k hk => ?_) ?_
    | with_reducible refine kk1i (fun s h => ?_)
    | with_reducible refine kk2i (fun s v h => ?_)
    | with_reducible refine kk3i (fun s v w h => ?_)
    | with_reducible refine kk4i (fun s v w x h => ?_)
    | with_reducible exact Kp.mul (by assumption)
    | with_reducible exact Kp.new (by assumption)
    | with_reducible exact ih _ _ (by assumption)
    | with_reducible exact kk1 (by assumption) (by assumption)
    | with_reducible exact kk2 (by assumption) (by assumption)
    | with_reducible exact kk3 (by assumption) (by assumption)
    | with_reducible exact kk4 (by assumption) (by assumption))
theorem kl_lX2_gather_132 {b : ZS} {u55 u56 : Int} {K177 : ZS → Option (Int × ZS)} (hkK177 : KK1 b K177) : ∀ (n : Nat) (s : ZS) (x0 : Int), Kp b s → KK b (lX2_gather_132 u55 u56 K177 n s x0) := by
  intro n
  induction n with
  | zero => intro s x0 h; exact kk_none
  | succ n ih =>
    intro s x0 h
    rw [lX2_gather_132]
    repeat' (first
    | with_reducible assumption
    | with_reducible exact kk_none
    | with_reducible exact kk_ret (by assumption)
    | with_reducible refine kk_if ?_ ?_
    | with_reducible refine kk_p ?_ (fun s h => ?_)
    | with_reducible refine kk_as ?_ (fun s h => ?_)
    | with_reducible refine kk_na ?_ (fun s h => ?_)
    | with_reducible refine kk_pw ?_ (fun s h => ?_)
    | with_reducible refine kk_ar ?_ (fun s h => ?_)
    | with_reducible refine kk_cp ?_ (fun s h => ?_)
    | with_reducible refine kk_b ?_ (fun v s h => ?_)
    | with_reducible refine kk_g (fun v => ?_)
    | with_reducible refine kk_v ?_
    | with_reducible refine kk_w ?_ ?_ ?_ ?_ ?_ ?_
    | with_reducible refine kk_jn1 (fun k hk => ?_) ?_
    | with_reducible refine kk_jn2 (fun k hk => ?_) ?_
    | with_reducible refine kk_jn3 (fun k hk => ?_) ?_
    | with_reducible refine kk1i (fun s h => ?_)
    | with_reducible refine kk2i (fun s v h => ?_)
    | with_reducible refine kk3i (fun s v w h => ?_)
    | with_reducible refine kk4i (fun s v w x h => ?_)
    | with_reducible exact Kp.mul (by assumption)
    | with_reducible exact Kp.new (by assumption)
    | with_reducible exact ih _ _ (by assumption)
    | with_reducible exact kk1 (by assumption) (by assumption)
    | with_reducible exact kk2 (by assumption) (by assumption)
    | with_reducible exact kk3 (by assumption) (by assumption)
    | with_reducible exact kk4 (by assumption) (by assumption))
theorem kl_lX2_gather_98 {b : ZS} {u41 : Int} : ∀ (n : Nat) (s : ZS) (x0 : Int), Kp b s → KK b (lX2_gather_98 u41 n s x0) := by
  intro n
  induction n with
  | zero => intro s x0 h; exact kk_none
  | succ n ih =>
    intro s x0 h
    rw [lX2_gather_98]
    repeat' (first
    | with_reducible assumption
    | with_reducible exact kk_none
    | with_reducible exact kk_ret (by assumption)
    | with_reducible refine kk_if ?_ ?_
    | with_reducible refine kk_p ?_ (fun s h => ?_)
    | with_reducible refine kk_as ?_ (fun s h => ?_)
    | with_reducible refine kk_na ?_ (fun s h => ?_)
    | with_reducible refine kk_pw ?_ (fun s h => ?_)
    | with_reducible refine kk_ar ?_ (fun s h => ?_)
    | with_reducible refine kk_cp ?_ (fun s h => ?_)
    | with_reducible refine kk_b ?_ (fun v s h => ?_)
    | with_reducible refine kk_g (fun v => ?_)
    | with_reducible refine kk_v ?_
    | with_reducible refine kk_w ?_ ?_ ?_ ?_ ?_ ?_
    | with_reducible refine kk_jn1 (fun k hk => ?_) ?_
    | with_reducible refine kk_jn2 (fun k hk => ?_) ?_
    | with_reducible refine kk_jn3 (fun k hk => ?_) ?_
    | with_reducible refine kk1i (fun s h => ?_)
    | with_reducible refine kk2i (fun s v h => ?_)
    | with_reducible refine kk3i (fun s v w h => ?_)
    | with_reducible refine kk4i (fun s v w x h => ?_)
    | with_reducible exact Kp.mul (by assumption)
    | with_reducible exact Kp.new (by assumption)
    | with_reducible refine kl_lX2_gather_106 ?_ _ _ _ ?_
    | with_reducible refine kl_lX2_gather_132 ?_ _ _ _ ?_
    | with_reducible exact ih _ _ (by assumption)
    | with_reducible exact kk1 (by assumption) (by assumption)
    | with_reducible exact kk2 (by assumption) (by assumption)
    | with_reducible exact kk3 (by assumption) (by assumption)
    | with_reducible exact kk4 (by assumption) (by assumption))
theorem kf_fX2_gather {b : ZS} {s0 : ZS} {a0 : Int} {a1 : Int} {a2 : Int} (h : Kp b s0) : KK b (fX2_gather s0 a0 a1 a2) := by
  unfold fX2_gather
  repeat' (first
    | with_reducible assumption
    | with_reducible exact kk_none
    | with_reducible exact kk_ret (by assumption)
    | with_reducible refine kk_if ?_ ?_
    | with_reducible refine kk_p ?_ (fun s h => ?_)
    | with_reducible refine kk_as ?_ (fun s h => ?_)
    | with_reducible refine kk_na ?_ (fun s h => ?_)
    | with_reducible refine kk_pw ?_ (fun s h => ?_)
    | with_reducible refine kk_ar ?_ (fun s h => ?_)
    | with_reducible refine kk_cp ?_ (fun s h => ?_)
    | with_reducible refine kk_b ?_ (fun v s h => ?_)
    | with_reducible refine kk_g (fun v => ?_)
    | with_reducible refine kk_v ?_
    | with_reducible refine kk_w ?_ ?_ ?_ ?_ ?_ ?_
    | with_reducible refine kk_jn1 (fun k hk => ?_) ?_
    | with_reducible refine kk_jn2 (fun k hk => ?_) ?_
    | with_reducible refine kk_jn3 (fun k hk => ?_) ?_
    | with_reducible refine kk1i (fun s h => ?_)
    | with_reducible refine kk2i (fun s v h => ?_)
    | with_reducible refine kk3i (fun s v w h => ?_)
    | with_reducible refine kk4i (fun s v w x h => ?_)
    | with_reducible exact Kp.mul (by assumption)
    | with_reducible exact Kp.new (by assumption)
    | with_reducible refine kl_lX2_gather_16 ?_ _ _ _ ?_
    | with_reducible refine kl_lX2_gather_98 _ _ _ ?_
    | with_reducible exact kk1 (by assumption) (by assumption)
    | with_reducible exact kk2 (by assumption) (by assumption)
    | with_reducible exact kk3 (by assumption) (by assumption)
    | with_reducible exact kk4 (by assumption) (by assumption))
theorem kf_fJ6_bitCount_0f7a4 {b : ZS} {s0 : ZS} {a0 : Int} (h : Kp b s0) : KK b (fJ6_bitCount_0f7a4 s0 a0) := by
  unfold fJ6_bitCount_0f7a4
  repeat' (first
    | with_reducible assumption
    | with_reducible exact kk_none
    | with_reducible exact kk_ret (by assumption)
    | with_reducible refine kk_if ?_ ?_
    | with_reducible refine kk_p ?_ (fun s h => ?_)
    | with_reducible refine kk_as ?_ (fun s h => ?_)
    | with_reducible refine kk_na ?_ (fun s h => ?_)
    | with_reducible refine kk_pw ?_ (fun s h => ?_)
    | with_reducible refine kk_ar ?_ (fun s h => ?_)
    | with_reducible refine kk_cp ?_ (fun s h => ?_)
    | with_reducible refine kk_b ?_ (fun v s h => ?_)
    | with_reducible refine kk_g (fun v => ?_)
    | with_reducible refine kk_v ?_
    | with_reducible refine kk_w ?_ ?_ ?_ ?_ ?_ ?_
    | with_reducible refine kk_jn1 (fun k hk => ?_) ?_
    | with_reducible refine kk_jn2 (fun k hk => ?_) ?_
    | with_reducible refine kk_jn3 (fun k hk => ?_) ?_
    | with_reducible refine kk1i (fun s h => ?_)
    | with_reducible refine kk2i (fun s v h => ?_)
    | with_reducible refine kk3i (fun s v w h => ?_)
    | with_reducible refine kk4i (fun s v w x h => ?_)
    | with_reducible exact Kp.mul (by assumption)
    | with_reducible exact Kp.new (by assumption)
    | with_reducible exact kk1 (by assumption) (by assumption)
    | with_reducible exact kk2 (by assumption) (by assumption)
    | with_reducible exact kk3 (by assumption) (by assumption)
    | with_reducible exact kk4 (by assumption) (by assumption))
theorem kl_lX2_letPass_6 {b : ZS} {u2 u3 u4 : Int} : ∀ (n : Nat) (s : ZS) (x0 x1 : Int), Kp b s → KK b (lX2_letPass_6 u2 u3 u4 n s x0 x1) := by
  intro n
  induction n with
  | zero => intro s x0 x1 h; exact kk_none
  | succ n ih =>
    intro s x0 x1 h
    rw [lX2_letPass_6]
    repeat' (first
    | with_reducible assumption
    | with_reducible exact kk_none
    | with_reducible exact kk_ret (by assumption)
    | with_reducible refine kk_if ?_ ?_
    | with_reducible refine kk_p ?_ (fun s h => ?_)
    | with_reducible refine kk_as ?_ (fun s h => ?_)
    | with_reducible refine kk_na ?_ (fun s h => ?_)
    | with_reducible refine kk_pw ?_ (fun s h => ?_)
    | with_reducible refine kk_ar ?_ (fun s h => ?_)
    | with_reducible refine kk_cp ?_ (fun s h => ?_)
    | with_reducible refine kk_b ?_ (fun v s h => ?_)
    | with_reducible refine kk_g (fun v => ?_)
    | with_reducible refine kk_v ?_
    | with_reducible refine kk_w ?_ ?_ ?_ ?_ ?_ ?_
    | with_reducible refine kk_jn1 (fun k hk => ?_) ?_
    | with_reducible refine kk_jn2 (fun k hk => ?_) ?_
    | with_reducible refine kk_jn3 (fun k hk => ?_) ?_
    | with_reducible refine kk1i (fun s h => ?_)
    | with_reducible refine kk2i (fun s v h => ?_)
    | with_reducible refine kk3i (fun s v w h => ?_)
    | with_reducible refine kk4i (fun s v w x h => ?_)
    | with_reducible exact Kp.mul (by assumption)
    | with_reducible exact Kp.new (by assumption)
    | with_reducible exact kf_fJ6_bitCount_0f7a4 (by first | assumption | exact Kp.mul (by assumption) | exact Kp.new (by assumption))
    | with_reducible exact ih _ _ _ (by assumption)
    | with_reducible exact kk1 (by assumption) (by assumption)
    | with_reducible exact kk2 (by assumption) (by assumption)
    | with_reducible exact kk3 (by assumption) (by assumption)
    | with_reducible exact kk4 (by assumption) (by assumption))
theorem kf_fX2_letPass {b : ZS} {s0 : ZS} {a0 : Int} {a1 : Int} {a2 : Int} {a3 : Int} (h : Kp b s0) : KK b (fX2_letPass s0 a0 a1 a2 a3) := by
  unfold fX2_letPass
  repeat' (first
    | with_reducible assumption
    | with_reducible exact kk_none
    | with_reducible exact kk_ret (by assumption)
    | with_reducible refine kk_if ?_ ?_
    | with_reducible refine kk_p ?_ (fun s h => ?_)
    | with_reducible refine kk_as ?_ (fun s h => ?_)
    | with_reducible refine kk_na ?_ (fun s h => ?_)
    | with_reducible refine kk_pw ?_ (fun s h => ?_)
    | with_reducible refine kk_ar ?_ (fun s h => ?_)
    | with_reducible refine kk_cp ?_ (fun s h => ?_)
    | with_reducible refine kk_b ?_ (fun v s h => ?_)
    | with_reducible refine kk_g (fun v => ?_)
    | with_reducible refine kk_v ?_
    | with_reducible refine kk_w ?_ ?_ ?_ ?_ ?_ ?_
    | with_reducible refine kk_jn1 (fun k hk => ?_) ?_
    | with_reducible refine kk_jn2 (fun k hk => ?_) ?_
    | with_reducible refine kk_jn3 (fun k hk => ?_) ?_
    | with_reducible refine kk1i (fun s h => ?_)
    | with_reducible refine kk2i (fun s v h => ?_)
    | with_reducible refine kk3i (fun s v w h => ?_)
    | with_reducible refine kk4i (fun s v w x h => ?_)
    | with_reducible exact Kp.mul (by assumption)
    | with_reducible exact Kp.new (by assumption)
    | with_reducible refine kl_lX2_letPass_6 _ _ _ _ ?_
    | with_reducible exact kk1 (by assumption) (by assumption)
    | with_reducible exact kk2 (by assumption) (by assumption)
    | with_reducible exact kk3 (by assumption) (by assumption)
    | with_reducible exact kk4 (by assumption) (by assumption))
theorem kl_lX2_follow_13 {b : ZS} {u6 : Int} {K32 : ZS → Option (Int × ZS)} (hkK32 : KK1 b K32) : ∀ (n : Nat) (s : ZS) (x0 : Int), Kp b s → KK b (lX2_follow_13 u6 K32 n s x0) := by
  intro n
  induction n with
  | zero => intro s x0 h; exact kk_none
  | succ n ih =>
    intro s x0 h
    rw [lX2_follow_13]
    repeat' (first
    | with_reducible assumption
    | with_reducible exact kk_none
    | with_reducible exact kk_ret (by assumption)
    | with_reducible refine kk_if ?_ ?_
    | with_reducible refine kk_p ?_ (fun s h => ?_)
    | with_reducible refine kk_as ?_ (fun s h => ?_)
    | with_reducible refine kk_na ?_ (fun s h => ?_)
    | with_reducible refine kk_pw ?_ (fun s h => ?_)
    | with_reducible refine kk_ar ?_ (fun s h => ?_)
    | with_reducible refine kk_cp ?_ (fun s h => ?_)
    | with_reducible refine kk_b ?_ (fun v s h => ?_)
    | with_reducible refine kk_g (fun v => ?_)
    | with_reducible refine kk_v ?_
    | with_reducible refine kk_w ?_ ?_ ?_ ?_ ?_ ?_
    | with_reducible refine kk_jn1 (fun k hk => ?_) ?_
    | with_reducible refine kk_jn2 (fun k hk => ?_) ?_
    | with_reducible refine kk_jn3 (fun k hk => ?_) ?_
    | with_reducible refine kk1i (fun s h => ?_)
    | with_reducible refine kk2i (fun s v h => ?_)
    | with_reducible refine kk3i (fun s v w h => ?_)
    | with_reducible refine kk4i (fun s v w x h => ?_)
    | with_reducible exact Kp.mul (by assumption)
    | with_reducible exact Kp.new (by assumption)
    | with_reducible exact ih _ _ (by assumption)
    | with_reducible exact kk1 (by assumption) (by assumption)
    | with_reducible exact kk2 (by assumption) (by assumption)
    | with_reducible exact kk3 (by assumption) (by assumption)
    | with_reducible exact kk4 (by assumption) (by assumption))
theorem kl_lX2_follow_39 {b : ZS} {u14 : Int} : ∀ (n : Nat) (s : ZS) (x0 x1 x2 : Int), Kp b s → KK b (lX2_follow_39 u14 n s x0 x1 x2) := by
  intro n
  induction n with
  | zero => intro s x0 x1 x2 h; exact kk_none
  | succ n ih =>
    intro s x0 x1 x2 h
    rw [lX2_follow_39]
    repeat' (first
    | with_reducible assumption
    | with_reducible exact kk_none
    | with_reducible exact kk_ret (by assumption)
    | with_reducible refine kk_if ?_ ?_
    | with_reducible refine kk_p ?_ (fun s h => ?_)
    | with_reducible refine kk_as ?_ (fun s h => ?_)
    | with_reducible refine kk_na ?_ (fun s h => ?_)
    | with_reducible refine kk_pw ?_ (fun s h => ?_)
    | with_reducible refine kk_ar ?_ (fun s h => ?_)
    | with_reducible refine kk_cp ?_ (fun s h => ?_)
    | with_reducible refine kk_b ?_ (fun v s h => ?_)
    | with_reducible refine kk_g (fun v => ?_)
    | with_reducible refine kk_v ?_
    | with_reducible refine kk_w ?_ ?_ ?_ ?_ ?_ ?_
    | with_reducible refine kk_jn1 (fun k hk => ?_) ?_
    | with_reducible refine kk_jn2 (fun k hk => ?_) ?_
    | with_reducible refine kk_jn3 (fun k hk => ?_) ?_
    | with_reducible refine kk1i (fun s h => ?_)
    | with_reducible refine kk2i (fun s v h => ?_)
    | with_reducible refine kk3i (fun s v w h => ?_)
    | with_reducible refine kk4i (fun s v w x h => ?_)
    | with_reducible exact Kp.mul (by assumption)
    | with_reducible exact Kp.new (by assumption)
    | with_reducible exact kf_fX2_letPass (by first | assumption | exact Kp.mul (by assumption) | exact Kp.new (by assumption))
    | with_reducible exact ih _ _ _ _ (by assumption)
    | with_reducible exact kk1 (by assumption) (by assumption)
    | with_reducible exact kk2 (by assumption) (by assumption)
    | with_reducible exact kk3 (by assumption) (by assumption)
    | with_reducible exact kk4 (by assumption) (by assumption))
theorem kf_fX2_follow {b : ZS} {s0 : ZS} {a0 : Int} {a1 : Int} (h : Kp b s0) : KK b (fX2_follow s0 a0 a1) := by
  unfold fX2_follow
  repeat' (first
    | with_reducible assumption
    | with_reducible exact kk_none
    | with_reducible exact kk_ret (by assumption)
    | with_reducible refine kk_if ?_ ?_
    | with_reducible refine kk_p ?_ (fun s h => ?_)
    | with_reducible refine kk_as ?_ (fun s h => ?_)
    | with_reducible refine kk_na ?_ (fun s h => ?_)
    | with_reducible refine kk_pw ?_ (fun s h => ?_)
    | with_reducible refine kk_ar ?_ (fun s h => ?_)
    | with_reducible refine kk_cp ?_ (fun s h => ?_)
    | with_reducible refine kk_b ?_ (fun v s h => ?_)
    | with_reducible refine kk_g (fun v => ?_)
    | with_reducible refine kk_v ?_
    | with_reducible refine kk_w ?_ ?_ ?_ ?_ ?_ ?_
    | with_reducible refine kk_jn1 (fun k hk => ?_) ?_
    | with_reducible refine kk_jn2 (fun k hk => ?_) ?_
    | with_reducible refine kk_jn3 (fun k hk => ?_) ?_
    | with_reducible refine kk1i (fun s h => ?_)
    | with_reducible refine kk2i (fun s v h => ?_)
    | with_reducible refine kk3i (fun s v w h => ?_)
    | with_reducible refine kk4i (fun s v w x h => ?_)
    | with_reducible exact Kp.mul (by assumption)
    | with_reducible exact Kp.new (by assumption)
    | with_reducible exact kf_fX2_gather (by first | assumption | exact Kp.mul (by assumption) | exact Kp.new (by assumption))
    | with_reducible refine kl_lX2_follow_13 ?_ _ _ _ ?_
    | with_reducible refine kl_lX2_follow_39 _ _ _ _ _ ?_
    | with_reducible exact kk1 (by assumption) (by assumption)
    | with_reducible exact kk2 (by assumption) (by assumption)
    | with_reducible exact kk3 (by assumption) (by assumption)
    | with_reducible exact kk4 (by assumption) (by assumption))
theorem kf_fX10_paid {b : ZS} {s0 : ZS} {a0 : Int} {a1 : Int} (h : Kp b s0) : KK b (fX10_paid s0 a0 a1) := by
  unfold fX10_paid
  repeat' (first
    | with_reducible assumption
    | with_reducible exact kk_none
    | with_reducible exact kk_ret (by assumption)
    | with_reducible refine kk_if ?_ ?_
    | with_reducible refine kk_p ?_ (fun s h => ?_)
    | with_reducible refine kk_as ?_ (fun s h => ?_)
    | with_reducible refine kk_na ?_ (fun s h => ?_)
    | with_reducible refine kk_pw ?_ (fun s h => ?_)
    | with_reducible refine kk_ar ?_ (fun s h => ?_)
    | with_reducible refine kk_cp ?_ (fun s h => ?_)
    | with_reducible refine kk_b ?_ (fun v s h => ?_)
    | with_reducible refine kk_g (fun v => ?_)
    | with_reducible refine kk_v ?_
    | with_reducible refine kk_w ?_ ?_ ?_ ?_ ?_ ?_
    | with_reducible refine kk_jn1 (fun k hk => ?_) ?_
    | with_reducible refine kk_jn2 (fun k hk => ?_) ?_
    | with_reducible refine kk_jn3 (fun k hk => ?_) ?_
    | with_reducible refine kk1i (fun s h => ?_)
    | with_reducible refine kk2i (fun s v h => ?_)
    | with_reducible refine kk3i (fun s v w h => ?_)
    | with_reducible refine kk4i (fun s v w x h => ?_)
    | with_reducible exact Kp.mul (by assumption)
    | with_reducible exact Kp.new (by assumption)
    | with_reducible exact kk1 (by assumption) (by assumption)
    | with_reducible exact kk2 (by assumption) (by assumption)
    | with_reducible exact kk3 (by assumption) (by assumption)
    | with_reducible exact kk4 (by assumption) (by assumption))
theorem kf_fX9_paid {b : ZS} {s0 : ZS} {a0 : Int} {a1 : Int} (h : Kp b s0) : KK b (fX9_paid s0 a0 a1) := by
  unfold fX9_paid
  repeat' (first
    | with_reducible assumption
    | with_reducible exact kk_none
    | with_reducible exact kk_ret (by assumption)
    | with_reducible refine kk_if ?_ ?_
    | with_reducible refine kk_p ?_ (fun s h => ?_)
    | with_reducible refine kk_as ?_ (fun s h => ?_)
    | with_reducible refine kk_na ?_ (fun s h => ?_)
    | with_reducible refine kk_pw ?_ (fun s h => ?_)
    | with_reducible refine kk_ar ?_ (fun s h => ?_)
    | with_reducible refine kk_cp ?_ (fun s h => ?_)
    | with_reducible refine kk_b ?_ (fun v s h => ?_)
    | with_reducible refine kk_g (fun v => ?_)
    | with_reducible refine kk_v ?_
    | with_reducible refine kk_w ?_ ?_ ?_ ?_ ?_ ?_
    | with_reducible refine kk_jn1 (fun k hk => ?_) ?_
    | with_reducible refine kk_jn2 (fun k hk => ?_) ?_
    | with_reducible refine kk_jn3 (fun k hk => ?_) ?_
    | with_reducible refine kk1i (fun s h => ?_)
    | with_reducible refine kk2i (fun s v h => ?_)
    | with_reducible refine kk3i (fun s v w h => ?_)
    | with_reducible refine kk4i (fun s v w x h => ?_)
    | with_reducible exact Kp.mul (by assumption)
    | with_reducible exact Kp.new (by assumption)
    | with_reducible exact kk1 (by assumption) (by assumption)
    | with_reducible exact kk2 (by assumption) (by assumption)
    | with_reducible exact kk3 (by assumption) (by assumption)
    | with_reducible exact kk4 (by assumption) (by assumption))
theorem kf_fX7_paid {b : ZS} {s0 : ZS} {a0 : Int} {a1 : Int} (h : Kp b s0) : KK b (fX7_paid s0 a0 a1) := by
  unfold fX7_paid
  repeat' (first
    | with_reducible assumption
    | with_reducible exact kk_none
    | with_reducible exact kk_ret (by assumption)
    | with_reducible refine kk_if ?_ ?_
    | with_reducible refine kk_p ?_ (fun s h => ?_)
    | with_reducible refine kk_as ?_ (fun s h => ?_)
    | with_reducible refine kk_na ?_ (fun s h => ?_)
    | with_reducible refine kk_pw ?_ (fun s h => ?_)
    | with_reducible refine kk_ar ?_ (fun s h => ?_)
    | with_reducible refine kk_cp ?_ (fun s h => ?_)
    | with_reducible refine kk_b ?_ (fun v s h => ?_)
    | with_reducible refine kk_g (fun v => ?_)
    | with_reducible refine kk_v ?_
    | with_reducible refine kk_w ?_ ?_ ?_ ?_ ?_ ?_
    | with_reducible refine kk_jn1 (fun k hk => ?_) ?_
    | with_reducible refine kk_jn2 (fun k hk => ?_) ?_
    | with_reducible refine kk_jn3 (fun k hk => ?_) ?_
    | with_reducible refine kk1i (fun s h => ?_)
    | with_reducible refine kk2i (fun s v h => ?_)
    | with_reducible refine kk3i (fun s v w h => ?_)
    | with_reducible refine kk4i (fun s v w x h => ?_)
    | with_reducible exact Kp.mul (by assumption)
    | with_reducible exact Kp.new (by assumption)
    | with_reducible exact kf_fX9_paid (by first | assumption | exact Kp.mul (by assumption) | exact Kp.new (by assumption))
    | with_reducible exact kk1 (by assumption) (by assumption)
    | with_reducible exact kk2 (by assumption) (by assumption)
    | with_reducible exact kk3 (by assumption) (by assumption)
    | with_reducible exact kk4 (by assumption) (by assumption))
theorem kf_fX2_learn {b : ZS} {s0 : ZS} {a0 : Int} {a1 : Int} {a2 : Int} {a3 : Int} {a4 : Int} (h : Kp b s0) : KK b (fX2_learn s0 a0 a1 a2 a3 a4) := by
  unfold fX2_learn
  repeat' (first
    | with_reducible assumption
    | with_reducible exact kk_none
    | with_reducible exact kk_ret (by assumption)
    | with_reducible refine kk_if ?_ ?_
    | with_reducible refine kk_p ?_ (fun s h => ?_)
    | with_reducible refine kk_as ?_ (fun s h => ?_)
    | with_reducible refine kk_na ?_ (fun s h => ?_)
    | with_reducible refine kk_pw ?_ (fun s h => ?_)
    | with_reducible refine kk_ar ?_ (fun s h => ?_)
    | with_reducible refine kk_cp ?_ (fun s h => ?_)
    | with_reducible refine kk_b ?_ (fun v s h => ?_)
    | with_reducible refine kk_g (fun v => ?_)
    | with_reducible refine kk_v ?_
    | with_reducible refine kk_w ?_ ?_ ?_ ?_ ?_ ?_
    | with_reducible refine kk_jn1 (fun k hk => ?_) ?_
    | with_reducible refine kk_jn2 (fun k hk => ?_) ?_
    | with_reducible refine kk_jn3 (fun k hk => ?_) ?_
    | with_reducible refine kk1i (fun s h => ?_)
    | with_reducible refine kk2i (fun s v h => ?_)
    | with_reducible refine kk3i (fun s v w h => ?_)
    | with_reducible refine kk4i (fun s v w x h => ?_)
    | with_reducible exact Kp.mul (by assumption)
    | with_reducible exact Kp.new (by assumption)
    | with_reducible exact kk1 (by assumption) (by assumption)
    | with_reducible exact kk2 (by assumption) (by assumption)
    | with_reducible exact kk3 (by assumption) (by assumption)
    | with_reducible exact kk4 (by assumption) (by assumption))
theorem kf_fX8_joined {b : ZS} {s0 : ZS} {a0 : Int} {a1 : Int} {a2 : Int} (h : Kp b s0) : KK b (fX8_joined s0 a0 a1 a2) := by
  unfold fX8_joined
  repeat' (first
    | with_reducible assumption
    | with_reducible exact kk_none
    | with_reducible exact kk_ret (by assumption)
    | with_reducible refine kk_if ?_ ?_
    | with_reducible refine kk_p ?_ (fun s h => ?_)
    | with_reducible refine kk_as ?_ (fun s h => ?_)
    | with_reducible refine kk_na ?_ (fun s h => ?_)
    | with_reducible refine kk_pw ?_ (fun s h => ?_)
    | with_reducible refine kk_ar ?_ (fun s h => ?_)
    | with_reducible refine kk_cp ?_ (fun s h => ?_)
    | with_reducible refine kk_b ?_ (fun v s h => ?_)
    | with_reducible refine kk_g (fun v => ?_)
    | with_reducible refine kk_v ?_
    | with_reducible refine kk_w ?_ ?_ ?_ ?_ ?_ ?_
    | with_reducible refine kk_jn1 (fun k hk => ?_) ?_
    | with_reducible refine kk_jn2 (fun k hk => ?_) ?_
    | with_reducible refine kk_jn3 (fun k hk => ?_) ?_
    | with_reducible refine kk1i (fun s h => ?_)
    | with_reducible refine kk2i (fun s v h => ?_)
    | with_reducible refine kk3i (fun s v w h => ?_)
    | with_reducible refine kk4i (fun s v w x h => ?_)
    | with_reducible exact Kp.mul (by assumption)
    | with_reducible exact Kp.new (by assumption)
    | with_reducible exact kk1 (by assumption) (by assumption)
    | with_reducible exact kk2 (by assumption) (by assumption)
    | with_reducible exact kk3 (by assumption) (by assumption)
    | with_reducible exact kk4 (by assumption) (by assumption))
theorem kl_lX8_amount_5 {b : ZS} {u2 u3 u4 : Int} {K166 : ZS → Option (Int × ZS)} (hkK166 : KK1 b K166) : ∀ (n : Nat) (s : ZS) (x0 x1 : Int), Kp b s → KK b (lX8_amount_5 u2 u3 u4 K166 n s x0 x1) := by
  intro n
  induction n with
  | zero => intro s x0 x1 h; exact kk_none
  | succ n ih =>
    intro s x0 x1 h
    rw [lX8_amount_5]
    repeat' (first
    | with_reducible assumption
    | with_reducible exact kk_none
    | with_reducible exact kk_ret (by assumption)
    | with_reducible refine kk_if ?_ ?_
    | with_reducible refine kk_p ?_ (fun s h => ?_)
    | with_reducible refine kk_as ?_ (fun s h => ?_)
    | with_reducible refine kk_na ?_ (fun s h => ?_)
    | with_reducible refine kk_pw ?_ (fun s h => ?_)
    | with_reducible refine kk_ar ?_ (fun s h => ?_)
    | with_reducible refine kk_cp ?_ (fun s h => ?_)
    | with_reducible refine kk_b ?_ (fun v s h => ?_)
    | with_reducible refine kk_g (fun v => ?_)
    | with_reducible refine kk_v ?_
    | with_reducible refine kk_w ?_ ?_ ?_ ?_ ?_ ?_
    | with_reducible refine kk_jn1 (fun k hk => ?_) ?_
    | with_reducible refine kk_jn2 (fun k hk => ?_) ?_
    | with_reducible refine kk_jn3 (fun k hk => ?_) ?_
    | with_reducible refine kk1i (fun s h => ?_)
    | with_reducible refine kk2i (fun s v h => ?_)
    | with_reducible refine kk3i (fun s v w h => ?_)
    | with_reducible refine kk4i (fun s v w x h => ?_)
    | with_reducible exact Kp.mul (by assumption)
    | with_reducible exact Kp.new (by assumption)
    | with_reducible exact kf_fX8_joined (by first | assumption | exact Kp.mul (by assumption) | exact Kp.new (by assumption))
    | with_reducible exact ih _ _ _ (by assumption)
    | with_reducible exact kk1 (by assumption) (by assumption)
    | with_reducible exact kk2 (by assumption) (by assumption)
    | with_reducible exact kk3 (by assumption) (by assumption)
    | with_reducible exact kk4 (by assumption) (by assumption))
theorem kf_fX8_amount {b : ZS} {s0 : ZS} {a0 : Int} {a1 : Int} {a2 : Int} (h : Kp b s0) : KK b (fX8_amount s0 a0 a1 a2) := by
  unfold fX8_amount
  repeat' (first
    | with_reducible assumption
    | with_reducible exact kk_none
    | with_reducible exact kk_ret (by assumption)
    | with_reducible refine kk_if ?_ ?_
    | with_reducible refine kk_p ?_ (fun s h => ?_)
    | with_reducible refine kk_as ?_ (fun s h => ?_)
    | with_reducible refine kk_na ?_ (fun s h => ?_)
    | with_reducible refine kk_pw ?_ (fun s h => ?_)
    | with_reducible refine kk_ar ?_ (fun s h => ?_)
    | with_reducible refine kk_cp ?_ (fun s h => ?_)
    | with_reducible refine kk_b ?_ (fun v s h => ?_)
    | with_reducible refine kk_g (fun v => ?_)
    | with_reducible refine kk_v ?_
    | with_reducible refine kk_w ?_ ?_ ?_ ?_ ?_ ?_
    | with_reducible refine kk_jn1 (fun k hk => ?_) ?_
    | with_reducible refine kk_jn2 (fun k hk => ?_) ?_
    | with_reducible refine kk_jn3 (fun k hk => ?_) ?_
    | with_reducible refine kk1i (fun s h => ?_)
    | with_reducible refine kk2i (fun s v h => ?_)
    | with_reducible refine kk3i (fun s v w h => ?_)
    | with_reducible refine kk4i (fun s v w x h => ?_)
    | with_reducible exact Kp.mul (by assumption)
    | with_reducible exact Kp.new (by assumption)
    | with_reducible refine kl_lX8_amount_5 ?_ _ _ _ _ ?_
    | with_reducible exact kk1 (by assumption) (by assumption)
    | with_reducible exact kk2 (by assumption) (by assumption)
    | with_reducible exact kk3 (by assumption) (by assumption)
    | with_reducible exact kk4 (by assumption) (by assumption))
theorem kf_fX10_spared {b : ZS} {s0 : ZS} {a0 : Int} {a1 : Int} (h : Kp b s0) : KK b (fX10_spared s0 a0 a1) := by
  unfold fX10_spared
  repeat' (first
    | with_reducible assumption
    | with_reducible exact kk_none
    | with_reducible exact kk_ret (by assumption)
    | with_reducible refine kk_if ?_ ?_
    | with_reducible refine kk_p ?_ (fun s h => ?_)
    | with_reducible refine kk_as ?_ (fun s h => ?_)
    | with_reducible refine kk_na ?_ (fun s h => ?_)
    | with_reducible refine kk_pw ?_ (fun s h => ?_)
    | with_reducible refine kk_ar ?_ (fun s h => ?_)
    | with_reducible refine kk_cp ?_ (fun s h => ?_)
    | with_reducible refine kk_b ?_ (fun v s h => ?_)
    | with_reducible refine kk_g (fun v => ?_)
    | with_reducible refine kk_v ?_
    | with_reducible refine kk_w ?_ ?_ ?_ ?_ ?_ ?_
    | with_reducible refine kk_jn1 (fun k hk => ?_) ?_
    | with_reducible refine kk_jn2 (fun k hk => ?_) ?_
    | with_reducible refine kk_jn3 (fun k hk => ?_) ?_
    | with_reducible refine kk1i (fun s h => ?_)
    | with_reducible refine kk2i (fun s v h => ?_)
    | with_reducible refine kk3i (fun s v w h => ?_)
    | with_reducible refine kk4i (fun s v w x h => ?_)
    | with_reducible exact Kp.mul (by assumption)
    | with_reducible exact Kp.new (by assumption)
    | with_reducible exact kk1 (by assumption) (by assumption)
    | with_reducible exact kk2 (by assumption) (by assumption)
    | with_reducible exact kk3 (by assumption) (by assumption)
    | with_reducible exact kk4 (by assumption) (by assumption))
theorem kf_fX1_spared {b : ZS} {s0 : ZS} {a0 : Int} {a1 : Int} (h : Kp b s0) : KK b (fX1_spared s0 a0 a1) := by
  unfold fX1_spared
  repeat' (first
    | with_reducible assumption
    | with_reducible exact kk_none
    | with_reducible exact kk_ret (by assumption)
    | with_reducible refine kk_if ?_ ?_
    | with_reducible refine kk_p ?_ (fun s h => ?_)
    | with_reducible refine kk_as ?_ (fun s h => ?_)
    | with_reducible refine kk_na ?_ (fun s h => ?_)
    | with_reducible refine kk_pw ?_ (fun s h => ?_)
    | with_reducible refine kk_ar ?_ (fun s h => ?_)
    | with_reducible refine kk_cp ?_ (fun s h => ?_)
    | with_reducible refine kk_b ?_ (fun v s h => ?_)
    | with_reducible refine kk_g (fun v => ?_)
    | with_reducible refine kk_v ?_
    | with_reducible refine kk_w ?_ ?_ ?_ ?_ ?_ ?_
    | with_reducible refine kk_jn1 (fun k hk => ?_) ?_
    | with_reducible refine kk_jn2 (fun k hk => ?_) ?_
    | with_reducible refine kk_jn3 (fun k hk => ?_) ?_
    | with_reducible refine kk1i (fun s h => ?_)
    | with_reducible refine kk2i (fun s v h => ?_)
    | with_reducible refine kk3i (fun s v w h => ?_)
    | with_reducible refine kk4i (fun s v w x h => ?_)
    | with_reducible exact Kp.mul (by assumption)
    | with_reducible exact Kp.new (by assumption)
    | with_reducible exact kk1 (by assumption) (by assumption)
    | with_reducible exact kk2 (by assumption) (by assumption)
    | with_reducible exact kk3 (by assumption) (by assumption)
    | with_reducible exact kk4 (by assumption) (by assumption))
theorem kf_fX2_cost {b : ZS} {s0 : ZS} {a0 : Int} {a1 : Int} {a2 : Int} {a3 : Int} {a4 : Int} {a5 : Int} {a6 : Int} (h : Kp b s0) : KK b (fX2_cost s0 a0 a1 a2 a3 a4 a5 a6) := by
  unfold fX2_cost
  repeat' (first
    | with_reducible assumption
    | with_reducible exact kk_none
    | with_reducible exact kk_ret (by assumption)
    | with_reducible refine kk_if ?_ ?_
    | with_reducible refine kk_p ?_ (fun s h => ?_)
    | with_reducible refine kk_as ?_ (fun s h => ?_)
    | with_reducible refine kk_na ?_ (fun s h => ?_)
    | with_reducible refine kk_pw ?_ (fun s h => ?_)
    | with_reducible refine kk_ar ?_ (fun s h => ?_)
    | with_reducible refine kk_cp ?_ (fun s h => ?_)
    | with_reducible refine kk_b ?_ (fun v s h => ?_)
    | with_reducible refine kk_g (fun v => ?_)
    | with_reducible refine kk_v ?_
    | with_reducible refine kk_w ?_ ?_ ?_ ?_ ?_ ?_
    | with_reducible refine kk_jn1 (fun k hk => ?_) ?_
    | with_reducible refine kk_jn2 (fun k hk => ?_) ?_
    | with_reducible refine kk_jn3 (fun k hk => ?_) ?_
    | with_reducible refine kk1i (fun s h => ?_)
    | with_reducible refine kk2i (fun s v h => ?_)
    | with_reducible refine kk3i (fun s v w h => ?_)
    | with_reducible refine kk4i (fun s v w x h => ?_)
    | with_reducible exact Kp.mul (by assumption)
    | with_reducible exact Kp.new (by assumption)
    | with_reducible exact kf_fX10_paid (by first | assumption | exact Kp.mul (by assumption) | exact Kp.new (by assumption))
    | with_reducible exact kf_fX9_paid (by first | assumption | exact Kp.mul (by assumption) | exact Kp.new (by assumption))
    | with_reducible exact kf_fX7_paid (by first | assumption | exact Kp.mul (by assumption) | exact Kp.new (by assumption))
    | with_reducible exact kf_fX2_learn (by first | assumption | exact Kp.mul (by assumption) | exact Kp.new (by assumption))
    | with_reducible exact kf_fX8_amount (by first | assumption | exact Kp.mul (by assumption) | exact Kp.new (by assumption))
    | with_reducible exact kf_fX10_spared (by first | assumption | exact Kp.mul (by assumption) | exact Kp.new (by assumption))
    | with_reducible exact kf_fX1_spared (by first | assumption | exact Kp.mul (by assumption) | exact Kp.new (by assumption))
    | with_reducible exact kk1 (by assumption) (by assumption)
    | with_reducible exact kk2 (by assumption) (by assumption)
    | with_reducible exact kk3 (by assumption) (by assumption)
    | with_reducible exact kk4 (by assumption) (by assumption))
theorem kf_fX2_costOf {b : ZS} {s0 : ZS} {a0 : Int} {a1 : Int} {a2 : Int} {a3 : Int} (h : Kp b s0) : KK b (fX2_costOf s0 a0 a1 a2 a3) := by
  unfold fX2_costOf
  repeat' (first
    | with_reducible assumption
    | with_reducible exact kk_none
    | with_reducible exact kk_ret (by assumption)
    | with_reducible refine kk_if ?_ ?_
    | with_reducible refine kk_p ?_ (fun s h => ?_)
    | with_reducible refine kk_as ?_ (fun s h => ?_)
    | with_reducible refine kk_na ?_ (fun s h => ?_)
    | with_reducible refine kk_pw ?_ (fun s h => ?_)
    | with_reducible refine kk_ar ?_ (fun s h => ?_)
    | with_reducible refine kk_cp ?_ (fun s h => ?_)
    | with_reducible refine kk_b ?_ (fun v s h => ?_)
    | with_reducible refine kk_g (fun v => ?_)
    | with_reducible refine kk_v ?_
    | with_reducible refine kk_w ?_ ?_ ?_ ?_ ?_ ?_
    | with_reducible refine kk_jn1 (fun k hk => ?_) ?_
    | with_reducible refine kk_jn2 (fun k hk => ?_) ?_
    | with_reducible refine kk_jn3 (fun k hk => ?_) ?_
    | with_reducible refine kk1i (fun s h => ?_)
    | with_reducible refine kk2i (fun s v h => ?_)
    | with_reducible refine kk3i (fun s v w h => ?_)
    | with_reducible refine kk4i (fun s v w x h => ?_)
    | with_reducible exact Kp.mul (by assumption)
    | with_reducible exact Kp.new (by assumption)
    | with_reducible exact kf_fX2_cost (by first | assumption | exact Kp.mul (by assumption) | exact Kp.new (by assumption))
    | with_reducible exact kk1 (by assumption) (by assumption)
    | with_reducible exact kk2 (by assumption) (by assumption)
    | with_reducible exact kk3 (by assumption) (by assumption)
    | with_reducible exact kk4 (by assumption) (by assumption))
theorem kf_fX2_paidOf {b : ZS} {s0 : ZS} {a0 : Int} {a1 : Int} {a2 : Int} (h : Kp b s0) : KK b (fX2_paidOf s0 a0 a1 a2) := by
  unfold fX2_paidOf
  repeat' (first
    | with_reducible assumption
    | with_reducible exact kk_none
    | with_reducible exact kk_ret (by assumption)
    | with_reducible refine kk_if ?_ ?_
    | with_reducible refine kk_p ?_ (fun s h => ?_)
    | with_reducible refine kk_as ?_ (fun s h => ?_)
    | with_reducible refine kk_na ?_ (fun s h => ?_)
    | with_reducible refine kk_pw ?_ (fun s h => ?_)
    | with_reducible refine kk_ar ?_ (fun s h => ?_)
    | with_reducible refine kk_cp ?_ (fun s h => ?_)
    | with_reducible refine kk_b ?_ (fun v s h => ?_)
    | with_reducible refine kk_g (fun v => ?_)
    | with_reducible refine kk_v ?_
    | with_reducible refine kk_w ?_ ?_ ?_ ?_ ?_ ?_
    | with_reducible refine kk_jn1 (fun k hk => ?_) ?_
    | with_reducible refine kk_jn2 (fun k hk => ?_) ?_
    | with_reducible refine kk_jn3 (fun k hk => ?_) ?_
    | with_reducible refine kk1i (fun s h => ?_)
    | with_reducible refine kk2i (fun s v h => ?_)
    | with_reducible refine kk3i (fun s v w h => ?_)
    | with_reducible refine kk4i (fun s v w x h => ?_)
    | with_reducible exact Kp.mul (by assumption)
    | with_reducible exact Kp.new (by assumption)
    | with_reducible exact kf_fX10_paid (by first | assumption | exact Kp.mul (by assumption) | exact Kp.new (by assumption))
    | with_reducible exact kf_fX9_paid (by first | assumption | exact Kp.mul (by assumption) | exact Kp.new (by assumption))
    | with_reducible exact kf_fX7_paid (by first | assumption | exact Kp.mul (by assumption) | exact Kp.new (by assumption))
    | with_reducible exact kk1 (by assumption) (by assumption)
    | with_reducible exact kk2 (by assumption) (by assumption)
    | with_reducible exact kk3 (by assumption) (by assumption)
    | with_reducible exact kk4 (by assumption) (by assumption))
theorem kf_fX2_lostOf {b : ZS} {s0 : ZS} {a0 : Int} {a1 : Int} {a2 : Int} {a3 : Int} (h : Kp b s0) : KK b (fX2_lostOf s0 a0 a1 a2 a3) := by
  unfold fX2_lostOf
  repeat' (first
    | with_reducible assumption
    | with_reducible exact kk_none
    | with_reducible exact kk_ret (by assumption)
    | with_reducible refine kk_if ?_ ?_
    | with_reducible refine kk_p ?_ (fun s h => ?_)
    | with_reducible refine kk_as ?_ (fun s h => ?_)
    | with_reducible refine kk_na ?_ (fun s h => ?_)
    | with_reducible refine kk_pw ?_ (fun s h => ?_)
    | with_reducible refine kk_ar ?_ (fun s h => ?_)
    | with_reducible refine kk_cp ?_ (fun s h => ?_)
    | with_reducible refine kk_b ?_ (fun v s h => ?_)
    | with_reducible refine kk_g (fun v => ?_)
    | with_reducible refine kk_v ?_
    | with_reducible refine kk_w ?_ ?_ ?_ ?_ ?_ ?_
    | with_reducible refine kk_jn1 (fun k hk => ?_) ?_
    | with_reducible refine kk_jn2 (fun k hk => ?_) ?_
    | with_reducible refine kk_jn3 (fun k hk => ?_) ?_
    | with_reducible refine kk1i (fun s h => ?_)
    | with_reducible refine kk2i (fun s v h => ?_)
    | with_reducible refine kk3i (fun s v w h => ?_)
    | with_reducible refine kk4i (fun s v w x h => ?_)
    | with_reducible exact Kp.mul (by assumption)
    | with_reducible exact Kp.new (by assumption)
    | with_reducible exact kf_fX2_learn (by first | assumption | exact Kp.mul (by assumption) | exact Kp.new (by assumption))
    | with_reducible exact kf_fX8_amount (by first | assumption | exact Kp.mul (by assumption) | exact Kp.new (by assumption))
    | with_reducible exact kf_fX2_paidOf (by first | assumption | exact Kp.mul (by assumption) | exact Kp.new (by assumption))
    | with_reducible exact kk1 (by assumption) (by assumption)
    | with_reducible exact kk2 (by assumption) (by assumption)
    | with_reducible exact kk3 (by assumption) (by assumption)
    | with_reducible exact kk4 (by assumption) (by assumption))
theorem kf_fX11_of {b : ZS} {s0 : ZS} {a0 : Int} {a1 : Int} {a2 : Int} {a3 : Int} (h : Kp b s0) : KK b (fX11_of s0 a0 a1 a2 a3) := by
  unfold fX11_of
  repeat' (first
    | with_reducible assumption
    | with_reducible exact kk_none
    | with_reducible exact kk_ret (by assumption)
    | with_reducible refine kk_if ?_ ?_
    | with_reducible refine kk_p ?_ (fun s h => ?_)
    | with_reducible refine kk_as ?_ (fun s h => ?_)
    | with_reducible refine kk_na ?_ (fun s h => ?_)
    | with_reducible refine kk_pw ?_ (fun s h => ?_)
    | with_reducible refine kk_ar ?_ (fun s h => ?_)
    | with_reducible refine kk_cp ?_ (fun s h => ?_)
    | with_reducible refine kk_b ?_ (fun v s h => ?_)
    | with_reducible refine kk_g (fun v => ?_)
    | with_reducible refine kk_v ?_
    | with_reducible refine kk_w ?_ ?_ ?_ ?_ ?_ ?_
    | with_reducible refine kk_jn1 (fun k hk => ?_) ?_
    | with_reducible refine kk_jn2 (fun k hk => ?_) ?_
    | with_reducible refine kk_jn3 (fun k hk => ?_) ?_
    | with_reducible refine kk1i (fun s h => ?_)
    | with_reducible refine kk2i (fun s v h => ?_)
    | with_reducible refine kk3i (fun s v w h => ?_)
    | with_reducible refine kk4i (fun s v w x h => ?_)
    | with_reducible exact Kp.mul (by assumption)
    | with_reducible exact Kp.new (by assumption)
    | with_reducible exact kf_fX11_within (by first | assumption | exact Kp.mul (by assumption) | exact Kp.new (by assumption))
    | with_reducible exact kf_fX11_wayAt (by first | assumption | exact Kp.mul (by assumption) | exact Kp.new (by assumption))
    | with_reducible exact kf_fX10_isFor (by first | assumption | exact Kp.mul (by assumption) | exact Kp.new (by assumption))
    | with_reducible exact kf_fX2_follow (by first | assumption | exact Kp.mul (by assumption) | exact Kp.new (by assumption))
    | with_reducible exact kf_fX2_costOf (by first | assumption | exact Kp.mul (by assumption) | exact Kp.new (by assumption))
    | with_reducible exact kf_fX2_paidOf (by first | assumption | exact Kp.mul (by assumption) | exact Kp.new (by assumption))
    | with_reducible exact kf_fX2_lostOf (by first | assumption | exact Kp.mul (by assumption) | exact Kp.new (by assumption))
    | with_reducible exact kk1 (by assumption) (by assumption)
    | with_reducible exact kk2 (by assumption) (by assumption)
    | with_reducible exact kk3 (by assumption) (by assumption)
    | with_reducible exact kk4 (by assumption) (by assumption))
theorem kl_lX2_waitingBehind_6 {b : ZS} {u2 u3 u4 u5 : Int} : ∀ (n : Nat) (s : ZS) (x0 x1 : Int), Kp b s → KK b (lX2_waitingBehind_6 u2 u3 u4 u5 n s x0 x1) := by
  intro n
  induction n with
  | zero => intro s x0 x1 h; exact kk_none
  | succ n ih =>
    intro s x0 x1 h
    rw [lX2_waitingBehind_6]
    repeat' (first
    | with_reducible assumption
    | with_reducible exact kk_none
    | with_reducible exact kk_ret (by assumption)
    | with_reducible refine kk_if ?_ ?_
    | with_reducible refine kk_p ?_ (fun s h => ?_)
    | with_reducible refine kk_as ?_ (fun s h => ?_)
    | with_reducible refine kk_na ?_ (fun s h => ?_)
    | with_reducible refine kk_pw ?_ (fun s h => ?_)
    | with_reducible refine kk_ar ?_ (fun s h => ?_)
    | with_reducible refine kk_cp ?_ (fun s h => ?_)
    | with_reducible refine kk_b ?_ (fun v s h => ?_)
    | with_reducible refine kk_g (fun v => ?_)
    | with_reducible refine kk_v ?_
    | with_reducible refine kk_w ?_ ?_ ?_ ?_ ?_ ?_
    | with_reducible refine kk_jn1 (fun k hk => ?_) ?_
    | with_reducible refine kk_jn2 (fun k hk => ?_) ?_
    | with_reducible refine kk_jn3 (fun k hk => ?_) ?_
    | with_reducible refine kk1i (fun s h => ?_)
    | with_reducible refine kk2i (fun s v h => ?_)
    | with_reducible refine kk3i (fun s v w h => ?_)
    | with_reducible refine kk4i (fun s v w x h => ?_)
    | with_reducible exact Kp.mul (by assumption)
    | with_reducible exact Kp.new (by assumption)
    | with_reducible exact ih _ _ _ (by assumption)
    | with_reducible exact kk1 (by assumption) (by assumption)
    | with_reducible exact kk2 (by assumption) (by assumption)
    | with_reducible exact kk3 (by assumption) (by assumption)
    | with_reducible exact kk4 (by assumption) (by assumption))
theorem kf_fX2_waitingBehind {b : ZS} {s0 : ZS} {a0 : Int} {a1 : Int} {a2 : Int} {a3 : Int} (h : Kp b s0) : KK b (fX2_waitingBehind s0 a0 a1 a2 a3) := by
  unfold fX2_waitingBehind
  repeat' (first
    | with_reducible assumption
    | with_reducible exact kk_none
    | with_reducible exact kk_ret (by assumption)
    | with_reducible refine kk_if ?_ ?_
    | with_reducible refine kk_p ?_ (fun s h => ?_)
    | with_reducible refine kk_as ?_ (fun s h => ?_)
    | with_reducible refine kk_na ?_ (fun s h => ?_)
    | with_reducible refine kk_pw ?_ (fun s h => ?_)
    | with_reducible refine kk_ar ?_ (fun s h => ?_)
    | with_reducible refine kk_cp ?_ (fun s h => ?_)
    | with_reducible refine kk_b ?_ (fun v s h => ?_)
    | with_reducible refine kk_g (fun v => ?_)
    | with_reducible refine kk_v ?_
    | with_reducible refine kk_w ?_ ?_ ?_ ?_ ?_ ?_
    | with_reducible refine kk_jn1 (fun k hk => ?_) ?_
    | with_reducible refine kk_jn2 (fun k hk => ?_) ?_
    | with_reducible refine kk_jn3 (fun k hk => ?_) ?_
    | with_reducible refine kk1i (fun s h => ?_)
    | with_reducible refine kk2i (fun s v h => ?_)
    | with_reducible refine kk3i (fun s v w h => ?_)
    | with_reducible refine kk4i (fun s v w x h => ?_)
    | with_reducible exact Kp.mul (by assumption)
    | with_reducible exact Kp.new (by assumption)
    | with_reducible refine kl_lX2_waitingBehind_6 _ _ _ _ ?_
    | with_reducible exact kk1 (by assumption) (by assumption)
    | with_reducible exact kk2 (by assumption) (by assumption)
    | with_reducible exact kk3 (by assumption) (by assumption)
    | with_reducible exact kk4 (by assumption) (by assumption))
theorem kf_fX11_line {b : ZS} {s0 : ZS} {a0 : Int} {a1 : Int} {a2 : Int} {a3 : Int} (h : Kp b s0) : KK b (fX11_line s0 a0 a1 a2 a3) := by
  unfold fX11_line
  repeat' (first
    | with_reducible assumption
    | with_reducible exact kk_none
    | with_reducible exact kk_ret (by assumption)
    | with_reducible refine kk_if ?_ ?_
    | with_reducible refine kk_p ?_ (fun s h => ?_)
    | with_reducible refine kk_as ?_ (fun s h => ?_)
    | with_reducible refine kk_na ?_ (fun s h => ?_)
    | with_reducible refine kk_pw ?_ (fun s h => ?_)
    | with_reducible refine kk_ar ?_ (fun s h => ?_)
    | with_reducible refine kk_cp ?_ (fun s h => ?_)
    | with_reducible refine kk_b ?_ (fun v s h => ?_)
    | with_reducible refine kk_g (fun v => ?_)
    | with_reducible refine kk_v ?_
    | with_reducible refine kk_w ?_ ?_ ?_ ?_ ?_ ?_
    | with_reducible refine kk_jn1 (fun k hk => ?_) ?_
    | with_reducible refine kk_jn2 (fun k hk => ?_) ?_
    | with_reducible refine kk_jn3 (fun k hk => ?_) ?_
    | with_reducible refine kk1i (fun s h => ?_)
    | with_reducible refine kk2i (fun s v h => ?_)
    | with_reducible refine kk3i (fun s v w h => ?_)
    | with_reducible refine kk4i (fun s v w x h => ?_)
    | with_reducible exact Kp.mul (by assumption)
    | with_reducible exact Kp.new (by assumption)
    | with_reducible exact kf_fX11_isGate (by first | assumption | exact Kp.mul (by assumption) | exact Kp.new (by assumption))
    | with_reducible exact kf_fX11_isMinute (by first | assumption | exact Kp.mul (by assumption) | exact Kp.new (by assumption))
    | with_reducible exact kf_fX11_wayAt (by first | assumption | exact Kp.mul (by assumption) | exact Kp.new (by assumption))
    | with_reducible exact kf_fX2_follow (by first | assumption | exact Kp.mul (by assumption) | exact Kp.new (by assumption))
    | with_reducible exact kf_fX2_waitingBehind (by first | assumption | exact Kp.mul (by assumption) | exact Kp.new (by assumption))
    | with_reducible exact kk1 (by assumption) (by assumption)
    | with_reducible exact kk2 (by assumption) (by assumption)
    | with_reducible exact kk3 (by assumption) (by assumption)
    | with_reducible exact kk4 (by assumption) (by assumption))
theorem kf_fX11_passes {b : ZS} {s0 : ZS} {a0 : Int} {a1 : Int} {a2 : Int} (h : Kp b s0) : KK b (fX11_passes s0 a0 a1 a2) := by
  unfold fX11_passes
  repeat' (first
    | with_reducible assumption
    | with_reducible exact kk_none
    | with_reducible exact kk_ret (by assumption)
    | with_reducible refine kk_if ?_ ?_
    | with_reducible refine kk_p ?_ (fun s h => ?_)
    | with_reducible refine kk_as ?_ (fun s h => ?_)
    | with_reducible refine kk_na ?_ (fun s h => ?_)
    | with_reducible refine kk_pw ?_ (fun s h => ?_)
    | with_reducible refine kk_ar ?_ (fun s h => ?_)
    | with_reducible refine kk_cp ?_ (fun s h => ?_)
    | with_reducible refine kk_b ?_ (fun v s h => ?_)
    | with_reducible refine kk_g (fun v => ?_)
    | with_reducible refine kk_v ?_
    | with_reducible refine kk_w ?_ ?_ ?_ ?_ ?_ ?_
    | with_reducible refine kk_jn1 (fun k hk => ?_) ?_
    | with_reducible refine kk_jn2 (fun k hk => ?_) ?_
    | with_reducible refine kk_jn3 (fun k hk => ?_) ?_
    | with_reducible refine kk1i (fun s h => ?_)
    | with_reducible refine kk2i (fun s v h => ?_)
    | with_reducible refine kk3i (fun s v w h => ?_)
    | with_reducible refine kk4i (fun s v w x h => ?_)
    | with_reducible exact Kp.mul (by assumption)
    | with_reducible exact Kp.new (by assumption)
    | with_reducible exact kf_fX11_wayAt (by first | assumption | exact Kp.mul (by assumption) | exact Kp.new (by assumption))
    | with_reducible exact kf_fX2_follow (by first | assumption | exact Kp.mul (by assumption) | exact Kp.new (by assumption))
    | with_reducible exact kk1 (by assumption) (by assumption)
    | with_reducible exact kk2 (by assumption) (by assumption)
    | with_reducible exact kk3 (by assumption) (by assumption)
    | with_reducible exact kk4 (by assumption) (by assumption))
theorem kf_fX2_waitOf {b : ZS} {s0 : ZS} {a0 : Int} {a1 : Int} (h : Kp b s0) : KK b (fX2_waitOf s0 a0 a1) := by
  unfold fX2_waitOf
  repeat' (first
    | with_reducible assumption
    | with_reducible exact kk_none
    | with_reducible exact kk_ret (by assumption)
    | with_reducible refine kk_if ?_ ?_
    | with_reducible refine kk_p ?_ (fun s h => ?_)
    | with_reducible refine kk_as ?_ (fun s h => ?_)
    | with_reducible refine kk_na ?_ (fun s h => ?_)
    | with_reducible refine kk_pw ?_ (fun s h => ?_)
    | with_reducible refine kk_ar ?_ (fun s h => ?_)
    | with_reducible refine kk_cp ?_ (fun s h => ?_)
    | with_reducible refine kk_b ?_ (fun v s h => ?_)
    | with_reducible refine kk_g (fun v => ?_)
    | with_reducible refine kk_v ?_
    | with_reducible refine kk_w ?_ ?_ ?_ ?_ ?_ ?_
    | with_reducible refine kk_jn1 (fun k hk => ?_) ?_
    | with_reducible refine kk_jn2 (fun k hk => ?_) ?_
    | with_reducible refine kk_jn3 (fun k hk => ?_) ?_
    | with_reducible refine kk1i (fun s h => ?_)
    | with_reducible refine kk2i (fun s v h => ?_)
    | with_reducible refine kk3i (fun s v w h => ?_)
    | with_reducible refine kk4i (fun s v w x h => ?_)
    | with_reducible exact Kp.mul (by assumption)
    | with_reducible exact Kp.new (by assumption)
    | with_reducible exact kk1 (by assumption) (by assumption)
    | with_reducible exact kk2 (by assumption) (by assumption)
    | with_reducible exact kk3 (by assumption) (by assumption)
    | with_reducible exact kk4 (by assumption) (by assumption))
theorem kl_lX11_sum_36 {b : ZS} {u14 u15 u16 : Int} : ∀ (n : Nat) (s : ZS) (x0 x1 : Int), Kp b s → KK b (lX11_sum_36 u14 u15 u16 n s x0 x1) := by
  intro n
  induction n with
  | zero => intro s x0 x1 h; exact kk_none
  | succ n ih =>
    intro s x0 x1 h
    rw [lX11_sum_36]
    repeat' (first
    | with_reducible assumption
    | with_reducible exact kk_none
    | with_reducible exact kk_ret (by assumption)
    | with_reducible refine kk_if ?_ ?_
    | with_reducible refine kk_p ?_ (fun s h => ?_)
    | with_reducible refine kk_as ?_ (fun s h => ?_)
    | with_reducible refine kk_na ?_ (fun s h => ?_)
    | with_reducible refine kk_pw ?_ (fun s h => ?_)
    | with_reducible refine kk_ar ?_ (fun s h => ?_)
    | with_reducible refine kk_cp ?_ (fun s h => ?_)
    | with_reducible refine kk_b ?_ (fun v s h => ?_)
    | with_reducible refine kk_g (fun v => ?_)
    | with_reducible refine kk_v ?_
    | with_reducible refine kk_w ?_ ?_ ?_ ?_ ?_ ?_
    | with_reducible refine kk_jn1 (fun k hk => ?_) ?_
    | with_reducible refine kk_jn2 (fun k hk => ?_) ?_
    | with_reducible refine kk_jn3 (fun k hk => ?_) ?_
    | with_reducible refine kk1i (fun s h => ?_)
    | with_reducible refine kk2i (fun s v h => ?_)
    | with_reducible refine kk3i (fun s v w h => ?_)
    | with_reducible refine kk4i (fun s v w x h => ?_)
    | with_reducible exact Kp.mul (by assumption)
    | with_reducible exact Kp.new (by assumption)
    | with_reducible exact kf_fX2_costOf (by first | assumption | exact Kp.mul (by assumption) | exact Kp.new (by assumption))
    | with_reducible exact kf_fX2_paidOf (by first | assumption | exact Kp.mul (by assumption) | exact Kp.new (by assumption))
    | with_reducible exact kf_fX2_lostOf (by first | assumption | exact Kp.mul (by assumption) | exact Kp.new (by assumption))
    | with_reducible exact kf_fX2_waitOf (by first | assumption | exact Kp.mul (by assumption) | exact Kp.new (by assumption))
    | with_reducible exact ih _ _ _ (by assumption)
    | with_reducible exact kk1 (by assumption) (by assumption)
    | with_reducible exact kk2 (by assumption) (by assumption)
    | with_reducible exact kk3 (by assumption) (by assumption)
    | with_reducible exact kk4 (by assumption) (by assumption))
theorem kf_fX11_sum {b : ZS} {s0 : ZS} {a0 : Int} {a1 : Int} {a2 : Int} (h : Kp b s0) : KK b (fX11_sum s0 a0 a1 a2) := by
  unfold fX11_sum
  repeat' (first
    | with_reducible assumption
    | with_reducible exact kk_none
    | with_reducible exact kk_ret (by assumption)
    | with_reducible refine kk_if ?_ ?_
    | with_reducible refine kk_p ?_ (fun s h => ?_)
    | with_reducible refine kk_as ?_ (fun s h => ?_)
    | with_reducible refine kk_na ?_ (fun s h => ?_)
    | with_reducible refine kk_pw ?_ (fun s h => ?_)
    | with_reducible refine kk_ar ?_ (fun s h => ?_)
    | with_reducible refine kk_cp ?_ (fun s h => ?_)
    | with_reducible refine kk_b ?_ (fun v s h => ?_)
    | with_reducible refine kk_g (fun v => ?_)
    | with_reducible refine kk_v ?_
    | with_reducible refine kk_w ?_ ?_ ?_ ?_ ?_ ?_
    | with_reducible refine kk_jn1 (fun k hk => ?_) ?_
    | with_reducible refine kk_jn2 (fun k hk => ?_) ?_
    | with_reducible refine kk_jn3 (fun k hk => ?_) ?_
    | with_reducible refine kk1i (fun s h => ?_)
    | with_reducible refine kk2i (fun s v h => ?_)
    | with_reducible refine kk3i (fun s v w h => ?_)
    | with_reducible refine kk4i (fun s v w x h => ?_)
    | with_reducible exact Kp.mul (by assumption)
    | with_reducible exact Kp.new (by assumption)
    | with_reducible exact kf_fX11_within (by first | assumption | exact Kp.mul (by assumption) | exact Kp.new (by assumption))
    | with_reducible exact kf_fX11_wayAt (by first | assumption | exact Kp.mul (by assumption) | exact Kp.new (by assumption))
    | with_reducible exact kf_fX2_follow (by first | assumption | exact Kp.mul (by assumption) | exact Kp.new (by assumption))
    | with_reducible refine kl_lX11_sum_36 _ _ _ _ ?_
    | with_reducible exact kk1 (by assumption) (by assumption)
    | with_reducible exact kk2 (by assumption) (by assumption)
    | with_reducible exact kk3 (by assumption) (by assumption)
    | with_reducible exact kk4 (by assumption) (by assumption))
theorem kl_lX2_aheadOf_6 {b : ZS} {u2 u3 u4 u5 : Int} : ∀ (n : Nat) (s : ZS) (x0 x1 : Int), Kp b s → KK b (lX2_aheadOf_6 u2 u3 u4 u5 n s x0 x1) := by
  intro n
  induction n with
  | zero => intro s x0 x1 h; exact kk_none
  | succ n ih =>
    intro s x0 x1 h
    rw [lX2_aheadOf_6]
    repeat' (first
    | with_reducible assumption
    | with_reducible exact kk_none
    | with_reducible exact kk_ret (by assumption)
    | with_reducible refine kk_if ?_ ?_
    | with_reducible refine kk_p ?_ (fun s h => ?_)
    | with_reducible refine kk_as ?_ (fun s h => ?_)
    | with_reducible refine kk_na ?_ (fun s h => ?_)
    | with_reducible refine kk_pw ?_ (fun s h => ?_)
    | with_reducible refine kk_ar ?_ (fun s h => ?_)
    | with_reducible refine kk_cp ?_ (fun s h => ?_)
    | with_reducible refine kk_b ?_ (fun v s h => ?_)
    | with_reducible refine kk_g (fun v => ?_)
    | with_reducible refine kk_v ?_
    | with_reducible refine kk_w ?_ ?_ ?_ ?_ ?_ ?_
    | with_reducible refine kk_jn1 (fun k hk => ?_) ?_
    | with_reducible refine kk_jn2 (fun k hk => ?_) ?_
    | with_reducible refine kk_jn3 (fun k hk => ?_) ?_
    | with_reducible refine kk1i (fun s h => ?_)
    | with_reducible refine kk2i (fun s v h => ?_)
    | with_reducible refine kk3i (fun s v w h => ?_)
    | with_reducible refine kk4i (fun s v w x h => ?_)
    | with_reducible exact Kp.mul (by assumption)
    | with_reducible exact Kp.new (by assumption)
    | with_reducible exact ih _ _ _ (by assumption)
    | with_reducible exact kk1 (by assumption) (by assumption)
    | with_reducible exact kk2 (by assumption) (by assumption)
    | with_reducible exact kk3 (by assumption) (by assumption)
    | with_reducible exact kk4 (by assumption) (by assumption))
theorem kf_fX2_aheadOf {b : ZS} {s0 : ZS} {a0 : Int} {a1 : Int} {a2 : Int} {a3 : Int} (h : Kp b s0) : KK b (fX2_aheadOf s0 a0 a1 a2 a3) := by
  unfold fX2_aheadOf
  repeat' (first
    | with_reducible assumption
    | with_reducible exact kk_none
    | with_reducible exact kk_ret (by assumption)
    | with_reducible refine kk_if ?_ ?_
    | with_reducible refine kk_p ?_ (fun s h => ?_)
    | with_reducible refine kk_as ?_ (fun s h => ?_)
    | with_reducible refine kk_na ?_ (fun s h => ?_)
    | with_reducible refine kk_pw ?_ (fun s h => ?_)
    | with_reducible refine kk_ar ?_ (fun s h => ?_)
    | with_reducible refine kk_cp ?_ (fun s h => ?_)
    | with_reducible refine kk_b ?_ (fun v s h => ?_)
    | with_reducible refine kk_g (fun v => ?_)
    | with_reducible refine kk_v ?_
    | with_reducible refine kk_w ?_ ?_ ?_ ?_ ?_ ?_
    | with_reducible refine kk_jn1 (fun k hk => ?_) ?_
    | with_reducible refine kk_jn2 (fun k hk => ?_) ?_
    | with_reducible refine kk_jn3 (fun k hk => ?_) ?_
    | with_reducible refine kk1i (fun s h => ?_)
    | with_reducible refine kk2i (fun s v h => ?_)
    | with_reducible refine kk3i (fun s v w h => ?_)
    | with_reducible refine kk4i (fun s v w x h => ?_)
    | with_reducible exact Kp.mul (by assumption)
    | with_reducible exact Kp.new (by assumption)
    | with_reducible refine kl_lX2_aheadOf_6 _ _ _ _ ?_
    | with_reducible exact kk1 (by assumption) (by assumption)
    | with_reducible exact kk2 (by assumption) (by assumption)
    | with_reducible exact kk3 (by assumption) (by assumption)
    | with_reducible exact kk4 (by assumption) (by assumption))
theorem kl_lX2_minuteAmongOthers_65 {b : ZS} {u23 u24 u25 u26 u28 u29 : Int} {K87 : ZS → Int → Option (Int × ZS)} (hkK87 : KK2 b K87) : ∀ (n : Nat) (s : ZS) (x0 x1 : Int), Kp b s → KK b (lX2_minuteAmongOthers_65 u23 u24 u25 u26 u28 u29 K87 n s x0 x1) := by
  intro n
  induction n with
  | zero => intro s x0 x1 h; exact kk_none
  | succ n ih =>
    intro s x0 x1 h
    rw [lX2_minuteAmongOthers_65]
    repeat' (first
    | with_reducible assumption
    | with_reducible exact kk_none
    | with_reducible exact kk_ret (by assumption)
    | with_reducible refine kk_if ?_ ?_
    | with_reducible refine kk_p ?_ (fun s h => ?_)
    | with_reducible refine kk_as ?_ (fun s h => ?_)
    | with_reducible refine kk_na ?_ (fun s h => ?_)
    | with_reducible refine kk_pw ?_ (fun s h => ?_)
    | with_reducible refine kk_ar ?_ (fun s h => ?_)
    | with_reducible refine kk_cp ?_ (fun s h => ?_)
    | with_reducible refine kk_b ?_ (fun v s h => ?_)
    | with_reducible refine kk_g (fun v => ?_)
    | with_reducible refine kk_v ?_
    | with_reducible refine kk_w ?_ ?_ ?_ ?_ ?_ ?_
    | with_reducible refine kk_jn1 (fun k hk => ?_) ?_
    | with_reducible refine kk_jn2 (fun k hk => ?_) ?_
    | with_reducible refine kk_jn3 (fun k hk => ?_) ?_
    | with_reducible refine kk1i (fun s h => ?_)
    | with_reducible refine kk2i (fun s v h => ?_)
    | with_reducible refine kk3i (fun s v w h => ?_)
    | with_reducible refine kk4i (fun s v w x h => ?_)
    | with_reducible exact Kp.mul (by assumption)
    | with_reducible exact Kp.new (by assumption)
    | with_reducible exact ih _ _ _ (by assumption)
    | with_reducible exact kk1 (by assumption) (by assumption)
    | with_reducible exact kk2 (by assumption) (by assumption)
    | with_reducible exact kk3 (by assumption) (by assumption)
    | with_reducible exact kk4 (by assumption) (by assumption))
theorem kl_lX2_minuteAmongOthers_6 {b : ZS} {u2 u3 u4 u5 : Int} : ∀ (n : Nat) (s : ZS) (x0 x1 : Int), Kp b s → KK b (lX2_minuteAmongOthers_6 u2 u3 u4 u5 n s x0 x1) := by
  intro n
  induction n with
  | zero => intro s x0 x1 h; exact kk_none
  | succ n ih =>
    intro s x0 x1 h
    rw [lX2_minuteAmongOthers_6]
    repeat' (first
    | with_reducible assumption
    | with_reducible exact kk_none
    | with_reducible exact kk_ret (by assumption)
    | with_reducible refine kk_if ?_ ?_
    | with_reducible refine kk_p ?_ (fun s h => ?_)
    | with_reducible refine kk_as ?_ (fun s h => ?_)
    | with_reducible refine kk_na ?_ (fun s h => ?_)
    | with_reducible refine kk_pw ?_ (fun s h => ?_)
    | with_reducible refine kk_ar ?_ (fun s h => ?_)
    | with_reducible refine kk_cp ?_ (fun s h => ?_)
    | with_reducible refine kk_b ?_ (fun v s h => ?_)
    | with_reducible refine kk_g (fun v => ?_)
    | with_reducible refine kk_v ?_
    | with_reducible refine kk_w ?_ ?_ ?_ ?_ ?_ ?_
    | with_reducible refine kk_jn1 (fun k hk => ?_) ?_
    | with_reducible refine kk_jn2 (fun k hk => ?_) ?_
    | with_reducible refine kk_jn3 (fun k hk => ?_) ?_
    | with_reducible refine kk1i (fun s h => ?_)
    | with_reducible refine kk2i (fun s v h => ?_)
    | with_reducible refine kk3i (fun s v w h => ?_)
    | with_reducible refine kk4i (fun s v w x h => ?_)
    | with_reducible exact Kp.mul (by assumption)
    | with_reducible exact Kp.new (by assumption)
    | with_reducible exact kf_fJ6_bitCount_0f7a4 (by first | assumption | exact Kp.mul (by assumption) | exact Kp.new (by assumption))
    | with_reducible refine kl_lX2_minuteAmongOthers_65 ?_ _ _ _ _ ?_
    | with_reducible exact ih _ _ _ (by assumption)
    | with_reducible exact kk1 (by assumption) (by assumption)
    | with_reducible exact kk2 (by assumption) (by assumption)
    | with_reducible exact kk3 (by assumption) (by assumption)
    | with_reducible exact kk4 (by assumption) (by assumption))
theorem kf_fX2_minuteAmongOthers {b : ZS} {s0 : ZS} {a0 : Int} {a1 : Int} {a2 : Int} {a3 : Int} (h : Kp b s0) : KK b (fX2_minuteAmongOthers s0 a0 a1 a2 a3) := by
  unfold fX2_minuteAmongOthers
  repeat' (first
    | with_reducible assumption
    | with_reducible exact kk_none
    | with_reducible exact kk_ret (by assumption)
    | with_reducible refine kk_if ?_ ?_
    | with_reducible refine kk_p ?_ (fun s h => ?_)
    | with_reducible refine kk_as ?_ (fun s h => ?_)
    | with_reducible refine kk_na ?_ (fun s h => ?_)
    | with_reducible refine kk_pw ?_ (fun s h => ?_)
    | with_reducible refine kk_ar ?_ (fun s h => ?_)
    | with_reducible refine kk_cp ?_ (fun s h => ?_)
    | with_reducible refine kk_b ?_ (fun v s h => ?_)
    | with_reducible refine kk_g (fun v => ?_)
    | with_reducible refine kk_v ?_
    | with_reducible refine kk_w ?_ ?_ ?_ ?_ ?_ ?_
    | with_reducible refine kk_jn1 (fun k hk => ?_) ?_
    | with_reducible refine kk_jn2 (fun k hk => ?_) ?_
    | with_reducible refine kk_jn3 (fun k hk => ?_) ?_
    | with_reducible refine kk1i (fun s h => ?_)
    | with_reducible refine kk2i (fun s v h => ?_)
    | with_reducible refine kk3i (fun s v w h => ?_)
    | with_reducible refine kk4i (fun s v w x h => ?_)
    | with_reducible exact Kp.mul (by assumption)
    | with_reducible exact Kp.new (by assumption)
    | with_reducible refine kl_lX2_minuteAmongOthers_6 _ _ _ _ ?_
    | with_reducible exact kk1 (by assumption) (by assumption)
    | with_reducible exact kk2 (by assumption) (by assumption)
    | with_reducible exact kk3 (by assumption) (by assumption)
    | with_reducible exact kk4 (by assumption) (by assumption))
theorem kf_fX2_costIf {b : ZS} {s0 : ZS} {a0 : Int} {a1 : Int} {a2 : Int} {a3 : Int} {a4 : Int} (h : Kp b s0) : KK b (fX2_costIf s0 a0 a1 a2 a3 a4) := by
  unfold fX2_costIf
  repeat' (first
    | with_reducible assumption
    | with_reducible exact kk_none
    | with_reducible exact kk_ret (by assumption)
    | with_reducible refine kk_if ?_ ?_
    | with_reducible refine kk_p ?_ (fun s h => ?_)
    | with_reducible refine kk_as ?_ (fun s h => ?_)
    | with_reducible refine kk_na ?_ (fun s h => ?_)
    | with_reducible refine kk_pw ?_ (fun s h => ?_)
    | with_reducible refine kk_ar ?_ (fun s h => ?_)
    | with_reducible refine kk_cp ?_ (fun s h => ?_)
    | with_reducible refine kk_b ?_ (fun v s h => ?_)
    | with_reducible refine kk_g (fun v => ?_)
    | with_reducible refine kk_v ?_
    | with_reducible refine kk_w ?_ ?_ ?_ ?_ ?_ ?_
    | with_reducible refine kk_jn1 (fun k hk => ?_) ?_
    | with_reducible refine kk_jn2 (fun k hk => ?_) ?_
    | with_reducible refine kk_jn3 (fun k hk => ?_) ?_
    | with_reducible refine kk1i (fun s h => ?_)
    | with_reducible refine kk2i (fun s v h => ?_)
    | with_reducible refine kk3i (fun s v w h => ?_)
    | with_reducible refine kk4i (fun s v w x h => ?_)
    | with_reducible exact Kp.mul (by assumption)
    | with_reducible exact Kp.new (by assumption)
    | with_reducible exact kf_fX2_cameBy (by first | assumption | exact Kp.mul (by assumption) | exact Kp.new (by assumption))
    | with_reducible exact kf_fX3_order (by first | assumption | exact Kp.mul (by assumption) | exact Kp.new (by assumption))
    | with_reducible exact kf_fX0_order (by first | assumption | exact Kp.mul (by assumption) | exact Kp.new (by assumption))
    | with_reducible exact kf_fX10_order (by first | assumption | exact Kp.mul (by assumption) | exact Kp.new (by assumption))
    | with_reducible exact kf_fX1_order (by first | assumption | exact Kp.mul (by assumption) | exact Kp.new (by assumption))
    | with_reducible exact kf_fX7_order (by first | assumption | exact Kp.mul (by assumption) | exact Kp.new (by assumption))
    | with_reducible exact kf_fX2_cost (by first | assumption | exact Kp.mul (by assumption) | exact Kp.new (by assumption))
    | with_reducible exact kf_fX2_aheadOf (by first | assumption | exact Kp.mul (by assumption) | exact Kp.new (by assumption))
    | with_reducible exact kf_fX2_minuteAmongOthers (by first | assumption | exact Kp.mul (by assumption) | exact Kp.new (by assumption))
    | with_reducible exact kk1 (by assumption) (by assumption)
    | with_reducible exact kk2 (by assumption) (by assumption)
    | with_reducible exact kk3 (by assumption) (by assumption)
    | with_reducible exact kk4 (by assumption) (by assumption))
theorem kl_lX11_findRestless_54 {b : ZS} {u22 u23 u24 u25 u26 : Int} {K98 : ZS → Int → Option (Int × ZS)} (hkK98 : KK2 b K98) : ∀ (n : Nat) (s : ZS) (x0 x1 : Int), Kp b s → KK b (lX11_findRestless_54 u22 u23 u24 u25 u26 K98 n s x0 x1) := by
  intro n
  induction n with
  | zero => intro s x0 x1 h; exact kk_none
  | succ n ih =>
    intro s x0 x1 h
    rw [lX11_findRestless_54]
    repeat' (first
    | with_reducible assumption
    | with_reducible exact kk_none
    | with_reducible exact kk_ret (by assumption)
    | with_reducible refine kk_if ?_ ?_
    | with_reducible refine kk_p ?_ (fun s h => ?_)
    | with_reducible refine kk_as ?_ (fun s h => ?_)
    | with_reducible refine kk_na ?_ (fun s h => ?_)
    | with_reducible refine kk_pw ?_ (fun s h => ?_)
    | with_reducible refine kk_ar ?_ (fun s h => ?_)
    | with_reducible refine kk_cp ?_ (fun s h => ?_)
    | with_reducible refine kk_b ?_ (fun v s h => ?_)
    | with_reducible refine kk_g (fun v => ?_)
    | with_reducible refine kk_v ?_
    | with_reducible refine kk_w ?_ ?_ ?_ ?_ ?_ ?_
    | with_reducible refine kk_jn1 (fun k hk => ?_) ?_
    | with_reducible refine kk_jn2 (fun k hk => ?_) ?_
    | with_reducible refine kk_jn3 (fun k hk => ?_) ?_
    | with_reducible refine kk1i (fun s h => ?_)
    | with_reducible refine kk2i (fun s v h => ?_)
    | with_reducible refine kk3i (fun s v w h => ?_)
    | with_reducible refine kk4i (fun s v w x h => ?_)
    | with_reducible exact Kp.mul (by assumption)
    | with_reducible exact Kp.new (by assumption)
    | with_reducible exact kf_fX2_costIf (by first | assumption | exact Kp.mul (by assumption) | exact Kp.new (by assumption))
    | with_reducible exact ih _ _ _ (by assumption)
    | with_reducible exact kk1 (by assumption) (by assumption)
    | with_reducible exact kk2 (by assumption) (by assumption)
    | with_reducible exact kk3 (by assumption) (by assumption)
    | with_reducible exact kk4 (by assumption) (by assumption))
theorem kl_lX11_findRestless_12 {b : ZS} {u5 u6 u7 : Int} {K105 : ZS → Int → Int → Int → Option (Int × ZS)} (hkK105 : KK4 b K105) : ∀ (n : Nat) (s : ZS) (x0 : Int), Kp b s → KK b (lX11_findRestless_12 u5 u6 u7 K105 n s x0) := by
  intro n
  induction n with
  | zero => intro s x0 h; exact kk_none
  | succ n ih =>
    intro s x0 h
    rw [lX11_findRestless_12]
    repeat' (first
    | with_reducible assumption
    | with_reducible exact kk_none
    | with_reducible exact kk_ret (by assumption)
    | with_reducible refine kk_if ?_ ?_
    | with_reducible refine kk_p ?_ (fun s h => ?_)
    | with_reducible refine kk_as ?_ (fun s h => ?_)
    | with_reducible refine kk_na ?_ (fun s h => ?_)
    | with_reducible refine kk_pw ?_ (fun s h => ?_)
    | with_reducible refine kk_ar ?_ (fun s h => ?_)
    | with_reducible refine kk_cp ?_ (fun s h => ?_)
    | with_reducible refine kk_b ?_ (fun v s h => ?_)
    | with_reducible refine kk_g (fun v => ?_)
    | with_reducible refine kk_v ?_
    | with_reducible refine kk_w ?_ ?_ ?_ ?_ ?_ ?_
    | with_reducible refine kk_jn1 (fun k hk => ?_) ?_
    | with_reducible refine kk_jn2 (fun k hk => ?_) ?_
    | with_reducible refine kk_jn3 (fun k hk => ?_) ?_
    | with_reducible refine kk1i (fun s h => ?_)
    | with_reducible refine kk2i (fun s v h => ?_)
    | with_reducible refine kk3i (fun s v w h => ?_)
    | with_reducible refine kk4i (fun s v w x h => ?_)
    | with_reducible exact Kp.mul (by assumption)
    | with_reducible exact Kp.new (by assumption)
    | with_reducible exact kf_fX2_gather (by first | assumption | exact Kp.mul (by assumption) | exact Kp.new (by assumption))
    | with_reducible exact kf_fX2_costIf (by first | assumption | exact Kp.mul (by assumption) | exact Kp.new (by assumption))
    | with_reducible refine kl_lX11_findRestless_54 ?_ _ _ _ _ ?_
    | with_reducible exact ih _ _ (by assumption)
    | with_reducible exact kk1 (by assumption) (by assumption)
    | with_reducible exact kk2 (by assumption) (by assumption)
    | with_reducible exact kk3 (by assumption) (by assumption)
    | with_reducible exact kk4 (by assumption) (by assumption))
theorem kf_fX11_findRestless {b : ZS} {s0 : ZS} {a0 : Int} {a1 : Int} (h : Kp b s0) : KK b (fX11_findRestless s0 a0 a1) := by
  unfold fX11_findRestless
  repeat' (first
    | with_reducible assumption
    | with_reducible exact kk_none
    | with_reducible exact kk_ret (by assumption)
    | with_reducible refine kk_if ?_ ?_
    | with_reducible refine kk_p ?_ (fun s h => ?_)
    | with_reducible refine kk_as ?_ (fun s h => ?_)
    | with_reducible refine kk_na ?_ (fun s h => ?_)
    | with_reducible refine kk_pw ?_ (fun s h => ?_)
    | with_reducible refine kk_ar ?_ (fun s h => ?_)
    | with_reducible refine kk_cp ?_ (fun s h => ?_)
    | with_reducible refine kk_b ?_ (fun v s h => ?_)
    | with_reducible refine kk_g (fun v => ?_)
    | with_reducible refine kk_v ?_
    | with_reducible refine kk_w ?_ ?_ ?_ ?_ ?_ ?_
    | with_reducible refine kk_jn1 (fun k hk => ?_) ?_
    | with_reducible refine kk_jn2 (fun k hk => ?_) ?_
    | with_reducible refine kk_jn3 (fun k hk => ?_) ?_
    | with_reducible refine kk1i (fun s h => ?_)
    | with_reducible refine kk2i (fun s v h => ?_)
    | with_reducible refine kk3i (fun s v w h => ?_)
    | with_reducible refine kk4i (fun s v w x h => ?_)
    | with_reducible exact Kp.mul (by assumption)
    | with_reducible exact Kp.new (by assumption)
    | with_reducible refine kl_lX11_findRestless_12 ?_ _ _ _ ?_
    | with_reducible exact kk1 (by assumption) (by assumption)
    | with_reducible exact kk2 (by assumption) (by assumption)
    | with_reducible exact kk3 (by assumption) (by assumption)
    | with_reducible exact kk4 (by assumption) (by assumption))
theorem kf_fX11_judge {b : ZS} {s0 : ZS} {a0 : Int} {a1 : Int} {a2 : Int} (h : Kp b s0) : KK b (fX11_judge s0 a0 a1 a2) := by
  unfold fX11_judge
  repeat' (first
    | with_reducible assumption
    | with_reducible exact kk_none
    | with_reducible exact kk_ret (by assumption)
    | with_reducible refine kk_if ?_ ?_
    | with_reducible refine kk_p ?_ (fun s h => ?_)
    | with_reducible refine kk_as ?_ (fun s h => ?_)
    | with_reducible refine kk_na ?_ (fun s h => ?_)
    | with_reducible refine kk_pw ?_ (fun s h => ?_)
    | with_reducible refine kk_ar ?_ (fun s h => ?_)
    | with_reducible refine kk_cp ?_ (fun s h => ?_)
    | with_reducible refine kk_b ?_ (fun v s h => ?_)
    | with_reducible refine kk_g (fun v => ?_)
    | with_reducible refine kk_v ?_
    | with_reducible refine kk_w ?_ ?_ ?_ ?_ ?_ ?_
    | with_reducible refine kk_jn1 (fun k hk => ?_) ?_
    | with_reducible refine kk_jn2 (fun k hk => ?_) ?_
    | with_reducible refine kk_jn3 (fun k hk => ?_) ?_
    | with_reducible refine kk1i (fun s h => ?_)
    | with_reducible refine kk2i (fun s v h => ?_)
    | with_reducible refine kk3i (fun s v w h => ?_)
    | with_reducible refine kk4i (fun s v w x h => ?_)
    | with_reducible exact Kp.mul (by assumption)
    | with_reducible exact Kp.new (by assumption)
    | with_reducible exact kf_fX11_within (by first | assumption | exact Kp.mul (by assumption) | exact Kp.new (by assumption))
    | with_reducible exact kf_fX11_wayAt (by first | assumption | exact Kp.mul (by assumption) | exact Kp.new (by assumption))
    | with_reducible exact kf_fX11_findRestless (by first | assumption | exact Kp.mul (by assumption) | exact Kp.new (by assumption))
    | with_reducible exact kk1 (by assumption) (by assumption)
    | with_reducible exact kk2 (by assumption) (by assumption)
    | with_reducible exact kk3 (by assumption) (by assumption)
    | with_reducible exact kk4 (by assumption) (by assumption))
theorem kf_fX11_makesMove {b : ZS} {s0 : ZS} {a0 : Int} {a1 : Int} (h : Kp b s0) : KK b (fX11_makesMove s0 a0 a1) := by
  unfold fX11_makesMove
  repeat' (first
    | with_reducible assumption
    | with_reducible exact kk_none
    | with_reducible exact kk_ret (by assumption)
    | with_reducible refine kk_if ?_ ?_
    | with_reducible refine kk_p ?_ (fun s h => ?_)
    | with_reducible refine kk_as ?_ (fun s h => ?_)
    | with_reducible refine kk_na ?_ (fun s h => ?_)
    | with_reducible refine kk_pw ?_ (fun s h => ?_)
    | with_reducible refine kk_ar ?_ (fun s h => ?_)
    | with_reducible refine kk_cp ?_ (fun s h => ?_)
    | with_reducible refine kk_b ?_ (fun v s h => ?_)
    | with_reducible refine kk_g (fun v => ?_)
    | with_reducible refine kk_v ?_
    | with_reducible refine kk_w ?_ ?_ ?_ ?_ ?_ ?_
    | with_reducible refine kk_jn1 (fun k hk => ?_) ?_
    | with_reducible refine kk_jn2 (fun k hk => ?_) ?_
    | with_reducible refine kk_jn3 (fun k hk => ?_) ?_
    | with_reducible refine kk1i (fun s h => ?_)
    | with_reducible refine kk2i (fun s v h => ?_)
    | with_reducible refine kk3i (fun s v w h => ?_)
    | with_reducible refine kk4i (fun s v w x h => ?_)
    | with_reducible exact Kp.mul (by assumption)
    | with_reducible exact Kp.new (by assumption)
    | with_reducible exact kf_fX11_findRestless (by first | assumption | exact Kp.mul (by assumption) | exact Kp.new (by assumption))
    | with_reducible exact kk1 (by assumption) (by assumption)
    | with_reducible exact kk2 (by assumption) (by assumption)
    | with_reducible exact kk3 (by assumption) (by assumption)
    | with_reducible exact kk4 (by assumption) (by assumption))
theorem kl_lX11_rest_28 {b : ZS} {u10 u11 u12 : Int} : ∀ (n : Nat) (s : ZS) (x0 : Int), Kp b s → KK b (lX11_rest_28 u10 u11 u12 n s x0) := by
  intro n
  induction n with
  | zero => intro s x0 h; exact kk_none
  | succ n ih =>
    intro s x0 h
    rw [lX11_rest_28]
    repeat' (first
    | with_reducible assumption
    | with_reducible exact kk_none
    | with_reducible exact kk_ret (by assumption)
    | with_reducible refine kk_if ?_ ?_
    | with_reducible refine kk_p ?_ (fun s h => ?_)
    | with_reducible refine kk_as ?_ (fun s h => ?_)
    | with_reducible refine kk_na ?_ (fun s h => ?_)
    | with_reducible refine kk_pw ?_ (fun s h => ?_)
    | with_reducible refine kk_ar ?_ (fun s h => ?_)
    | with_reducible refine kk_cp ?_ (fun s h => ?_)
    | with_reducible refine kk_b ?_ (fun v s h => ?_)
    | with_reducible refine kk_g (fun v => ?_)
    | with_reducible refine kk_v ?_
    | with_reducible refine kk_w ?_ ?_ ?_ ?_ ?_ ?_
    | with_reducible refine kk_jn1 (fun k hk => ?_) ?_
    | with_reducible refine kk_jn2 (fun k hk => ?_) ?_
    | with_reducible refine kk_jn3 (fun k hk => ?_) ?_
    | with_reducible refine kk1i (fun s h => ?_)
    | with_reducible refine kk2i (fun s v h => ?_)
    | with_reducible refine kk3i (fun s v w h => ?_)
    | with_reducible refine kk4i (fun s v w x h => ?_)
    | with_reducible exact Kp.mul (by assumption)
    | with_reducible exact Kp.new (by assumption)
    | with_reducible exact kf_fX11_makesMove (by first | assumption | exact Kp.mul (by assumption) | exact Kp.new (by assumption))
    | with_reducible exact ih _ _ (by assumption)
    | with_reducible exact kk1 (by assumption) (by assumption)
    | with_reducible exact kk2 (by assumption) (by assumption)
    | with_reducible exact kk3 (by assumption) (by assumption)
    | with_reducible exact kk4 (by assumption) (by assumption))
theorem kf_fX11_rest {b : ZS} {s0 : ZS} {a0 : Int} {a1 : Int} {a2 : Int} (h : Kp b s0) : KK b (fX11_rest s0 a0 a1 a2) := by
  unfold fX11_rest
  repeat' (first
    | with_reducible assumption
    | with_reducible exact kk_none
    | with_reducible exact kk_ret (by assumption)
    | with_reducible refine kk_if ?_ ?_
    | with_reducible refine kk_p ?_ (fun s h => ?_)
    | with_reducible refine kk_as ?_ (fun s h => ?_)
    | with_reducible refine kk_na ?_ (fun s h => ?_)
    | with_reducible refine kk_pw ?_ (fun s h => ?_)
    | with_reducible refine kk_ar ?_ (fun s h => ?_)
    | with_reducible refine kk_cp ?_ (fun s h => ?_)
    | with_reducible refine kk_b ?_ (fun v s h => ?_)
    | with_reducible refine kk_g (fun v => ?_)
    | with_reducible refine kk_v ?_
    | with_reducible refine kk_w ?_ ?_ ?_ ?_ ?_ ?_
    | with_reducible refine kk_jn1 (fun k hk => ?_) ?_
    | with_reducible refine kk_jn2 (fun k hk => ?_) ?_
    | with_reducible refine kk_jn3 (fun k hk => ?_) ?_
    | with_reducible refine kk1i (fun s h => ?_)
    | with_reducible refine kk2i (fun s v h => ?_)
    | with_reducible refine kk3i (fun s v w h => ?_)
    | with_reducible refine kk4i (fun s v w x h => ?_)
    | with_reducible exact Kp.mul (by assumption)
    | with_reducible exact Kp.new (by assumption)
    | with_reducible exact kf_fX11_within (by first | assumption | exact Kp.mul (by assumption) | exact Kp.new (by assumption))
    | with_reducible exact kf_fX11_wayAt (by first | assumption | exact Kp.mul (by assumption) | exact Kp.new (by assumption))
    | with_reducible refine kl_lX11_rest_28 _ _ _ ?_
    | with_reducible exact kk1 (by assumption) (by assumption)
    | with_reducible exact kk2 (by assumption) (by assumption)
    | with_reducible exact kk3 (by assumption) (by assumption)
    | with_reducible exact kk4 (by assumption) (by assumption))
theorem kf_fX11_other {b : ZS} {s0 : ZS} {a0 : Int} {a1 : Int} {a2 : Int} {a3 : Int} (h : Kp b s0) : KK b (fX11_other s0 a0 a1 a2 a3) := by
  unfold fX11_other
  repeat' (first
    | with_reducible assumption
    | with_reducible exact kk_none
    | with_reducible exact kk_ret (by assumption)
    | with_reducible refine kk_if ?_ ?_
    | with_reducible refine kk_p ?_ (fun s h => ?_)
    | with_reducible refine kk_as ?_ (fun s h => ?_)
    | with_reducible refine kk_na ?_ (fun s h => ?_)
    | with_reducible refine kk_pw ?_ (fun s h => ?_)
    | with_reducible refine kk_ar ?_ (fun s h => ?_)
    | with_reducible refine kk_cp ?_ (fun s h => ?_)
    | with_reducible refine kk_b ?_ (fun v s h => ?_)
    | with_reducible refine kk_g (fun v => ?_)
    | with_reducible refine kk_v ?_
    | with_reducible refine kk_w ?_ ?_ ?_ ?_ ?_ ?_
    | with_reducible refine kk_jn1 (fun k hk => ?_) ?_
    | with_reducible refine kk_jn2 (fun k hk => ?_) ?_
    | with_reducible refine kk_jn3 (fun k hk => ?_) ?_
    | with_reducible refine kk1i (fun s h => ?_)
    | with_reducible refine kk2i (fun s v h => ?_)
    | with_reducible refine kk3i (fun s v w h => ?_)
    | with_reducible refine kk4i (fun s v w x h => ?_)
    | with_reducible exact Kp.mul (by assumption)
    | with_reducible exact Kp.new (by assumption)
    | with_reducible exact kf_fX11_within (by first | assumption | exact Kp.mul (by assumption) | exact Kp.new (by assumption))
    | with_reducible exact kf_fX11_wayAt (by first | assumption | exact Kp.mul (by assumption) | exact Kp.new (by assumption))
    | with_reducible exact kf_fX10_isFor (by first | assumption | exact Kp.mul (by assumption) | exact Kp.new (by assumption))
    | with_reducible exact kf_fX2_gather (by first | assumption | exact Kp.mul (by assumption) | exact Kp.new (by assumption))
    | with_reducible exact kf_fX2_costIf (by first | assumption | exact Kp.mul (by assumption) | exact Kp.new (by assumption))
    | with_reducible exact kk1 (by assumption) (by assumption)
    | with_reducible exact kk2 (by assumption) (by assumption)
    | with_reducible exact kk3 (by assumption) (by assumption)
    | with_reducible exact kk4 (by assumption) (by assumption))
theorem kf_fX10_exchange {b : ZS} {s0 : ZS} {a0 : Int} {a1 : Int} {a2 : Int} (h : Kp b s0) : KK b (fX10_exchange s0 a0 a1 a2) := by
  unfold fX10_exchange
  repeat' (first
    | with_reducible assumption
    | with_reducible exact kk_none
    | with_reducible exact kk_ret (by assumption)
    | with_reducible refine kk_if ?_ ?_
    | with_reducible refine kk_p ?_ (fun s h => ?_)
    | with_reducible refine kk_as ?_ (fun s h => ?_)
    | with_reducible refine kk_na ?_ (fun s h => ?_)
    | with_reducible refine kk_pw ?_ (fun s h => ?_)
    | with_reducible refine kk_ar ?_ (fun s h => ?_)
    | with_reducible refine kk_cp ?_ (fun s h => ?_)
    | with_reducible refine kk_b ?_ (fun v s h => ?_)
    | with_reducible refine kk_g (fun v => ?_)
    | with_reducible refine kk_v ?_
    | with_reducible refine kk_w ?_ ?_ ?_ ?_ ?_ ?_
    | with_reducible refine kk_jn1 (fun k hk => ?_) ?_
    | with_reducible refine kk_jn2 (fun k hk => ?_) ?_
    | with_reducible refine kk_jn3 (fun k hk => ?_) ?_
    | with_reducible refine kk1i (fun s h => ?_)
    | with_reducible refine kk2i (fun s v h => ?_)
    | with_reducible refine kk3i (fun s v w h => ?_)
    | with_reducible refine kk4i (fun s v w x h => ?_)
    | with_reducible exact Kp.mul (by assumption)
    | with_reducible exact Kp.new (by assumption)
    | with_reducible exact kk1 (by assumption) (by assumption)
    | with_reducible exact kk2 (by assumption) (by assumption)
    | with_reducible exact kk3 (by assumption) (by assumption)
    | with_reducible exact kk4 (by assumption) (by assumption))
theorem kf_fX11_swap {b : ZS} {s0 : ZS} {a0 : Int} {a1 : Int} {a2 : Int} {a3 : Int} (h : Kp b s0) : KK b (fX11_swap s0 a0 a1 a2 a3) := by
  unfold fX11_swap
  repeat' (first
    | with_reducible assumption
    | with_reducible exact kk_none
    | with_reducible exact kk_ret (by assumption)
    | with_reducible refine kk_if ?_ ?_
    | with_reducible refine kk_p ?_ (fun s h => ?_)
    | with_reducible refine kk_as ?_ (fun s h => ?_)
    | with_reducible refine kk_na ?_ (fun s h => ?_)
    | with_reducible refine kk_pw ?_ (fun s h => ?_)
    | with_reducible refine kk_ar ?_ (fun s h => ?_)
    | with_reducible refine kk_cp ?_ (fun s h => ?_)
    | with_reducible refine kk_b ?_ (fun v s h => ?_)
    | with_reducible refine kk_g (fun v => ?_)
    | with_reducible refine kk_v ?_
    | with_reducible refine kk_w ?_ ?_ ?_ ?_ ?_ ?_
    | with_reducible refine kk_jn1 (fun k hk => ?_) ?_
    | with_reducible refine kk_jn2 (fun k hk => ?_) ?_
    | with_reducible refine kk_jn3 (fun k hk => ?_) ?_
    | with_reducible refine kk1i (fun s h => ?_)
    | with_reducible refine kk2i (fun s v h => ?_)
    | with_reducible refine kk3i (fun s v w h => ?_)
    | with_reducible refine kk4i (fun s v w x h => ?_)
    | with_reducible exact Kp.mul (by assumption)
    | with_reducible exact Kp.new (by assumption)
    | with_reducible exact kf_fX11_wayAt (by first | assumption | exact Kp.mul (by assumption) | exact Kp.new (by assumption))
    | with_reducible exact kf_fX10_isFor (by first | assumption | exact Kp.mul (by assumption) | exact Kp.new (by assumption))
    | with_reducible exact kf_fX2_follow (by first | assumption | exact Kp.mul (by assumption) | exact Kp.new (by assumption))
    | with_reducible exact kf_fX2_costOf (by first | assumption | exact Kp.mul (by assumption) | exact Kp.new (by assumption))
    | with_reducible exact kf_fX10_exchange (by first | assumption | exact Kp.mul (by assumption) | exact Kp.new (by assumption))
    | with_reducible exact kk1 (by assumption) (by assumption)
    | with_reducible exact kk2 (by assumption) (by assumption)
    | with_reducible exact kk3 (by assumption) (by assumption)
    | with_reducible exact kk4 (by assumption) (by assumption))
theorem kl_lX11_costOfAll_13 {b : ZS} {u6 u7 : Int} : ∀ (n : Nat) (s : ZS) (x0 x1 : Int), Kp b s → KK b (lX11_costOfAll_13 u6 u7 n s x0 x1) := by
  intro n
  induction n with
  | zero => intro s x0 x1 h; exact kk_none
  | succ n ih =>
    intro s x0 x1 h
    rw [lX11_costOfAll_13]
    repeat' (first
    | with_reducible assumption
    | with_reducible exact kk_none
    | with_reducible exact kk_ret (by assumption)
    | with_reducible refine kk_if ?_ ?_
    | with_reducible refine kk_p ?_ (fun s h => ?_)
    | with_reducible refine kk_as ?_ (fun s h => ?_)
    | with_reducible refine kk_na ?_ (fun s h => ?_)
    | with_reducible refine kk_pw ?_ (fun s h => ?_)
    | with_reducible refine kk_ar ?_ (fun s h => ?_)
    | with_reducible refine kk_cp ?_ (fun s h => ?_)
    | with_reducible refine kk_b ?_ (fun v s h => ?_)
    | with_reducible refine kk_g (fun v => ?_)
    | with_reducible refine kk_v ?_
    | with_reducible refine kk_w ?_ ?_ ?_ ?_ ?_ ?_
    | with_reducible refine kk_jn1 (fun k hk => ?_) ?_
    | with_reducible refine kk_jn2 (fun k hk => ?_) ?_
    | with_reducible refine kk_jn3 (fun k hk => ?_) ?_
    | with_reducible refine kk1i (fun s h => ?_)
    | with_reducible refine kk2i (fun s v h => ?_)
    | with_reducible refine kk3i (fun s v w h => ?_)
    | with_reducible refine kk4i (fun s v w x h => ?_)
    | with_reducible exact Kp.mul (by assumption)
    | with_reducible exact Kp.new (by assumption)
    | with_reducible exact kf_fX2_costOf (by first | assumption | exact Kp.mul (by assumption) | exact Kp.new (by assumption))
    | with_reducible exact ih _ _ _ (by assumption)
    | with_reducible exact kk1 (by assumption) (by assumption)
    | with_reducible exact kk2 (by assumption) (by assumption)
    | with_reducible exact kk3 (by assumption) (by assumption)
    | with_reducible exact kk4 (by assumption) (by assumption))
theorem kf_fX11_costOfAll {b : ZS} {s0 : ZS} {a0 : Int} {a1 : Int} (h : Kp b s0) : KK b (fX11_costOfAll s0 a0 a1) := by
  unfold fX11_costOfAll
  repeat' (first
    | with_reducible assumption
    | with_reducible exact kk_none
    | with_reducible exact kk_ret (by assumption)
    | with_reducible refine kk_if ?_ ?_
    | with_reducible refine kk_p ?_ (fun s h => ?_)
    | with_reducible refine kk_as ?_ (fun s h => ?_)
    | with_reducible refine kk_na ?_ (fun s h => ?_)
    | with_reducible refine kk_pw ?_ (fun s h => ?_)
    | with_reducible refine kk_ar ?_ (fun s h => ?_)
    | with_reducible refine kk_cp ?_ (fun s h => ?_)
    | with_reducible refine kk_b ?_ (fun v s h => ?_)
    | with_reducible refine kk_g (fun v => ?_)
    | with_reducible refine kk_v ?_
    | with_reducible refine kk_w ?_ ?_ ?_ ?_ ?_ ?_
    | with_reducible refine kk_jn1 (fun k hk => ?_) ?_
    | with_reducible refine kk_jn2 (fun k hk => ?_) ?_
    | with_reducible refine kk_jn3 (fun k hk => ?_) ?_
    | with_reducible refine kk1i (fun s h => ?_)
    | with_reducible refine kk2i (fun s v h => ?_)
    | with_reducible refine kk3i (fun s v w h => ?_)
    | with_reducible refine kk4i (fun s v w x h => ?_)
    | with_reducible exact Kp.mul (by assumption)
    | with_reducible exact Kp.new (by assumption)
    | with_reducible exact kf_fX2_follow (by first | assumption | exact Kp.mul (by assumption) | exact Kp.new (by assumption))
    | with_reducible refine kl_lX11_costOfAll_13 _ _ _ _ ?_
    | with_reducible exact kk1 (by assumption) (by assumption)
    | with_reducible exact kk2 (by assumption) (by assumption)
    | with_reducible exact kk3 (by assumption) (by assumption)
    | with_reducible exact kk4 (by assumption) (by assumption))
theorem kf_fX11_costWithRate {b : ZS} {s0 : ZS} {a0 : Int} {a1 : Int} {a2 : Int} {a3 : Int} {a4 : Int} (h : Kp b s0) : KK b (fX11_costWithRate s0 a0 a1 a2 a3 a4) := by
  unfold fX11_costWithRate
  repeat' (first
    | with_reducible assumption
    | with_reducible exact kk_none
    | with_reducible exact kk_ret (by assumption)
    | with_reducible refine kk_if ?_ ?_
    | with_reducible refine kk_p ?_ (fun s h => ?_)
    | with_reducible refine kk_as ?_ (fun s h => ?_)
    | with_reducible refine kk_na ?_ (fun s h => ?_)
    | with_reducible refine kk_pw ?_ (fun s h => ?_)
    | with_reducible refine kk_ar ?_ (fun s h => ?_)
    | with_reducible refine kk_cp ?_ (fun s h => ?_)
    | with_reducible refine kk_b ?_ (fun v s h => ?_)
    | with_reducible refine kk_g (fun v => ?_)
    | with_reducible refine kk_v ?_
    | with_reducible refine kk_w ?_ ?_ ?_ ?_ ?_ ?_
    | with_reducible refine kk_jn1 (fun k hk => ?_) ?_
    | with_reducible refine kk_jn2 (fun k hk => ?_) ?_
    | with_reducible refine kk_jn3 (fun k hk => ?_) ?_
    | with_reducible refine kk1i (fun s h => ?_)
    | with_reducible refine kk2i (fun s v h => ?_)
    | with_reducible refine kk3i (fun s v w h => ?_)
    | with_reducible refine kk4i (fun s v w x h => ?_)
    | with_reducible exact Kp.mul (by assumption)
    | with_reducible exact Kp.new (by assumption)
    | with_reducible exact kf_fX11_costOfAll (by first | assumption | exact Kp.mul (by assumption) | exact Kp.new (by assumption))
    | with_reducible exact kk1 (by assumption) (by assumption)
    | with_reducible exact kk2 (by assumption) (by assumption)
    | with_reducible exact kk3 (by assumption) (by assumption)
    | with_reducible exact kk4 (by assumption) (by assumption))
theorem kf_fX11_beside {b : ZS} {s0 : ZS} {a0 : Int} {a1 : Int} {a2 : Int} {a3 : Int} {a4 : Int} (h : Kp b s0) : KK b (fX11_beside s0 a0 a1 a2 a3 a4) := by
  unfold fX11_beside
  repeat' (first
    | with_reducible assumption
    | with_reducible exact kk_none
    | with_reducible exact kk_ret (by assumption)
    | with_reducible refine kk_if ?_ ?_
    | with_reducible refine kk_p ?_ (fun s h => ?_)
    | with_reducible refine kk_as ?_ (fun s h => ?_)
    | with_reducible refine kk_na ?_ (fun s h => ?_)
    | with_reducible refine kk_pw ?_ (fun s h => ?_)
    | with_reducible refine kk_ar ?_ (fun s h => ?_)
    | with_reducible refine kk_cp ?_ (fun s h => ?_)
    | with_reducible refine kk_b ?_ (fun v s h => ?_)
    | with_reducible refine kk_g (fun v => ?_)
    | with_reducible refine kk_v ?_
    | with_reducible refine kk_w ?_ ?_ ?_ ?_ ?_ ?_
    | with_reducible refine kk_jn1 (fun k hk => ?_) ?_
    | with_reducible refine kk_jn2 (fun k hk => ?_) ?_
    | with_reducible refine kk_jn3 (fun k hk => ?_) ?_
    | with_reducible refine kk1i (fun s h => ?_)
    | with_reducible refine kk2i (fun s v h => ?_)
    | with_reducible refine kk3i (fun s v w h => ?_)
    | with_reducible refine kk4i (fun s v w x h => ?_)
    | with_reducible exact Kp.mul (by assumption)
    | with_reducible exact Kp.new (by assumption)
    | with_reducible exact kf_fX11_within (by first | assumption | exact Kp.mul (by assumption) | exact Kp.new (by assumption))
    | with_reducible exact kf_fX11_isGate (by first | assumption | exact Kp.mul (by assumption) | exact Kp.new (by assumption))
    | with_reducible exact kf_fX11_isMinute (by first | assumption | exact Kp.mul (by assumption) | exact Kp.new (by assumption))
    | with_reducible exact kf_fX11_wayAt (by first | assumption | exact Kp.mul (by assumption) | exact Kp.new (by assumption))
    | with_reducible exact kf_fX11_costOfAll (by first | assumption | exact Kp.mul (by assumption) | exact Kp.new (by assumption))
    | with_reducible exact kf_fX11_costWithRate (by first | assumption | exact Kp.mul (by assumption) | exact Kp.new (by assumption))
    | with_reducible exact kk1 (by assumption) (by assumption)
    | with_reducible exact kk2 (by assumption) (by assumption)
    | with_reducible exact kk3 (by assumption) (by assumption)
    | with_reducible exact kk4 (by assumption) (by assumption))
theorem kl_lX11_sticks_90 {b : ZS} {u28 : Int} {K141 : ZS → Int → Int → Option (Int × ZS)} (hkK141 : KK3 b K141) : ∀ (n : Nat) (s : ZS) (x0 x1 x2 : Int), Kp b s → KK b (lX11_sticks_90 u28 K141 n s x0 x1 x2) := by
  intro n
  induction n with
  | zero => intro s x0 x1 x2 h; exact kk_none
  | succ n ih =>
    intro s x0 x1 x2 h
    rw [lX11_sticks_90]
    repeat' (first
    | with_reducible assumption
    | with_reducible exact kk_none
    | with_reducible exact kk_ret (by assumption)
    | with_reducible refine kk_if ?_ ?_
    | with_reducible refine kk_p ?_ (fun s h => ?_)
    | with_reducible refine kk_as ?_ (fun s h => ?_)
    | with_reducible refine kk_na ?_ (fun s h => ?_)
    | with_reducible refine kk_pw ?_ (fun s h => ?_)
    | with_reducible refine kk_ar ?_ (fun s h => ?_)
    | with_reducible refine kk_cp ?_ (fun s h => ?_)
    | with_reducible refine kk_b ?_ (fun v s h => ?_)
    | with_reducible refine kk_g (fun v => ?_)
    | with_reducible refine kk_v ?_
    | with_reducible refine kk_w ?_ ?_ ?_ ?_ ?_ ?_
    | with_reducible refine kk_jn1 (fun k hk => ?_) ?_
    | with_reducible refine kk_jn2 (fun k hk => ?_) ?_
    | with_reducible refine kk_jn3 (fun k hk => ?_) ?_
    | with_reducible refine kk1i (fun s h => ?_)
    | with_reducible refine kk2i (fun s v h => ?_)
    | with_reducible refine kk3i (fun s v w h => ?_)
    | with_reducible refine kk4i (fun s v w x h => ?_)
    | with_reducible exact Kp.mul (by assumption)
    | with_reducible exact Kp.new (by assumption)
    | with_reducible exact ih _ _ _ _ (by assumption)
    | with_reducible exact kk1 (by assumption) (by assumption)
    | with_reducible exact kk2 (by assumption) (by assumption)
    | with_reducible exact kk3 (by assumption) (by assumption)
    | with_reducible exact kk4 (by assumption) (by assumption))
theorem kf_fX11_sticks {b : ZS} {s0 : ZS} {a0 : Int} {a1 : Int} {a2 : Int} {a3 : Int} {a4 : Int} {a5 : Int} (h : Kp b s0) : KK b (fX11_sticks s0 a0 a1 a2 a3 a4 a5) := by
  unfold fX11_sticks
  repeat' (first
    | with_reducible assumption
    | with_reducible exact kk_none
    | with_reducible exact kk_ret (by assumption)
    | with_reducible refine kk_if ?_ ?_
    | with_reducible refine kk_p ?_ (fun s h => ?_)
    | with_reducible refine kk_as ?_ (fun s h => ?_)
    | with_reducible refine kk_na ?_ (fun s h => ?_)
    | with_reducible refine kk_pw ?_ (fun s h => ?_)
    | with_reducible refine kk_ar ?_ (fun s h => ?_)
    | with_reducible refine kk_cp ?_ (fun s h => ?_)
    | with_reducible refine kk_b ?_ (fun v s h => ?_)
    | with_reducible refine kk_g (fun v => ?_)
    | with_reducible refine kk_v ?_
    | with_reducible refine kk_w ?_ ?_ ?_ ?_ ?_ ?_
    | with_reducible refine kk_jn1 (fun k hk => ?_) ?_
    | with_reducible refine kk_jn2 (fun k hk => ?_) ?_
    | with_reducible refine kk_jn3 (fun k hk => ?_) ?_
    | with_reducible refine kk1i (fun s h => ?_)
    | with_reducible refine kk2i (fun s v h => ?_)
    | with_reducible refine kk3i (fun s v w h => ?_)
    | with_reducible refine kk4i (fun s v w x h => ?_)
    | with_reducible exact Kp.mul (by assumption)
    | with_reducible exact Kp.new (by assumption)
    | with_reducible exact kf_fX11_within (by first | assumption | exact Kp.mul (by assumption) | exact Kp.new (by assumption))
    | with_reducible exact kf_fX11_isGate (by first | assumption | exact Kp.mul (by assumption) | exact Kp.new (by assumption))
    | with_reducible exact kf_fX11_isMinute (by first | assumption | exact Kp.mul (by assumption) | exact Kp.new (by assumption))
    | with_reducible exact kf_fX11_wayAt (by first | assumption | exact Kp.mul (by assumption) | exact Kp.new (by assumption))
    | with_reducible exact kf_fX11_costOfAll (by first | assumption | exact Kp.mul (by assumption) | exact Kp.new (by assumption))
    | with_reducible exact kf_fX11_costWithRate (by first | assumption | exact Kp.mul (by assumption) | exact Kp.new (by assumption))
    | with_reducible refine kl_lX11_sticks_90 ?_ _ _ _ _ _ ?_
    | with_reducible exact kk1 (by assumption) (by assumption)
    | with_reducible exact kk2 (by assumption) (by assumption)
    | with_reducible exact kk3 (by assumption) (by assumption)
    | with_reducible exact kk4 (by assumption) (by assumption))
theorem kf_fX11_shift {b : ZS} {s0 : ZS} {a0 : Int} {a1 : Int} {a2 : Int} (h : Kp b s0) : KK b (fX11_shift s0 a0 a1 a2) := by
  unfold fX11_shift
  repeat' (first
    | with_reducible assumption
    | with_reducible exact kk_none
    | with_reducible exact kk_ret (by assumption)
    | with_reducible refine kk_if ?_ ?_
    | with_reducible refine kk_p ?_ (fun s h => ?_)
    | with_reducible refine kk_as ?_ (fun s h => ?_)
    | with_reducible refine kk_na ?_ (fun s h => ?_)
    | with_reducible refine kk_pw ?_ (fun s h => ?_)
    | with_reducible refine kk_ar ?_ (fun s h => ?_)
    | with_reducible refine kk_cp ?_ (fun s h => ?_)
    | with_reducible refine kk_b ?_ (fun v s h => ?_)
    | with_reducible refine kk_g (fun v => ?_)
    | with_reducible refine kk_v ?_
    | with_reducible refine kk_w ?_ ?_ ?_ ?_ ?_ ?_
    | with_reducible refine kk_jn1 (fun k hk => ?_) ?_
    | with_reducible refine kk_jn2 (fun k hk => ?_) ?_
    | with_reducible refine kk_jn3 (fun k hk => ?_) ?_
    | with_reducible refine kk1i (fun s h => ?_)
    | with_reducible refine kk2i (fun s v h => ?_)
    | with_reducible refine kk3i (fun s v w h => ?_)
    | with_reducible refine kk4i (fun s v w x h => ?_)
    | with_reducible exact Kp.mul (by assumption)
    | with_reducible exact Kp.new (by assumption)
    | with_reducible exact kf_fX11_wayAt (by first | assumption | exact Kp.mul (by assumption) | exact Kp.new (by assumption))
    | with_reducible exact kf_fX11_costOfAll (by first | assumption | exact Kp.mul (by assumption) | exact Kp.new (by assumption))
    | with_reducible exact kk1 (by assumption) (by assumption)
    | with_reducible exact kk2 (by assumption) (by assumption)
    | with_reducible exact kk3 (by assumption) (by assumption)
    | with_reducible exact kk4 (by assumption) (by assumption))
theorem kl_lX11_waitedByToll_66 {b : ZS} {u22 u23 u24 u25 u26 : Int} {K140 : ZS → Int → Option (Int × ZS)} (hkK140 : KK2 b K140) : ∀ (n : Nat) (s : ZS) (x0 x1 : Int), Kp b s → KK b (lX11_waitedByToll_66 u22 u23 u24 u25 u26 K140 n s x0 x1) := by
  intro n
  induction n with
  | zero => intro s x0 x1 h; exact kk_none
  | succ n ih =>
    intro s x0 x1 h
    rw [lX11_waitedByToll_66]
    repeat' (first
    | with_reducible assumption
    | with_reducible exact kk_none
    | with_reducible exact kk_ret (by assumption)
    | with_reducible refine kk_if ?_ ?_
    | with_reducible refine kk_p ?_ (fun s h => ?_)
    | with_reducible refine kk_as ?_ (fun s h => ?_)
    | with_reducible refine kk_na ?_ (fun s h => ?_)
    | with_reducible refine kk_pw ?_ (fun s h => ?_)
    | with_reducible refine kk_ar ?_ (fun s h => ?_)
    | with_reducible refine kk_cp ?_ (fun s h => ?_)
    | with_reducible refine kk_b ?_ (fun v s h => ?_)
    | with_reducible refine kk_g (fun v => ?_)
    | with_reducible refine kk_v ?_
    | with_reducible refine kk_w ?_ ?_ ?_ ?_ ?_ ?_
    | with_reducible refine kk_jn1 (fun k hk => ?_) ?_
    | with_reducible refine kk_jn2 (fun k hk => ?_) ?_
    | with_reducible refine kk_jn3 (fun k hk => ?_) ?_
    | with_reducible refine kk1i (fun s h => ?_)
    | with_reducible refine kk2i (fun s v h => ?_)
    | with_reducible refine kk3i (fun s v w h => ?_)
    | with_reducible refine kk4i (fun s v w x h => ?_)
    | with_reducible exact Kp.mul (by assumption)
    | with_reducible exact Kp.new (by assumption)
    | with_reducible exact kf_fX2_waitOf (by first | assumption | exact Kp.mul (by assumption) | exact Kp.new (by assumption))
    | with_reducible exact ih _ _ _ (by assumption)
    | with_reducible exact kk1 (by assumption) (by assumption)
    | with_reducible exact kk2 (by assumption) (by assumption)
    | with_reducible exact kk3 (by assumption) (by assumption)
    | with_reducible exact kk4 (by assumption) (by assumption))
theorem kf_fX11_waitedByToll {b : ZS} {s0 : ZS} {a0 : Int} {a1 : Int} {a2 : Int} {a3 : Int} {a4 : Int} {a5 : Int} (h : Kp b s0) : KK b (fX11_waitedByToll s0 a0 a1 a2 a3 a4 a5) := by
  unfold fX11_waitedByToll
  repeat' (first
    | with_reducible assumption
    | with_reducible exact kk_none
    | with_reducible exact kk_ret (by assumption)
    | with_reducible refine kk_if ?_ ?_
    | with_reducible refine kk_p ?_ (fun s h => ?_)
    | with_reducible refine kk_as ?_ (fun s h => ?_)
    | with_reducible refine kk_na ?_ (fun s h => ?_)
    | with_reducible refine kk_pw ?_ (fun s h => ?_)
    | with_reducible refine kk_ar ?_ (fun s h => ?_)
    | with_reducible refine kk_cp ?_ (fun s h => ?_)
    | with_reducible refine kk_b ?_ (fun v s h => ?_)
    | with_reducible refine kk_g (fun v => ?_)
    | with_reducible refine kk_v ?_
    | with_reducible refine kk_w ?_ ?_ ?_ ?_ ?_ ?_
    | with_reducible refine kk_jn1 (fun k hk => ?_) ?_
    | with_reducible refine kk_jn2 (fun k hk => ?_) ?_
    | with_reducible refine kk_jn3 (fun k hk => ?_) ?_
    | with_reducible refine kk1i (fun s h => ?_)
    | with_reducible refine kk2i (fun s v h => ?_)
    | with_reducible refine kk3i (fun s v w h => ?_)
    | with_reducible refine kk4i (fun s v w x h => ?_)
    | with_reducible exact Kp.mul (by assumption)
    | with_reducible exact Kp.new (by assumption)
    | with_reducible exact kf_fX2_follow (by first | assumption | exact Kp.mul (by assumption) | exact Kp.new (by assumption))
    | with_reducible exact kf_fX11_makesMove (by first | assumption | exact Kp.mul (by assumption) | exact Kp.new (by assumption))
    | with_reducible refine kl_lX11_waitedByToll_66 ?_ _ _ _ _ ?_
    | with_reducible exact kk1 (by assumption) (by assumption)
    | with_reducible exact kk2 (by assumption) (by assumption)
    | with_reducible exact kk3 (by assumption) (by assumption)
    | with_reducible exact kk4 (by assumption) (by assumption))
theorem kl_lX11_finest_60 {b : ZS} {u21 u22 u23 u24 u25 : Int} : ∀ (n : Nat) (s : ZS) (x0 x1 x2 : Int), Kp b s → KK b (lX11_finest_60 u21 u22 u23 u24 u25 n s x0 x1 x2) := by
  intro n
  induction n with
  | zero => intro s x0 x1 x2 h; exact kk_none
  | succ n ih =>
    intro s x0 x1 x2 h
    rw [lX11_finest_60]
    repeat' (first
    | with_reducible assumption
    | with_reducible exact kk_none
    | with_reducible exact kk_ret (by assumption)
    | with_reducible refine kk_if ?_ ?_
    | with_reducible refine kk_p ?_ (fun s h => ?_)
    | with_reducible refine kk_as ?_ (fun s h => ?_)
    | with_reducible refine kk_na ?_ (fun s h => ?_)
    | with_reducible refine kk_pw ?_ (fun s h => ?_)
    | with_reducible refine kk_ar ?_ (fun s h => ?_)
    | with_reducible refine kk_cp ?_ (fun s h => ?_)
    | with_reducible refine kk_b ?_ (fun v s h => ?_)
    | with_reducible refine kk_g (fun v => ?_)
    | with_reducible refine kk_v ?_
    | with_reducible refine kk_w ?_ ?_ ?_ ?_ ?_ ?_
    | with_reducible refine kk_jn1 (fun k hk => ?_) ?_
    | with_reducible refine kk_jn2 (fun k hk => ?_) ?_
    | with_reducible refine kk_jn3 (fun k hk => ?_) ?_
    | with_reducible refine kk1i (fun s h => ?_)
    | with_reducible refine kk2i (fun s v h => ?_)
    | with_reducible refine kk3i (fun s v w h => ?_)
    | with_reducible refine kk4i (fun s v w x h => ?_)
    | with_reducible exact Kp.mul (by assumption)
    | with_reducible exact Kp.new (by assumption)
    | with_reducible exact kf_fX11_waitedByToll (by first | assumption | exact Kp.mul (by assumption) | exact Kp.new (by assumption))
    | with_reducible exact ih _ _ _ _ (by assumption)
    | with_reducible exact kk1 (by assumption) (by assumption)
    | with_reducible exact kk2 (by assumption) (by assumption)
    | with_reducible exact kk3 (by assumption) (by assumption)
    | with_reducible exact kk4 (by assumption) (by assumption))
theorem kf_fX11_finest {b : ZS} {s0 : ZS} {a0 : Int} {a1 : Int} {a2 : Int} {a3 : Int} {a4 : Int} (h : Kp b s0) : KK b (fX11_finest s0 a0 a1 a2 a3 a4) := by
  unfold fX11_finest
  repeat' (first
    | with_reducible assumption
    | with_reducible exact kk_none
    | with_reducible exact kk_ret (by assumption)
    | with_reducible refine kk_if ?_ ?_
    | with_reducible refine kk_p ?_ (fun s h => ?_)
    | with_reducible refine kk_as ?_ (fun s h => ?_)
    | with_reducible refine kk_na ?_ (fun s h => ?_)
    | with_reducible refine kk_pw ?_ (fun s h => ?_)
    | with_reducible refine kk_ar ?_ (fun s h => ?_)
    | with_reducible refine kk_cp ?_ (fun s h => ?_)
    | with_reducible refine kk_b ?_ (fun v s h => ?_)
    | with_reducible refine kk_g (fun v => ?_)
    | with_reducible refine kk_v ?_
    | with_reducible refine kk_w ?_ ?_ ?_ ?_ ?_ ?_
    | with_reducible refine kk_jn1 (fun k hk => ?_) ?_
    | with_reducible refine kk_jn2 (fun k hk => ?_) ?_
    | with_reducible refine kk_jn3 (fun k hk => ?_) ?_
    | with_reducible refine kk1i (fun s h => ?_)
    | with_reducible refine kk2i (fun s v h => ?_)
    | with_reducible refine kk3i (fun s v w h => ?_)
    | with_reducible refine kk4i (fun s v w x h => ?_)
    | with_reducible exact Kp.mul (by assumption)
    | with_reducible exact Kp.new (by assumption)
    | with_reducible exact kf_fX11_within (by first | assumption | exact Kp.mul (by assumption) | exact Kp.new (by assumption))
    | with_reducible exact kf_fX11_isGate (by first | assumption | exact Kp.mul (by assumption) | exact Kp.new (by assumption))
    | with_reducible exact kf_fX11_isMinute (by first | assumption | exact Kp.mul (by assumption) | exact Kp.new (by assumption))
    | with_reducible exact kf_fX11_wayAt (by first | assumption | exact Kp.mul (by assumption) | exact Kp.new (by assumption))
    | with_reducible exact kf_fX11_waitedByToll (by first | assumption | exact Kp.mul (by assumption) | exact Kp.new (by assumption))
    | with_reducible refine kl_lX11_finest_60 _ _ _ _ _ ?_
    | with_reducible exact kk1 (by assumption) (by assumption)
    | with_reducible exact kk2 (by assumption) (by assumption)
    | with_reducible exact kk3 (by assumption) (by assumption)
    | with_reducible exact kk4 (by assumption) (by assumption))
theorem kl_lX10_divide_3 {b : ZS} {u2 u3 u4 u5 : Int} : ∀ (n : Nat) (s : ZS) (x0 : Int), Kp b s → KK b (lX10_divide_3 u2 u3 u4 u5 n s x0) := by
  intro n
  induction n with
  | zero => intro s x0 h; exact kk_none
  | succ n ih =>
    intro s x0 h
    rw [lX10_divide_3]
    repeat' (first
    | with_reducible assumption
    | with_reducible exact kk_none
    | with_reducible exact kk_ret (by assumption)
    | with_reducible refine kk_if ?_ ?_
    | with_reducible refine kk_p ?_ (fun s h => ?_)
    | with_reducible refine kk_as ?_ (fun s h => ?_)
    | with_reducible refine kk_na ?_ (fun s h => ?_)
    | with_reducible refine kk_pw ?_ (fun s h => ?_)
    | with_reducible refine kk_ar ?_ (fun s h => ?_)
    | with_reducible refine kk_cp ?_ (fun s h => ?_)
    | with_reducible refine kk_b ?_ (fun v s h => ?_)
    | with_reducible refine kk_g (fun v => ?_)
    | with_reducible refine kk_v ?_
    | with_reducible refine kk_w ?_ ?_ ?_ ?_ ?_ ?_
    | with_reducible refine kk_jn1 (fun k hk => ?_) ?_
    | with_reducible refine kk_jn2 (fun k hk => ?_) ?_
    | with_reducible refine kk_jn3 (fun k hk => ?_) ?_
    | with_reducible refine kk1i (fun s h => ?_)
    | with_reducible refine kk2i (fun s v h => ?_)
    | with_reducible refine kk3i (fun s v w h => ?_)
    | with_reducible refine kk4i (fun s v w x h => ?_)
    | with_reducible exact Kp.mul (by assumption)
    | with_reducible exact Kp.new (by assumption)
    | with_reducible exact ih _ _ (by assumption)
    | with_reducible exact kk1 (by assumption) (by assumption)
    | with_reducible exact kk2 (by assumption) (by assumption)
    | with_reducible exact kk3 (by assumption) (by assumption)
    | with_reducible exact kk4 (by assumption) (by assumption))
theorem kf_fX10_divide {b : ZS} {s0 : ZS} {a0 : Int} {a1 : Int} {a2 : Int} {a3 : Int} (h : Kp b s0) : KK b (fX10_divide s0 a0 a1 a2 a3) := by
  unfold fX10_divide
  repeat' (first
    | with_reducible assumption
    | with_reducible exact kk_none
    | with_reducible exact kk_ret (by assumption)
    | with_reducible refine kk_if ?_ ?_
    | with_reducible refine kk_p ?_ (fun s h => ?_)
    | with_reducible refine kk_as ?_ (fun s h => ?_)
    | with_reducible refine kk_na ?_ (fun s h => ?_)
    | with_reducible refine kk_pw ?_ (fun s h => ?_)
    | with_reducible refine kk_ar ?_ (fun s h => ?_)
    | with_reducible refine kk_cp ?_ (fun s h => ?_)
    | with_reducible refine kk_b ?_ (fun v s h => ?_)
    | with_reducible refine kk_g (fun v => ?_)
    | with_reducible refine kk_v ?_
    | with_reducible refine kk_w ?_ ?_ ?_ ?_ ?_ ?_
    | with_reducible refine kk_jn1 (fun k hk => ?_) ?_
    | with_reducible refine kk_jn2 (fun k hk => ?_) ?_
    | with_reducible refine kk_jn3 (fun k hk => ?_) ?_
    | with_reducible refine kk1i (fun s h => ?_)
    | with_reducible refine kk2i (fun s v h => ?_)
    | with_reducible refine kk3i (fun s v w h => ?_)
    | with_reducible refine kk4i (fun s v w x h => ?_)
    | with_reducible exact Kp.mul (by assumption)
    | with_reducible exact Kp.new (by assumption)
    | with_reducible refine kl_lX10_divide_3 _ _ _ ?_
    | with_reducible exact kk1 (by assumption) (by assumption)
    | with_reducible exact kk2 (by assumption) (by assumption)
    | with_reducible exact kk3 (by assumption) (by assumption)
    | with_reducible exact kk4 (by assumption) (by assumption))
theorem kl_lX11_split_81 {b : ZS} {u28 u29 u30 u31 u32 : Int} {K130 : ZS → Int → Int → Option (Int × ZS)} (hkK130 : KK3 b K130) : ∀ (n : Nat) (s : ZS) (x0 x1 x2 : Int), Kp b s → KK b (lX11_split_81 u28 u29 u30 u31 u32 K130 n s x0 x1 x2) := by
  intro n
  induction n with
  | zero => intro s x0 x1 x2 h; exact kk_none
  | succ n ih =>
    intro s x0 x1 x2 h
    rw [lX11_split_81]
    repeat' (first
    | with_reducible assumption
    | with_reducible exact kk_none
    | with_reducible exact kk_ret (by assumption)
    | with_reducible refine kk_if ?_ ?_
    | with_reducible refine kk_p ?_ (fun s h => ?_)
    | with_reducible refine kk_as ?_ (fun s h => ?_)
    | with_reducible refine kk_na ?_ (fun s h => ?_)
    | with_reducible refine kk_pw ?_ (fun s h => ?_)
    | with_reducible refine kk_ar ?_ (fun s h => ?_)
    | with_reducible refine kk_cp ?_ (fun s h => ?_)
    | with_reducible refine kk_b ?_ (fun v s h => ?_)
    | with_reducible refine kk_g (fun v => ?_)
    | with_reducible refine kk_v ?_
    | with_reducible refine kk_w ?_ ?_ ?_ ?_ ?_ ?_
    | with_reducible refine kk_jn1 (fun k hk => ?_) ?_
    | with_reducible refine kk_jn2 (fun k hk => ?_) ?_
    | with_reducible refine kk_jn3 (fun k hk => ?_) ?_
    | with_reducible refine kk1i (fun s h => ?_)
    | with_reducible refine kk2i (fun s v h => ?_)
    | with_reducible refine kk3i (fun s v w h => ?_)
    | with_reducible refine kk4i (fun s v w x h => ?_)
    | with_reducible exact Kp.mul (by assumption)
    | with_reducible exact Kp.new (by assumption)
    | with_reducible exact kf_fX11_costOfAll (by first | assumption | exact Kp.mul (by assumption) | exact Kp.new (by assumption))
    | with_reducible exact kf_fX10_divide (by first | assumption | exact Kp.mul (by assumption) | exact Kp.new (by assumption))
    | with_reducible exact ih _ _ _ _ (by assumption)
    | with_reducible exact kk1 (by assumption) (by assumption)
    | with_reducible exact kk2 (by assumption) (by assumption)
    | with_reducible exact kk3 (by assumption) (by assumption)
    | with_reducible exact kk4 (by assumption) (by assumption))
theorem kf_fX11_split {b : ZS} {s0 : ZS} {a0 : Int} {a1 : Int} {a2 : Int} {a3 : Int} {a4 : Int} (h : Kp b s0) : KK b (fX11_split s0 a0 a1 a2 a3 a4) := by
  unfold fX11_split
  repeat' (first
    | with_reducible assumption
    | with_reducible exact kk_none
    | with_reducible exact kk_ret (by assumption)
    | with_reducible refine kk_if ?_ ?_
    | with_reducible refine kk_p ?_ (fun s h => ?_)
    | with_reducible refine kk_as ?_ (fun s h => ?_)
    | with_reducible refine kk_na ?_ (fun s h => ?_)
    | with_reducible refine kk_pw ?_ (fun s h => ?_)
    | with_reducible refine kk_ar ?_ (fun s h => ?_)
    | with_reducible refine kk_cp ?_ (fun s h => ?_)
    | with_reducible refine kk_b ?_ (fun v s h => ?_)
    | with_reducible refine kk_g (fun v => ?_)
    | with_reducible refine kk_v ?_
    | with_reducible refine kk_w ?_ ?_ ?_ ?_ ?_ ?_
    | with_reducible refine kk_jn1 (fun k hk => ?_) ?_
    | with_reducible refine kk_jn2 (fun k hk => ?_) ?_
    | with_reducible refine kk_jn3 (fun k hk => ?_) ?_
    | with_reducible refine kk1i (fun s h => ?_)
    | with_reducible refine kk2i (fun s v h => ?_)
    | with_reducible refine kk3i (fun s v w h => ?_)
    | with_reducible refine kk4i (fun s v w x h => ?_)
    | with_reducible exact Kp.mul (by assumption)
    | with_reducible exact Kp.new (by assumption)
    | with_reducible exact kf_fX11_within (by first | assumption | exact Kp.mul (by assumption) | exact Kp.new (by assumption))
    | with_reducible exact kf_fX11_wayAt (by first | assumption | exact Kp.mul (by assumption) | exact Kp.new (by assumption))
    | with_reducible exact kf_fX11_costOfAll (by first | assumption | exact Kp.mul (by assumption) | exact Kp.new (by assumption))
    | with_reducible exact kf_fX10_divide (by first | assumption | exact Kp.mul (by assumption) | exact Kp.new (by assumption))
    | with_reducible refine kl_lX11_split_81 ?_ _ _ _ _ _ ?_
    | with_reducible exact kk1 (by assumption) (by assumption)
    | with_reducible exact kk2 (by assumption) (by assumption)
    | with_reducible exact kk3 (by assumption) (by assumption)
    | with_reducible exact kk4 (by assumption) (by assumption))
theorem kf_fX11_count {b : ZS} {s0 : ZS} {a0 : Int} {a1 : Int} (h : Kp b s0) : KK b (fX11_count s0 a0 a1) := by
  unfold fX11_count
  repeat' (first
    | with_reducible assumption
    | with_reducible exact kk_none
    | with_reducible exact kk_ret (by assumption)
    | with_reducible refine kk_if ?_ ?_
    | with_reducible refine kk_p ?_ (fun s h => ?_)
    | with_reducible refine kk_as ?_ (fun s h => ?_)
    | with_reducible refine kk_na ?_ (fun s h => ?_)
    | with_reducible refine kk_pw ?_ (fun s h => ?_)
    | with_reducible refine kk_ar ?_ (fun s h => ?_)
    | with_reducible refine kk_cp ?_ (fun s h => ?_)
    | with_reducible refine kk_b ?_ (fun v s h => ?_)
    | with_reducible refine kk_g (fun v => ?_)
    | with_reducible refine kk_v ?_
    | with_reducible refine kk_w ?_ ?_ ?_ ?_ ?_ ?_
    | with_reducible refine kk_jn1 (fun k hk => ?_) ?_
    | with_reducible refine kk_jn2 (fun k hk => ?_) ?_
    | with_reducible refine kk_jn3 (fun k hk => ?_) ?_
    | with_reducible refine kk1i (fun s h => ?_)
    | with_reducible refine kk2i (fun s v h => ?_)
    | with_reducible refine kk3i (fun s v w h => ?_)
    | with_reducible refine kk4i (fun s v w x h => ?_)
    | with_reducible exact Kp.mul (by assumption)
    | with_reducible exact Kp.new (by assumption)
    | with_reducible exact kk1 (by assumption) (by assumption)
    | with_reducible exact kk2 (by assumption) (by assumption)
    | with_reducible exact kk3 (by assumption) (by assumption)
    | with_reducible exact kk4 (by assumption) (by assumption))
theorem kl_lX5_become_2 {b : ZS} {u2 u3 u4 : Int} {K51 : ZS → Option (Int × ZS)} (hkK51 : KK1 b K51) : ∀ (n : Nat) (s : ZS) (x0 : Int), Kp b s → KK b (lX5_become_2 u2 u3 u4 K51 n s x0) := by
  intro n
  induction n with
  | zero => intro s x0 h; exact kk_none
  | succ n ih =>
    intro s x0 h
    rw [lX5_become_2]
    repeat' (first
    | with_reducible assumption
    | with_reducible exact kk_none
    | with_reducible exact kk_ret (by assumption)
    | with_reducible refine kk_if ?_ ?_
    | with_reducible refine kk_p ?_ (fun s h => ?_)
    | with_reducible refine kk_as ?_ (fun s h => ?_)
    | with_reducible refine kk_na ?_ (fun s h => ?_)
    | with_reducible refine kk_pw ?_ (fun s h => ?_)
    | with_reducible refine kk_ar ?_ (fun s h => ?_)
    | with_reducible refine kk_cp ?_ (fun s h => ?_)
    | with_reducible refine kk_b ?_ (fun v s h => ?_)
    | with_reducible refine kk_g (fun v => ?_)
    | with_reducible refine kk_v ?_
    | with_reducible refine kk_w ?_ ?_ ?_ ?_ ?_ ?_
    | with_reducible refine kk_jn1 (fun k hk => ?_) ?_
    | with_reducible refine kk_jn2 (fun k hk => ?_) ?_
    | with_reducible refine kk_jn3 (fun k hk => ?_) ?_
    | with_reducible refine kk1i (fun s h => ?_)
    | with_reducible refine kk2i (fun s v h => ?_)
    | with_reducible refine kk3i (fun s v w h => ?_)
    | with_reducible refine kk4i (fun s v w x h => ?_)
    | with_reducible exact Kp.mul (by assumption)
    | with_reducible exact Kp.new (by assumption)
    | with_reducible exact ih _ _ (by assumption)
    | with_reducible exact kk1 (by assumption) (by assumption)
    | with_reducible exact kk2 (by assumption) (by assumption)
    | with_reducible exact kk3 (by assumption) (by assumption)
    | with_reducible exact kk4 (by assumption) (by assumption))
theorem kf_fX5_become {b : ZS} {s0 : ZS} {a0 : Int} {a1 : Int} {a2 : Int} (h : Kp b s0) : KK b (fX5_become s0 a0 a1 a2) := by
  unfold fX5_become
  repeat' (first
    | with_reducible assumption
    | with_reducible exact kk_none
    | with_reducible exact kk_ret (by assumption)
    | with_reducible refine kk_if ?_ ?_
    | with_reducible refine kk_p ?_ (fun s h => ?_)
    | with_reducible refine kk_as ?_ (fun s h => ?_)
    | with_reducible refine kk_na ?_ (fun s h => ?_)
    | with_reducible refine kk_pw ?_ (fun s h => ?_)
    | with_reducible refine kk_ar ?_ (fun s h => ?_)
    | with_reducible refine kk_cp ?_ (fun s h => ?_)
    | with_reducible refine kk_b ?_ (fun v s h => ?_)
    | with_reducible refine kk_g (fun v => ?_)
    | with_reducible refine kk_v ?_
    | with_reducible refine kk_w ?_ ?_ ?_ ?_ ?_ ?_
    | with_reducible refine kk_jn1 (fun k hk => ?_) ?_
    | with_reducible refine kk_jn2 (fun k hk => ?_) ?_
    | with_reducible refine kk_jn3 (fun k hk => ?_) ?_
    | with_reducible refine kk1i (fun s h => ?_)
    | with_reducible refine kk2i (fun s v h => ?_)
    | with_reducible refine kk3i (fun s v w h => ?_)
    | with_reducible refine kk4i (fun s v w x h => ?_)
    | with_reducible exact Kp.mul (by assumption)
    | with_reducible exact Kp.new (by assumption)
    | with_reducible refine kl_lX5_become_2 ?_ _ _ _ ?_
    | with_reducible exact kk1 (by assumption) (by assumption)
    | with_reducible exact kk2 (by assumption) (by assumption)
    | with_reducible exact kk3 (by assumption) (by assumption)
    | with_reducible exact kk4 (by assumption) (by assumption))
theorem kl_lX11_image_20 {b : ZS} {u9 : Int} {K59 : ZS → Option (Int × ZS)} (hkK59 : KK1 b K59) : ∀ (n : Nat) (s : ZS) (x0 : Int), Kp b s → KK b (lX11_image_20 u9 K59 n s x0) := by
  intro n
  induction n with
  | zero => intro s x0 h; exact kk_none
  | succ n ih =>
    intro s x0 h
    rw [lX11_image_20]
    repeat' (first
    | with_reducible assumption
    | with_reducible exact kk_none
    | with_reducible exact kk_ret (by assumption)
    | with_reducible refine kk_if ?_ ?_
    | with_reducible refine kk_p ?_ (fun s h => ?_)
    | with_reducible refine kk_as ?_ (fun s h => ?_)
    | with_reducible refine kk_na ?_ (fun s h => ?_)
    | with_reducible refine kk_pw ?_ (fun s h => ?_)
    | with_reducible refine kk_ar ?_ (fun s h => ?_)
    | with_reducible refine kk_cp ?_ (fun s h => ?_)
    | with_reducible refine kk_b ?_ (fun v s h => ?_)
    | with_reducible refine kk_g (fun v => ?_)
    | with_reducible refine kk_v ?_
    | with_reducible refine kk_w ?_ ?_ ?_ ?_ ?_ ?_
    | with_reducible refine kk_jn1 (fun k hk => ?_) ?_
    | with_reducible refine kk_jn2 (fun k hk => ?_) ?_
    | with_reducible refine kk_jn3 (fun k hk => ?_) ?_
    | with_reducible refine kk1i (fun s h => ?_)
    | with_reducible refine kk2i (fun s v h => ?_)
    | with_reducible refine kk3i (fun s v w h => ?_)
    | with_reducible refine kk4i (fun s v w x h => ?_)
    | with_reducible exact Kp.mul (by assumption)
    | with_reducible exact Kp.new (by assumption)
    | with_reducible exact ih _ _ (by assumption)
    | with_reducible exact kk1 (by assumption) (by assumption)
    | with_reducible exact kk2 (by assumption) (by assumption)
    | with_reducible exact kk3 (by assumption) (by assumption)
    | with_reducible exact kk4 (by assumption) (by assumption))
theorem kf_fX11_image {b : ZS} {s0 : ZS} {a0 : Int} (h : Kp b s0) : KK b (fX11_image s0 a0) := by
  unfold fX11_image
  repeat' (first
    | with_reducible assumption
    | with_reducible exact kk_none
    | with_reducible exact kk_ret (by assumption)
    | with_reducible refine kk_if ?_ ?_
    | with_reducible refine kk_p ?_ (fun s h => ?_)
    | with_reducible refine kk_as ?_ (fun s h => ?_)
    | with_reducible refine kk_na ?_ (fun s h => ?_)
    | with_reducible refine kk_pw ?_ (fun s h => ?_)
    | with_reducible refine kk_ar ?_ (fun s h => ?_)
    | with_reducible refine kk_cp ?_ (fun s h => ?_)
    | with_reducible refine kk_b ?_ (fun v s h => ?_)
    | with_reducible refine kk_g (fun v => ?_)
    | with_reducible refine kk_v ?_
    | with_reducible refine kk_w ?_ ?_ ?_ ?_ ?_ ?_
    | with_reducible refine kk_jn1 (fun k hk => ?_) ?_
    | with_reducible refine kk_jn2 (fun k hk => ?_) ?_
    | with_reducible refine kk_jn3 (fun k hk => ?_) ?_
    | with_reducible refine kk1i (fun s h => ?_)
    | with_reducible refine kk2i (fun s v h => ?_)
    | with_reducible refine kk3i (fun s v w h => ?_)
    | with_reducible refine kk4i (fun s v w x h => ?_)
    | with_reducible exact Kp.mul (by assumption)
    | with_reducible exact Kp.new (by assumption)
    | with_reducible exact kf_fX5_become (by first | assumption | exact Kp.mul (by assumption) | exact Kp.new (by assumption))
    | with_reducible refine kl_lX11_image_20 ?_ _ _ _ ?_
    | with_reducible exact kk1 (by assumption) (by assumption)
    | with_reducible exact kk2 (by assumption) (by assumption)
    | with_reducible exact kk3 (by assumption) (by assumption)
    | with_reducible exact kk4 (by assumption) (by assumption))
theorem kl_lX11_back_27 {b : ZS} {u10 : Int} {K66 : ZS → Option (Int × ZS)} (hkK66 : KK1 b K66) : ∀ (n : Nat) (s : ZS) (x0 : Int), Kp b s → KK b (lX11_back_27 u10 K66 n s x0) := by
  intro n
  induction n with
  | zero => intro s x0 h; exact kk_none
  | succ n ih =>
    intro s x0 h
    rw [lX11_back_27]
    repeat' (first
    | with_reducible assumption
    | with_reducible exact kk_none
    | with_reducible exact kk_ret (by assumption)
    | with_reducible refine kk_if ?_ ?_
    | with_reducible refine kk_p ?_ (fun s h => ?_)
    | with_reducible refine kk_as ?_ (fun s h => ?_)
    | with_reducible refine kk_na ?_ (fun s h => ?_)
    | with_reducible refine kk_pw ?_ (fun s h => ?_)
    | with_reducible refine kk_ar ?_ (fun s h => ?_)
    | with_reducible refine kk_cp ?_ (fun s h => ?_)
    | with_reducible refine kk_b ?_ (fun v s h => ?_)
    | with_reducible refine kk_g (fun v => ?_)
    | with_reducible refine kk_v ?_
    | with_reducible refine kk_w ?_ ?_ ?_ ?_ ?_ ?_
    | with_reducible refine kk_jn1 (fun k hk => ?_) ?_
    | with_reducible refine kk_jn2 (fun k hk => ?_) ?_
    | with_reducible refine kk_jn3 (fun k hk => ?_) ?_
    | with_reducible refine kk1i (fun s h => ?_)
    | with_reducible refine kk2i (fun s v h => ?_)
    | with_reducible refine kk3i (fun s v w h => ?_)
    | with_reducible refine kk4i (fun s v w x h => ?_)
    | with_reducible exact Kp.mul (by assumption)
    | with_reducible exact Kp.new (by assumption)
    | with_reducible exact ih _ _ (by assumption)
    | with_reducible exact kk1 (by assumption) (by assumption)
    | with_reducible exact kk2 (by assumption) (by assumption)
    | with_reducible exact kk3 (by assumption) (by assumption)
    | with_reducible exact kk4 (by assumption) (by assumption))
theorem kf_fX11_back {b : ZS} {s0 : ZS} {a0 : Int} (h : Kp b s0) : KK b (fX11_back s0 a0) := by
  unfold fX11_back
  repeat' (first
    | with_reducible assumption
    | with_reducible exact kk_none
    | with_reducible exact kk_ret (by assumption)
    | with_reducible refine kk_if ?_ ?_
    | with_reducible refine kk_p ?_ (fun s h => ?_)
    | with_reducible refine kk_as ?_ (fun s h => ?_)
    | with_reducible refine kk_na ?_ (fun s h => ?_)
    | with_reducible refine kk_pw ?_ (fun s h => ?_)
    | with_reducible refine kk_ar ?_ (fun s h => ?_)
    | with_reducible refine kk_cp ?_ (fun s h => ?_)
    | with_reducible refine kk_b ?_ (fun v s h => ?_)
    | with_reducible refine kk_g (fun v => ?_)
    | with_reducible refine kk_v ?_
    | with_reducible refine kk_w ?_ ?_ ?_ ?_ ?_ ?_
    | with_reducible refine kk_jn1 (fun k hk => ?_) ?_
    | with_reducible refine kk_jn2 (fun k hk => ?_) ?_
    | with_reducible refine kk_jn3 (fun k hk => ?_) ?_
    | with_reducible refine kk1i (fun s h => ?_)
    | with_reducible refine kk2i (fun s v h => ?_)
    | with_reducible refine kk3i (fun s v w h => ?_)
    | with_reducible refine kk4i (fun s v w x h => ?_)
    | with_reducible exact Kp.mul (by assumption)
    | with_reducible exact Kp.new (by assumption)
    | with_reducible exact kf_fX5_become (by first | assumption | exact Kp.mul (by assumption) | exact Kp.new (by assumption))
    | with_reducible refine kl_lX11_back_27 ?_ _ _ _ ?_
    | with_reducible exact kk1 (by assumption) (by assumption)
    | with_reducible exact kk2 (by assumption) (by assumption)
    | with_reducible exact kk3 (by assumption) (by assumption)
    | with_reducible exact kk4 (by assumption) (by assumption))
theorem kl_lX6_renew_12 {b : ZS} {u4 : Int} : ∀ (n : Nat) (s : ZS) (x0 : Int), Kp b s → KK b (lX6_renew_12 u4 n s x0) := by
  intro n
  induction n with
  | zero => intro s x0 h; exact kk_none
  | succ n ih =>
    intro s x0 h
    rw [lX6_renew_12]
    repeat' (first
    | with_reducible assumption
    | with_reducible exact kk_none
    | with_reducible exact kk_ret (by assumption)
    | with_reducible refine kk_if ?_ ?_
    | with_reducible refine kk_p ?_ (fun s h => ?_)
    | with_reducible refine kk_as ?_ (fun s h => ?_)
    | with_reducible refine kk_na ?_ (fun s h => ?_)
    | with_reducible refine kk_pw ?_ (fun s h => ?_)
    | with_reducible refine kk_ar ?_ (fun s h => ?_)
    | with_reducible refine kk_cp ?_ (fun s h => ?_)
    | with_reducible refine kk_b ?_ (fun v s h => ?_)
    | with_reducible refine kk_g (fun v => ?_)
    | with_reducible refine kk_v ?_
    | with_reducible refine kk_w ?_ ?_ ?_ ?_ ?_ ?_
    | with_reducible refine kk_jn1 (fun k hk => ?_) ?_
    | with_reducible refine kk_jn2 (fun k hk => ?_) ?_
    | with_reducible refine kk_jn3 (fun k hk => ?_) ?_
    | with_reducible refine kk1i (fun s h => ?_)
    | with_reducible refine kk2i (fun s v h => ?_)
    | with_reducible refine kk3i (fun s v w h => ?_)
    | with_reducible refine kk4i (fun s v w x h => ?_)
    | with_reducible exact Kp.mul (by assumption)
    | with_reducible exact Kp.new (by assumption)
    | with_reducible exact ih _ _ (by assumption)
    | with_reducible exact kk1 (by assumption) (by assumption)
    | with_reducible exact kk2 (by assumption) (by assumption)
    | with_reducible exact kk3 (by assumption) (by assumption)
    | with_reducible exact kk4 (by assumption) (by assumption))
theorem kf_fX6_renew {b : ZS} {s0 : ZS} {a0 : Int} {a1 : Int} {a2 : Int} (h : Kp b s0) : KK b (fX6_renew s0 a0 a1 a2) := by
  unfold fX6_renew
  repeat' (first
    | with_reducible assumption
    | with_reducible exact kk_none
    | with_reducible exact kk_ret (by assumption)
    | with_reducible refine kk_if ?_ ?_
    | with_reducible refine kk_p ?_ (fun s h => ?_)
    | with_reducible refine kk_as ?_ (fun s h => ?_)
    | with_reducible refine kk_na ?_ (fun s h => ?_)
    | with_reducible refine kk_pw ?_ (fun s h => ?_)
    | with_reducible refine kk_ar ?_ (fun s h => ?_)
    | with_reducible refine kk_cp ?_ (fun s h => ?_)
    | with_reducible refine kk_b ?_ (fun v s h => ?_)
    | with_reducible refine kk_g (fun v => ?_)
    | with_reducible refine kk_v ?_
    | with_reducible refine kk_w ?_ ?_ ?_ ?_ ?_ ?_
    | with_reducible refine kk_jn1 (fun k hk => ?_) ?_
    | with_reducible refine kk_jn2 (fun k hk => ?_) ?_
    | with_reducible refine kk_jn3 (fun k hk => ?_) ?_
    | with_reducible refine kk1i (fun s h => ?_)
    | with_reducible refine kk2i (fun s v h => ?_)
    | with_reducible refine kk3i (fun s v w h => ?_)
    | with_reducible refine kk4i (fun s v w x h => ?_)
    | with_reducible exact Kp.mul (by assumption)
    | with_reducible exact Kp.new (by assumption)
    | with_reducible refine kl_lX6_renew_12 _ _ _ ?_
    | with_reducible exact kk1 (by assumption) (by assumption)
    | with_reducible exact kk2 (by assumption) (by assumption)
    | with_reducible exact kk3 (by assumption) (by assumption)
    | with_reducible exact kk4 (by assumption) (by assumption))
theorem kf_fX11_sheet {b : ZS} {s0 : ZS} {a0 : Int} {a1 : Int} {a2 : Int} {a3 : Int} (h : Kp b s0) : KK b (fX11_sheet s0 a0 a1 a2 a3) := by
  unfold fX11_sheet
  repeat' (first
    | with_reducible assumption
    | with_reducible exact kk_none
    | with_reducible exact kk_ret (by assumption)
    | with_reducible refine kk_if ?_ ?_
    | with_reducible refine kk_p ?_ (fun s h => ?_)
    | with_reducible refine kk_as ?_ (fun s h => ?_)
    | with_reducible refine kk_na ?_ (fun s h => ?_)
    | with_reducible refine kk_pw ?_ (fun s h => ?_)
    | with_reducible refine kk_ar ?_ (fun s h => ?_)
    | with_reducible refine kk_cp ?_ (fun s h => ?_)
    | with_reducible refine kk_b ?_ (fun v s h => ?_)
    | with_reducible refine kk_g (fun v => ?_)
    | with_reducible refine kk_v ?_
    | with_reducible refine kk_w ?_ ?_ ?_ ?_ ?_ ?_
    | with_reducible refine kk_jn1 (fun k hk => ?_) ?_
    | with_reducible refine kk_jn2 (fun k hk => ?_) ?_
    | with_reducible refine kk_jn3 (fun k hk => ?_) ?_
    | with_reducible refine kk1i (fun s h => ?_)
    | with_reducible refine kk2i (fun s v h => ?_)
    | with_reducible refine kk3i (fun s v w h => ?_)
    | with_reducible refine kk4i (fun s v w x h => ?_)
    | with_reducible exact Kp.mul (by assumption)
    | with_reducible exact Kp.new (by assumption)
    | with_reducible exact kf_fX11_isSheet (by first | assumption | exact Kp.mul (by assumption) | exact Kp.new (by assumption))
    | with_reducible exact kf_fX6_renew (by first | assumption | exact Kp.mul (by assumption) | exact Kp.new (by assumption))
    | with_reducible exact kk1 (by assumption) (by assumption)
    | with_reducible exact kk2 (by assumption) (by assumption)
    | with_reducible exact kk3 (by assumption) (by assumption)
    | with_reducible exact kk4 (by assumption) (by assumption))
theorem kf_fX6_fitted {b : ZS} {s0 : ZS} {a0 : Int} {a1 : Int} (h : Kp b s0) : KK b (fX6_fitted s0 a0 a1) := by
  unfold fX6_fitted
  repeat' (first
    | with_reducible assumption
    | with_reducible exact kk_none
    | with_reducible exact kk_ret (by assumption)
    | with_reducible refine kk_if ?_ ?_
    | with_reducible refine kk_p ?_ (fun s h => ?_)
    | with_reducible refine kk_as ?_ (fun s h => ?_)
    | with_reducible refine kk_na ?_ (fun s h => ?_)
    | with_reducible refine kk_pw ?_ (fun s h => ?_)
    | with_reducible refine kk_ar ?_ (fun s h => ?_)
    | with_reducible refine kk_cp ?_ (fun s h => ?_)
    | with_reducible refine kk_b ?_ (fun v s h => ?_)
    | with_reducible refine kk_g (fun v => ?_)
    | with_reducible refine kk_v ?_
    | with_reducible refine kk_w ?_ ?_ ?_ ?_ ?_ ?_
    | with_reducible refine kk_jn1 (fun k hk => ?_) ?_
    | with_reducible refine kk_jn2 (fun k hk => ?_) ?_
    | with_reducible refine kk_jn3 (fun k hk => ?_) ?_
    | with_reducible refine kk1i (fun s h => ?_)
    | with_reducible refine kk2i (fun s v h => ?_)
    | with_reducible refine kk3i (fun s v w h => ?_)
    | with_reducible refine kk4i (fun s v w x h => ?_)
    | with_reducible exact Kp.mul (by assumption)
    | with_reducible exact Kp.new (by assumption)
    | with_reducible exact kk1 (by assumption) (by assumption)
    | with_reducible exact kk2 (by assumption) (by assumption)
    | with_reducible exact kk3 (by assumption) (by assumption)
    | with_reducible exact kk4 (by assumption) (by assumption))
theorem kf_fX11_cell {b : ZS} {s0 : ZS} {a0 : Int} {a1 : Int} {a2 : Int} {a3 : Int} (h : Kp b s0) : KK b (fX11_cell s0 a0 a1 a2 a3) := by
  unfold fX11_cell
  repeat' (first
    | with_reducible assumption
    | with_reducible exact kk_none
    | with_reducible exact kk_ret (by assumption)
    | with_reducible refine kk_if ?_ ?_
    | with_reducible refine kk_p ?_ (fun s h => ?_)
    | with_reducible refine kk_as ?_ (fun s h => ?_)
    | with_reducible refine kk_na ?_ (fun s h => ?_)
    | with_reducible refine kk_pw ?_ (fun s h => ?_)
    | with_reducible refine kk_ar ?_ (fun s h => ?_)
    | with_reducible refine kk_cp ?_ (fun s h => ?_)
    | with_reducible refine kk_b ?_ (fun v s h => ?_)
    | with_reducible refine kk_g (fun v => ?_)
    | with_reducible refine kk_v ?_
    | with_reducible refine kk_w ?_ ?_ ?_ ?_ ?_ ?_
    | with_reducible refine kk_jn1 (fun k hk => ?_) ?_
    | with_reducible refine kk_jn2 (fun k hk => ?_) ?_
    | with_reducible refine kk_jn3 (fun k hk => ?_) ?_
    | with_reducible refine kk1i (fun s h => ?_)
    | with_reducible refine kk2i (fun s v h => ?_)
    | with_reducible refine kk3i (fun s v w h => ?_)
    | with_reducible refine kk4i (fun s v w x h => ?_)
    | with_reducible exact Kp.mul (by assumption)
    | with_reducible exact Kp.new (by assumption)
    | with_reducible exact kf_fX11_isSheet (by first | assumption | exact Kp.mul (by assumption) | exact Kp.new (by assumption))
    | with_reducible exact kf_fX6_isMissing (by first | assumption | exact Kp.mul (by assumption) | exact Kp.new (by assumption))
    | with_reducible exact kf_fX6_fitted (by first | assumption | exact Kp.mul (by assumption) | exact Kp.new (by assumption))
    | with_reducible exact kk1 (by assumption) (by assumption)
    | with_reducible exact kk2 (by assumption) (by assumption)
    | with_reducible exact kk3 (by assumption) (by assumption)
    | with_reducible exact kk4 (by assumption) (by assumption))
theorem kf_fX6_reaches {b : ZS} {s0 : ZS} {a0 : Int} {a1 : Int} {a2 : Int} (h : Kp b s0) : KK b (fX6_reaches s0 a0 a1 a2) := by
  unfold fX6_reaches
  repeat' (first
    | with_reducible assumption
    | with_reducible exact kk_none
    | with_reducible exact kk_ret (by assumption)
    | with_reducible refine kk_if ?_ ?_
    | with_reducible refine kk_p ?_ (fun s h => ?_)
    | with_reducible refine kk_as ?_ (fun s h => ?_)
    | with_reducible refine kk_na ?_ (fun s h => ?_)
    | with_reducible refine kk_pw ?_ (fun s h => ?_)
    | with_reducible refine kk_ar ?_ (fun s h => ?_)
    | with_reducible refine kk_cp ?_ (fun s h => ?_)
    | with_reducible refine kk_b ?_ (fun v s h => ?_)
    | with_reducible refine kk_g (fun v => ?_)
    | with_reducible refine kk_v ?_
    | with_reducible refine kk_w ?_ ?_ ?_ ?_ ?_ ?_
    | with_reducible refine kk_jn1 (fun k hk => ?_) ?_
    | with_reducible refine kk_jn2 (fun k hk => ?_) ?_
    | with_reducible refine kk_jn3 (fun k hk => ?_) ?_
    | with_reducible refine kk1i (fun s h => ?_)
    | with_reducible refine kk2i (fun s v h => ?_)
    | with_reducible refine kk3i (fun s v w h => ?_)
    | with_reducible refine kk4i (fun s v w x h => ?_)
    | with_reducible exact Kp.mul (by assumption)
    | with_reducible exact Kp.new (by assumption)
    | with_reducible exact kk1 (by assumption) (by assumption)
    | with_reducible exact kk2 (by assumption) (by assumption)
    | with_reducible exact kk3 (by assumption) (by assumption)
    | with_reducible exact kk4 (by assumption) (by assumption))
theorem kf_fX11_copy {b : ZS} {s0 : ZS} {a0 : Int} {a1 : Int} {a2 : Int} {a3 : Int} {a4 : Int} {a5 : Int} (h : Kp b s0) : KK b (fX11_copy s0 a0 a1 a2 a3 a4 a5) := by
  unfold fX11_copy
  repeat' (first
    | with_reducible assumption
    | with_reducible exact kk_none
    | with_reducible exact kk_ret (by assumption)
    | with_reducible refine kk_if ?_ ?_
    | with_reducible refine kk_p ?_ (fun s h => ?_)
    | with_reducible refine kk_as ?_ (fun s h => ?_)
    | with_reducible refine kk_na ?_ (fun s h => ?_)
    | with_reducible refine kk_pw ?_ (fun s h => ?_)
    | with_reducible refine kk_ar ?_ (fun s h => ?_)
    | with_reducible refine kk_cp ?_ (fun s h => ?_)
    | with_reducible refine kk_b ?_ (fun v s h => ?_)
    | with_reducible refine kk_g (fun v => ?_)
    | with_reducible refine kk_v ?_
    | with_reducible refine kk_w ?_ ?_ ?_ ?_ ?_ ?_
    | with_reducible refine kk_jn1 (fun k hk => ?_) ?_
    | with_reducible refine kk_jn2 (fun k hk => ?_) ?_
    | with_reducible refine kk_jn3 (fun k hk => ?_) ?_
    | with_reducible refine kk1i (fun s h => ?_)
    | with_reducible refine kk2i (fun s v h => ?_)
    | with_reducible refine kk3i (fun s v w h => ?_)
    | with_reducible refine kk4i (fun s v w x h => ?_)
    | with_reducible exact Kp.mul (by assumption)
    | with_reducible exact Kp.new (by assumption)
    | with_reducible exact kf_fX11_isSheet (by first | assumption | exact Kp.mul (by assumption) | exact Kp.new (by assumption))
    | with_reducible exact kf_fX6_isMissing (by first | assumption | exact Kp.mul (by assumption) | exact Kp.new (by assumption))
    | with_reducible exact kf_fX6_reaches (by first | assumption | exact Kp.mul (by assumption) | exact Kp.new (by assumption))
    | with_reducible exact kk1 (by assumption) (by assumption)
    | with_reducible exact kk2 (by assumption) (by assumption)
    | with_reducible exact kk3 (by assumption) (by assumption)
    | with_reducible exact kk4 (by assumption) (by assumption))
theorem kl_lX11_rates_68 {b : ZS} {u22 u23 u24 : Int} : ∀ (n : Nat) (s : ZS) (x0 x1 x2 : Int), Kp b s → KK b (lX11_rates_68 u22 u23 u24 n s x0 x1 x2) := by
  intro n
  induction n with
  | zero => intro s x0 x1 x2 h; exact kk_none
  | succ n ih =>
    intro s x0 x1 x2 h
    rw [lX11_rates_68]
    repeat' (first
    | with_reducible assumption
    | with_reducible exact kk_none
    | with_reducible exact kk_ret (by assumption)
    | with_reducible refine kk_if ?_ ?_
    | with_reducible refine kk_p ?_ (fun s h => ?_)
    | with_reducible refine kk_as ?_ (fun s h => ?_)
    | with_reducible refine kk_na ?_ (fun s h => ?_)
    | with_reducible refine kk_pw ?_ (fun s h => ?_)
    | with_reducible refine kk_ar ?_ (fun s h => ?_)
    | with_reducible refine kk_cp ?_ (fun s h => ?_)
    | with_reducible refine kk_b ?_ (fun v s h => ?_)
    | with_reducible refine kk_g (fun v => ?_)
    | with_reducible refine kk_v ?_
    | with_reducible refine kk_w ?_ ?_ ?_ ?_ ?_ ?_
    | with_reducible refine kk_jn1 (fun k hk => ?_) ?_
    | with_reducible refine kk_jn2 (fun k hk => ?_) ?_
    | with_reducible refine kk_jn3 (fun k hk => ?_) ?_
    | with_reducible refine kk1i (fun s h => ?_)
    | with_reducible refine kk2i (fun s v h => ?_)
    | with_reducible refine kk3i (fun s v w h => ?_)
    | with_reducible refine kk4i (fun s v w x h => ?_)
    | with_reducible exact Kp.mul (by assumption)
    | with_reducible exact Kp.new (by assumption)
    | with_reducible exact kf_fX11_rate (by first | assumption | exact Kp.mul (by assumption) | exact Kp.new (by assumption))
    | with_reducible exact kf_fX6_reaches (by first | assumption | exact Kp.mul (by assumption) | exact Kp.new (by assumption))
    | with_reducible exact ih _ _ _ _ (by assumption)
    | with_reducible exact kk1 (by assumption) (by assumption)
    | with_reducible exact kk2 (by assumption) (by assumption)
    | with_reducible exact kk3 (by assumption) (by assumption)
    | with_reducible exact kk4 (by assumption) (by assumption))
theorem kf_fX11_rates {b : ZS} {s0 : ZS} {a0 : Int} {a1 : Int} {a2 : Int} {a3 : Int} {a4 : Int} (h : Kp b s0) : KK b (fX11_rates s0 a0 a1 a2 a3 a4) := by
  unfold fX11_rates
  repeat' (first
    | with_reducible assumption
    | with_reducible exact kk_none
    | with_reducible exact kk_ret (by assumption)
    | with_reducible refine kk_if ?_ ?_
    | with_reducible refine kk_p ?_ (fun s h => ?_)
    | with_reducible refine kk_as ?_ (fun s h => ?_)
    | with_reducible refine kk_na ?_ (fun s h => ?_)
    | with_reducible refine kk_pw ?_ (fun s h => ?_)
    | with_reducible refine kk_ar ?_ (fun s h => ?_)
    | with_reducible refine kk_cp ?_ (fun s h => ?_)
    | with_reducible refine kk_b ?_ (fun v s h => ?_)
    | with_reducible refine kk_g (fun v => ?_)
    | with_reducible refine kk_v ?_
    | with_reducible refine kk_w ?_ ?_ ?_ ?_ ?_ ?_
    | with_reducible refine kk_jn1 (fun k hk => ?_) ?_
    | with_reducible refine kk_jn2 (fun k hk => ?_) ?_
    | with_reducible refine kk_jn3 (fun k hk => ?_) ?_
    | with_reducible refine kk1i (fun s h => ?_)
    | with_reducible refine kk2i (fun s v h => ?_)
    | with_reducible refine kk3i (fun s v w h => ?_)
    | with_reducible refine kk4i (fun s v w x h => ?_)
    | with_reducible exact Kp.mul (by assumption)
    | with_reducible exact Kp.new (by assumption)
    | with_reducible exact kf_fX11_within (by first | assumption | exact Kp.mul (by assumption) | exact Kp.new (by assumption))
    | with_reducible exact kf_fX11_isSheet (by first | assumption | exact Kp.mul (by assumption) | exact Kp.new (by assumption))
    | with_reducible exact kf_fX6_isMissing (by first | assumption | exact Kp.mul (by assumption) | exact Kp.new (by assumption))
    | with_reducible refine kl_lX11_rates_68 _ _ _ _ _ ?_
    | with_reducible exact kk1 (by assumption) (by assumption)
    | with_reducible exact kk2 (by assumption) (by assumption)
    | with_reducible exact kk3 (by assumption) (by assumption)
    | with_reducible exact kk4 (by assumption) (by assumption))
theorem kf_fX11_isOfKind {b : ZS} {s0 : ZS} {a0 : Int} {a1 : Int} (h : Kp b s0) : KK b (fX11_isOfKind s0 a0 a1) := by
  unfold fX11_isOfKind
  repeat' (first
    | with_reducible assumption
    | with_reducible exact kk_none
    | with_reducible exact kk_ret (by assumption)
    | with_reducible refine kk_if ?_ ?_
    | with_reducible refine kk_p ?_ (fun s h => ?_)
    | with_reducible refine kk_as ?_ (fun s h => ?_)
    | with_reducible refine kk_na ?_ (fun s h => ?_)
    | with_reducible refine kk_pw ?_ (fun s h => ?_)
    | with_reducible refine kk_ar ?_ (fun s h => ?_)
    | with_reducible refine kk_cp ?_ (fun s h => ?_)
    | with_reducible refine kk_b ?_ (fun v s h => ?_)
    | with_reducible refine kk_g (fun v => ?_)
    | with_reducible refine kk_v ?_
    | with_reducible refine kk_w ?_ ?_ ?_ ?_ ?_ ?_
    | with_reducible refine kk_jn1 (fun k hk => ?_) ?_
    | with_reducible refine kk_jn2 (fun k hk => ?_) ?_
    | with_reducible refine kk_jn3 (fun k hk => ?_) ?_
    | with_reducible refine kk1i (fun s h => ?_)
    | with_reducible refine kk2i (fun s v h => ?_)
    | with_reducible refine kk3i (fun s v w h => ?_)
    | with_reducible refine kk4i (fun s v w x h => ?_)
    | with_reducible exact Kp.mul (by assumption)
    | with_reducible exact Kp.new (by assumption)
    | with_reducible exact kk1 (by assumption) (by assumption)
    | with_reducible exact kk2 (by assumption) (by assumption)
    | with_reducible exact kk3 (by assumption) (by assumption)
    | with_reducible exact kk4 (by assumption) (by assumption))
theorem kf_fX11_taken {b : ZS} {s0 : ZS} {a0 : Int} {a1 : Int} {a2 : Int} (h : Kp b s0) : KK b (fX11_taken s0 a0 a1 a2) := by
  unfold fX11_taken
  repeat' (first
    | with_reducible assumption
    | with_reducible exact kk_none
    | with_reducible exact kk_ret (by assumption)
    | with_reducible refine kk_if ?_ ?_
    | with_reducible refine kk_p ?_ (fun s h => ?_)
    | with_reducible refine kk_as ?_ (fun s h => ?_)
    | with_reducible refine kk_na ?_ (fun s h => ?_)
    | with_reducible refine kk_pw ?_ (fun s h => ?_)
    | with_reducible refine kk_ar ?_ (fun s h => ?_)
    | with_reducible refine kk_cp ?_ (fun s h => ?_)
    | with_reducible refine kk_b ?_ (fun v s h => ?_)
    | with_reducible refine kk_g (fun v => ?_)
    | with_reducible refine kk_v ?_
    | with_reducible refine kk_w ?_ ?_ ?_ ?_ ?_ ?_
    | with_reducible refine kk_jn1 (fun k hk => ?_) ?_
    | with_reducible refine kk_jn2 (fun k hk => ?_) ?_
    | with_reducible refine kk_jn3 (fun k hk => ?_) ?_
    | with_reducible refine kk1i (fun s h => ?_)
    | with_reducible refine kk2i (fun s v h => ?_)
    | with_reducible refine kk3i (fun s v w h => ?_)
    | with_reducible refine kk4i (fun s v w x h => ?_)
    | with_reducible exact Kp.mul (by assumption)
    | with_reducible exact Kp.new (by assumption)
    | with_reducible exact kf_fX11_within (by first | assumption | exact Kp.mul (by assumption) | exact Kp.new (by assumption))
    | with_reducible exact kf_fX11_wayAt (by first | assumption | exact Kp.mul (by assumption) | exact Kp.new (by assumption))
    | with_reducible exact kf_fX11_isOfKind (by first | assumption | exact Kp.mul (by assumption) | exact Kp.new (by assumption))
    | with_reducible exact kk1 (by assumption) (by assumption)
    | with_reducible exact kk2 (by assumption) (by assumption)
    | with_reducible exact kk3 (by assumption) (by assumption)
    | with_reducible exact kk4 (by assumption) (by assumption))
