/-! the two halves' cells, held against each other -/
theorem zb_some (v : Int) (σ : ZS) (O : Int → ZS → Option (Int × ZS)) : zb (some (v, σ)) O = O v σ := rfl
theorem zb_none (O : Int → ZS → Option (Int × ZS)) : zb none O = none := rfl
theorem wr {x : Int} (h0 : -2147483648 ≤ x) (h1 : x < 2147483648) : wrap x = x := wrap_id ⟨h0, h1⟩
theorem wrL {x : Int} (h0 : -9223372036854775808 ≤ x) (h1 : x < 9223372036854775808) : wrapL x = x := wrapL_id ⟨h0, h1⟩
/-- outside S nothing that was there has changed -/
def Off (S : Int → Int → Prop) (σ τ : ZS) : Prop := (∀ a i : Int, a < (sN σ : Int) → ¬ S a i → sM τ a i = sM σ a i) ∧ (∀ a : Int, a < (sN σ : Int) → sK τ a = sK σ a) ∧ (∀ a : Int, a < (sN σ : Int) → sL τ a = sL σ a) ∧ sN σ ≤ sN τ
/-- nothing new -/
def Stl (σ τ : ZS) : Prop := sN τ = sN σ ∧ sT τ = sT σ
theorem Off.rf {S : Int → Int → Prop} {σ : ZS} : Off S σ σ := ⟨fun _ _ _ _ => rfl, fun _ _ => rfl, fun _ _ => rfl, Nat.le_refl _⟩
theorem Stl.rf {σ : ZS} : Stl σ σ := ⟨rfl, rfl⟩
theorem Stl.tr {σ τ ρ : ZS} (h : Stl σ τ) (k : Stl τ ρ) : Stl σ ρ := ⟨k.1.trans h.1, k.2.trans h.2⟩
theorem Stl.upM {σ : ZS} {a i v : Int} : Stl σ (upM σ a i v) := ⟨rfl, rfl⟩
theorem Stl.upR {σ : ZS} {a : Int} {f : Int → Int} : Stl σ (upR σ a f) := ⟨rfl, rfl⟩
theorem Off.tr {S : Int → Int → Prop} {σ τ ρ : ZS} (h : Off S σ τ) (k : Off S τ ρ) : Off S σ ρ :=
  ⟨fun a i ha hs => by rw [k.1 a i (by have := h.2.2.2; omega) hs, h.1 a i ha hs], fun a ha => by rw [k.2.1 a (by have := h.2.2.2; omega), h.2.1 a ha], fun a ha => by rw [k.2.2.1 a (by have := h.2.2.2; omega), h.2.2.1 a ha], Nat.le_trans h.2.2.2 k.2.2.2⟩
theorem Off.mono {S T : Int → Int → Prop} {σ τ : ZS} (h : Off S σ τ) (hST : ∀ a i, S a i → T a i) : Off T σ τ := ⟨fun a i ha hs => h.1 a i ha (fun q => hs (hST a i q)), h.2⟩
theorem Off.upM {S : Int → Int → Prop} {σ : ZS} {a i v : Int} (h : S a i) : Off S σ (upM σ a i v) := ⟨fun b j _ hs => by
  rw [sM_upM, if_neg]
  rintro ⟨rfl, rfl⟩
  exact hs h, fun _ _ => rfl, fun _ _ => rfl, Nat.le_refl _⟩
theorem Off.upR {S : Int → Int → Prop} {σ : ZS} {a : Int} {f : Int → Int} (h : ∀ i, S a i) : Off S σ (upR σ a f) := ⟨fun b j _ hs => by
  rw [sM_upR, if_neg]
  rintro rfl
  exact hs (h j), fun _ _ => rfl, fun _ _ => rfl, Nat.le_refl _⟩
theorem FxD.off {S : Int → Int → Prop} {σ τ : ZS} (h : FxD σ) (k : Off S σ τ) (hS : ∀ a i, S a i → NFb a i = true) : FxD τ := by
  have h9 := h.2.2.2
  refine ⟨fun a h0 h1 => ?_, fun a h0 h1 h2 => ?_, fun q hq => ?_, Nat.le_trans h9 k.2.2.2⟩
  · rw [k.2.1 a (by omega)]; exact h.1 a h0 h1
  · rw [k.2.2.1 a (by omega)]; exact h.2.1 a h0 h1 h2
  · have hb : ∀ q : Int × Int × Int, q ∈ finl → q.1 < 93 := by decide +kernel
    have h3 := hb q hq
    rw [k.1 q.1 q.2.1 (by omega) (fun s => by have := hS _ _ s; rw [NF_not q hq] at this; cases this)]
    exact h.2.2.1 q hq
/-- kinds of ways -/
def wk (k : Int) : Int := if k = 1 then 9 else if k = 2 then 3 else if k = 3 then 0 else if k = 4 then 1 else if k = 5 then 7 else 10
def RGate (σ : ZS) : Prop := ∀ g t : Int, 0 ≤ g → g < 2 → 0 ≤ t → t < 24 → sM σ (7 + g) t = sM σ 65 (24 * g + t) ∧ sM σ (10 + g) t = sM σ 66 (24 * g + t) ∧ (0 ≤ sM σ 65 (24 * g + t) ∧ sM σ 65 (24 * g + t) ≤ 9) ∧ (0 ≤ sM σ 66 (24 * g + t) ∧ sM σ 66 (24 * g + t) ≤ 99)
def RSort (σ : ZS) : Prop := sM σ 5 5 = sM σ 64 2 ∧ (0 ≤ sM σ 64 2 ∧ sM σ 64 2 ≤ 4) ∧ sM σ 5 8 = 0 ∧ ∀ s : Int, 0 ≤ s → s < 4 → (sM σ 15 s = sM σ 67 s ∧ 0 ≤ sM σ 67 s ∧ sM σ 67 s ≤ 23) ∧ (sM σ 16 s = sM σ 68 s ∧ 0 ≤ sM σ 68 s ∧ sM σ 68 s ≤ 999) ∧ (sM σ 13 s = sM σ 69 (2 * s) ∧ 0 ≤ sM σ 69 (2 * s) ∧ sM σ 69 (2 * s) ≤ 9) ∧ (sM σ 14 s = sM σ 69 (2 * s + 1) ∧ 0 ≤ sM σ 69 (2 * s + 1) ∧ sM σ 69 (2 * s + 1) ≤ 9)
def RCart (σ : ZS) : Prop := sM σ 5 7 = sM σ 64 6 ∧ (0 ≤ sM σ 64 6 ∧ sM σ 64 6 ≤ 16) ∧ ∀ c : Int, 0 ≤ c → c < 16 → sM σ 17 c = sM σ 70 c ∧ 0 ≤ sM σ 70 c ∧ sM σ 70 c < 4
def RWayAt (σ : ZS) (w W : Int) : Prop := (93 ≤ W ∧ W + 2 < (sN σ : Int)) ∧ (0 ≤ sM σ 71 w ∧ sM σ 71 w ≤ 5) ∧ sK σ W = wk (sM σ 71 w) ∧ (sM σ W 0 = sM σ 72 w ∧ 0 ≤ sM σ 72 w ∧ sM σ 72 w ≤ 16) ∧ (sM σ W 1 = W + 1 ∧ sM σ W 2 = W + 2) ∧ (sK σ (W + 1) = 100 ∧ sK σ (W + 2) = 100 ∧ sL σ (W + 1) = 16 ∧ sL σ (W + 2) = 16) ∧ ∀ c : Int, 0 ≤ c → c < sM σ 72 w → sM σ (W + 1) c = sM σ 73 (16 * w + c) ∧ 0 ≤ sM σ 73 (16 * w + c) ∧ sM σ 73 (16 * w + c) ≤ 48
def RWay (σ : ZS) : Prop := sM σ 3 3 = sM σ 64 8 ∧ (0 ≤ sM σ 64 8 ∧ sM σ 64 8 ≤ 8) ∧ (∀ w : Int, 0 ≤ w → w < sM σ 64 8 → RWayAt σ w (sM σ 33 w)) ∧ ∀ v w : Int, 0 ≤ v → v < w → w < sM σ 64 8 → sM σ 33 v + 2 < sM σ 33 w
/-- no way is for a cart that there is not, no cart of a sort that there is not -/
def RCap (σ : ZS) : Prop := (∀ c : Int, 0 ≤ c → c < sM σ 64 6 → sM σ 70 c < sM σ 64 2) ∧ ∀ w : Int, 0 ≤ w → w < sM σ 64 8 → sM σ 72 w ≤ sM σ 64 6
def RTape (σ : ZS) : Prop := sM σ 34 1 = sM σ 64 13 ∧ (0 ≤ sM σ 64 13 ∧ sM σ 64 13 ≤ 160) ∧ (∀ i : Int, 0 ≤ i → i < sM σ 64 13 → sM σ 35 i = sM σ 74 i ∧ 0 ≤ sM σ 74 i ∧ sM σ 74 i ≤ 255) ∧ RCap σ
/-- a step as the reference codes it -/
def cv (x : Int) : Int := if x < 10000 then 100000 + x else if x < 10006 then x - 10000 else if x = 10006 then 16 else if x = 10007 then 17 else if x = 10008 then 18 else if x = 10009 then 14 else if x = 10010 then 15 else if x = 10011 then 12 else if x = 10012 then 11 else if x = 10013 then 13 else 19
/-- steps that leave one number, and never more than 64 -/
def dpk (d : Nat) : List Int → Bool
  | [] => decide (d = 1)
  | x :: xs => decide (0 ≤ x ∧ x ≤ 10014) && (if x < 10006 then decide (d < 64) && dpk (d + 1) xs else if x < 10013 then decide (2 ≤ d) && dpk (d - 1) xs else decide (1 ≤ d) && dpk d xs)
def rowL (f : Int → Int) (n : Nat) : List Int := (List.range n).map (fun i : Nat => f (i : Int))
def RTx (σ : ZS) (t T p : Int) : Prop := (sK σ (sM σ T p) = 100 ∧ 0 ≤ sM σ T p ∧ ((T = 55 ∧ sM σ T p < 2) ∨ (93 ≤ sM σ T p ∧ sM σ T p = T + 1 + p)) ∧ sM σ T p < (sN σ : Int)) ∧ (0 ≤ sM σ 76 (4 * t + p) ∧ sM σ 76 (4 * t + p) + sL σ (sM σ T p) = sM σ 76 (4 * t + p + 1) ∧ sM σ 76 (4 * t + p + 1) ≤ 200 ∧ 0 ≤ sL σ (sM σ T p)) ∧ (∀ i : Int, 0 ≤ i → i < sL σ (sM σ T p) → sM σ 75 (200 * t + (sM σ 76 (4 * t + p) + i)) = cv (sM σ (sM σ T p) i)) ∧ dpk 0 (rowL (sM σ (sM σ T p)) (sL σ (sM σ T p)).toNat) = true
def RTextAt (σ : ZS) (t T : Int) : Prop := (sK σ T = 8 ∧ (T = 55 ∨ 93 ≤ T) ∧ T < (sN σ : Int)) ∧ RTx σ t T 0 ∧ RTx σ t T 1
def RText (σ : ZS) : Prop := sM σ 3 6 = sM σ 64 16 ∧ (1 ≤ sM σ 64 16 ∧ sM σ 64 16 ≤ 6) ∧ ∀ t : Int, 0 ≤ t → t < sM σ 64 16 → RTextAt σ t (sM σ 39 t)
def RRule (σ : ZS) : Prop := sM σ 3 7 = sM σ 64 17 ∧ 0 ≤ sM σ 64 17 ∧ sM σ 64 17 < sM σ 64 16
def RImg (σ : ZS) : Prop := sM σ 3 10 = sM σ 64 18 ∧ (sM σ 64 18 = 0 ∨ (sM σ 64 18 = 1 ∧ (sM σ 3 11 = sM σ 64 19 ∧ 0 ≤ sM σ 64 19 ∧ sM σ 64 19 ≤ 4) ∧ (sM σ 3 12 = sM σ 64 20 ∧ 0 ≤ sM σ 64 20 ∧ sM σ 64 20 ≤ sM σ 64 8) ∧ (sM σ 3 13 = sM σ 64 21 ∧ 0 ≤ sM σ 64 21 ∧ sM σ 64 21 < sM σ 64 16) ∧
  (∀ g t : Int, 0 ≤ g → g < 2 → 0 ≤ t → t < 24 → sM σ (43 + g) t = sM σ 77 (24 * g + t) ∧ sM σ (46 + g) t = sM σ 78 (24 * g + t) ∧ (0 ≤ sM σ 77 (24 * g + t) ∧ sM σ 77 (24 * g + t) ≤ 9) ∧ (0 ≤ sM σ 78 (24 * g + t) ∧ sM σ 78 (24 * g + t) ≤ 99)) ∧
  (∀ s : Int, 0 ≤ s → s < sM σ 64 19 → sM σ 51 s = sM σ 79 s ∧ 0 ≤ sM σ 79 s ∧ sM σ 79 s ≤ 23) ∧
  (∀ w c : Int, 0 ≤ w → w < sM σ 64 20 → 0 ≤ c → c < sM σ 72 w → sM σ (sM σ 33 w + 2) c = sM σ 80 (16 * w + c) ∧ 0 ≤ sM σ 80 (16 * w + c) ∧ sM σ 80 (16 * w + c) ≤ 48)))
def RSheet (σ : ZS) : Prop := ∀ s : Int, 0 ≤ s → s < 4 → (sM σ (56 + 2 * s) 1 = sM σ 81 s ∧ -1 ≤ sM σ 81 s ∧ sM σ 81 s ≤ 2) ∧ (sM σ (56 + 2 * s) 2 = sM σ 82 s ∧ 0 ≤ sM σ 82 s ∧ sM σ 82 s ≤ 40) ∧ ∀ i : Int, 0 ≤ i → i < 40 → sM σ (57 + 2 * s) i = sM σ 83 (40 * s + i)
def RScr (σ : ZS) : Prop := (0 ≤ sL σ 2 ∧ sL σ 2 ≤ 384) ∧ ∀ i : Int, zInR (sM σ 2 i)
def Rel (σ : ZS) : Prop := FxD σ ∧ RGate σ ∧ RSort σ ∧ RCart σ ∧ RWay σ ∧ RTape σ ∧ RText σ ∧ RRule σ ∧ RImg σ ∧ RSheet σ ∧ RScr σ
/-! what each speaks of -/
def pGate (a : Int) : Prop := (7 ≤ a ∧ a ≤ 8) ∨ (10 ≤ a ∧ a ≤ 11) ∨ a = 65 ∨ a = 66
def pSort (a i : Int) : Prop := (13 ≤ a ∧ a ≤ 16) ∨ (67 ≤ a ∧ a ≤ 69) ∨ (a = 5 ∧ (i = 5 ∨ i = 8)) ∨ (a = 64 ∧ i = 2)
def pCart (a i : Int) : Prop := a = 17 ∨ a = 70 ∨ (a = 5 ∧ i = 7) ∨ (a = 64 ∧ i = 6)
def pWay (a i : Int) : Prop := a = 33 ∨ (71 ≤ a ∧ a ≤ 73) ∨ (a = 3 ∧ i = 3) ∨ (a = 64 ∧ i = 8) ∨ 93 ≤ a
def pTape (a i : Int) : Prop := a = 35 ∨ a = 74 ∨ (a = 34 ∧ i = 1) ∨ (a = 64 ∧ (i = 13 ∨ i = 2 ∨ i = 6 ∨ i = 8)) ∨ a = 70 ∨ a = 72
def pText (a i : Int) : Prop := a = 39 ∨ a = 55 ∨ a = 0 ∨ a = 1 ∨ (75 ≤ a ∧ a ≤ 76) ∨ (a = 3 ∧ i = 6) ∨ (a = 64 ∧ i = 16) ∨ 93 ≤ a
def pRule (a i : Int) : Prop := (a = 3 ∧ i = 7) ∨ (a = 64 ∧ (16 ≤ i ∧ i ≤ 17))
def pImg (a i : Int) : Prop := (43 ≤ a ∧ a ≤ 44) ∨ (46 ≤ a ∧ a ≤ 47) ∨ a = 51 ∨ (77 ≤ a ∧ a ≤ 80) ∨ a = 33 ∨ a = 72 ∨ (a = 3 ∧ (10 ≤ i ∧ i ≤ 13)) ∨ (a = 64 ∧ ((18 ≤ i ∧ i ≤ 21) ∨ i = 8 ∨ i = 16)) ∨ 93 ≤ a
def pSheet (a i : Int) : Prop := (56 ≤ a ∧ a ≤ 63) ∨ (81 ≤ a ∧ a ≤ 83)
theorem RGate.off {S : Int → Int → Prop} {σ τ : ZS} (hF : FxD σ) (k : Off S σ τ) (hS : ∀ a i, pGate a → ¬ S a i) (h : RGate σ) : RGate τ := by
  have h9 := hF.2.2.2
  intro g t g0 g1 t0 t1
  rw [k.1 (7 + g) t (by omega) (hS _ _ (by unfold pGate; omega)), k.1 (10 + g) t (by omega) (hS _ _ (by unfold pGate; omega)), k.1 65 _ (by omega) (hS _ _ (by unfold pGate; omega)), k.1 66 _ (by omega) (hS _ _ (by unfold pGate; omega))]
  exact h g t g0 g1 t0 t1
theorem RSort.off {S : Int → Int → Prop} {σ τ : ZS} (hF : FxD σ) (k : Off S σ τ) (hS : ∀ a i, pSort a i → ¬ S a i) (h : RSort σ) : RSort τ := by
  have h9 := hF.2.2.2
  have e : ∀ a i, pSort a i → a < 93 → sM τ a i = sM σ a i := fun a i hp ha => k.1 a i (by omega) (hS a i hp)
  unfold RSort
  rw [e 5 5 (by unfold pSort; omega) (by omega), e 64 2 (by unfold pSort; omega) (by omega), e 5 8 (by unfold pSort; omega) (by omega)]
  refine ⟨h.1, h.2.1, h.2.2.1, fun s h0 h1 => ?_⟩
  rw [e 15 s (by unfold pSort; omega) (by omega), e 67 s (by unfold pSort; omega) (by omega), e 16 s (by unfold pSort; omega) (by omega), e 68 s (by unfold pSort; omega) (by omega), e 13 s (by unfold pSort; omega) (by omega), e 69 _ (by unfold pSort; omega) (by omega), e 14 s (by unfold pSort; omega) (by omega), e 69 _ (by unfold pSort; omega) (by omega)]
  exact h.2.2.2 s h0 h1
theorem RCart.off {S : Int → Int → Prop} {σ τ : ZS} (hF : FxD σ) (k : Off S σ τ) (hS : ∀ a i, pCart a i → ¬ S a i) (h : RCart σ) : RCart τ := by
  have h9 := hF.2.2.2
  have e : ∀ a i, pCart a i → a < 93 → sM τ a i = sM σ a i := fun a i hp ha => k.1 a i (by omega) (hS a i hp)
  unfold RCart
  rw [e 5 7 (by unfold pCart; omega) (by omega), e 64 6 (by unfold pCart; omega) (by omega)]
  refine ⟨h.1, h.2.1, fun s h0 h1 => ?_⟩
  rw [e 17 s (by unfold pCart; omega) (by omega), e 70 s (by unfold pCart; omega) (by omega)]
  exact h.2.2 s h0 h1
theorem RWayAt.off {S : Int → Int → Prop} {σ τ : ZS} {w W : Int} (hF : FxD σ) (k : Off S σ τ) (hS : ∀ a i, pWay a i → ¬ S a i) (h : RWayAt σ w W) : RWayAt τ w W := by
  have h9 := hF.2.2.2
  obtain ⟨⟨a1, a2⟩, b, c, d, e, f, g⟩ := h
  have e1 : ∀ a i, pWay a i → a < (sN σ : Int) → sM τ a i = sM σ a i := fun a i hp ha => k.1 a i ha (hS a i hp)
  have hn := k.2.2.2
  unfold RWayAt
  rw [e1 71 w (by unfold pWay; omega) (by omega), e1 72 w (by unfold pWay; omega) (by omega), e1 W 0 (by unfold pWay; omega) (by omega), e1 W 1 (by unfold pWay; omega) (by omega), e1 W 2 (by unfold pWay; omega) (by omega), k.2.1 W (by omega), k.2.1 (W + 1) (by omega), k.2.1 (W + 2) (by omega), k.2.2.1 (W + 1) (by omega), k.2.2.1 (W + 2) (by omega)]
  refine ⟨⟨a1, by omega⟩, b, c, d, e, f, fun i h0 h1 => ?_⟩
  rw [e1 (W + 1) i (by unfold pWay; omega) (by omega), e1 73 _ (by unfold pWay; omega) (by omega)]
  exact g i h0 h1
theorem RWay.off {S : Int → Int → Prop} {σ τ : ZS} (hF : FxD σ) (k : Off S σ τ) (hS : ∀ a i, pWay a i → ¬ S a i) (h : RWay σ) : RWay τ := by
  have h9 := hF.2.2.2
  have e : ∀ a i, pWay a i → a < 93 → sM τ a i = sM σ a i := fun a i hp ha => k.1 a i (by omega) (hS a i hp)
  unfold RWay
  rw [e 3 3 (by unfold pWay; omega) (by omega), e 64 8 (by unfold pWay; omega) (by omega)]
  refine ⟨h.1, h.2.1, fun w h0 h1 => ?_, fun v w h0 h1 h2 => ?_⟩
  · rw [e 33 w (by unfold pWay; omega) (by omega)]
    exact (h.2.2.1 w h0 h1).off hF k hS
  · rw [e 33 w (by unfold pWay; omega) (by omega), e 33 v (by unfold pWay; omega) (by omega)]
    exact h.2.2.2 v w h0 h1 h2
theorem RCap.off {S : Int → Int → Prop} {σ τ : ZS} (hF : FxD σ) (k : Off S σ τ) (hS : ∀ a i, ((a = 64 ∧ (i = 6 ∨ i = 8)) ∨ a = 70 ∨ a = 72) → ¬ S a i) (hm : sM σ 64 2 ≤ sM τ 64 2) (h : RCap σ) : RCap τ := by
  have h9 := hF.2.2.2
  have e : ∀ a i, ((a = 64 ∧ (i = 6 ∨ i = 8)) ∨ a = 70 ∨ a = 72) → a < 93 → sM τ a i = sM σ a i := fun a i hp ha => k.1 a i (by omega) (hS a i hp)
  unfold RCap
  rw [e 64 6 (by omega) (by omega), e 64 8 (by omega) (by omega)]
  refine ⟨fun c h0 h1 => ?_, fun w h0 h1 => ?_⟩
  · rw [e 70 c (by omega) (by omega)]
    have := h.1 c h0 h1
    omega
  · rw [e 72 w (by omega) (by omega)]
    exact h.2 w h0 h1
theorem RTape.offS {S : Int → Int → Prop} {σ τ : ZS} (hF : FxD σ) (k : Off S σ τ) (hS : ∀ a i, pTape a i → ¬ (a = 64 ∧ i = 2) → ¬ S a i) (hm : sM σ 64 2 ≤ sM τ 64 2) (h : RTape σ) : RTape τ := by
  have h9 := hF.2.2.2
  have e : ∀ a i, pTape a i → ¬ (a = 64 ∧ i = 2) → a < 93 → sM τ a i = sM σ a i := fun a i hp hn ha => k.1 a i (by omega) (hS a i hp hn)
  unfold RTape
  rw [e 34 1 (by unfold pTape; omega) (by omega) (by omega), e 64 13 (by unfold pTape; omega) (by omega) (by omega)]
  refine ⟨h.1, h.2.1, fun s h0 h1 => ?_, RCap.off hF k (fun a i p => hS a i (by unfold pTape; omega) (by omega)) hm h.2.2.2⟩
  rw [e 35 s (by unfold pTape; omega) (by omega) (by omega), e 74 s (by unfold pTape; omega) (by omega) (by omega)]
  exact h.2.2.1 s h0 h1
theorem RTape.off {S : Int → Int → Prop} {σ τ : ZS} (hF : FxD σ) (k : Off S σ τ) (hS : ∀ a i, pTape a i → ¬ S a i) (h : RTape σ) : RTape τ := by
  have h9 := hF.2.2.2
  refine h.offS hF k (fun a i p _ => hS a i p) ?_
  rw [k.1 64 2 (by omega) (hS _ _ (by unfold pTape; omega))]
  omega
theorem RTx.off {S : Int → Int → Prop} {σ τ : ZS} {t T p : Int} (hF : FxD σ) (hT : (T = 55 ∨ 93 ≤ T) ∧ T < (sN σ : Int)) (k : Off S σ τ) (hS : ∀ a i, pText a i → ¬ S a i) (h : RTx σ t T p) : RTx τ t T p := by
  have h9 := hF.2.2.2
  have e1 : ∀ a i, pText a i → a < (sN σ : Int) → sM τ a i = sM σ a i := fun a i hp ha => k.1 a i ha (hS a i hp)
  have hn := k.2.2.2
  obtain ⟨⟨a1, a2, a3, a4⟩, b, c, d⟩ := h
  have ef : sM τ (sM σ T p) = sM σ (sM σ T p) := funext fun i => e1 _ i (by unfold pText; omega) a4
  unfold RTx
  rw [e1 T p (by unfold pText; omega) hT.2, e1 76 _ (by unfold pText; omega) (by omega), e1 76 _ (by unfold pText; omega) (by omega), k.2.1 _ a4, k.2.2.1 _ a4, ef]
  refine ⟨⟨a1, a2, a3, by omega⟩, b, fun i h0 h1 => ?_, d⟩
  rw [e1 75 _ (by unfold pText; omega) (by omega)]
  exact c i h0 h1
theorem RText.off {S : Int → Int → Prop} {σ τ : ZS} (hF : FxD σ) (k : Off S σ τ) (hS : ∀ a i, pText a i → ¬ S a i) (h : RText σ) : RText τ := by
  have h9 := hF.2.2.2
  have e : ∀ a i, pText a i → a < 93 → sM τ a i = sM σ a i := fun a i hp ha => k.1 a i (by omega) (hS a i hp)
  have hn := k.2.2.2
  unfold RText
  rw [e 3 6 (by unfold pText; omega) (by omega), e 64 16 (by unfold pText; omega) (by omega)]
  refine ⟨h.1, h.2.1, fun t h0 h1 => ?_⟩
  rw [e 39 t (by unfold pText; omega) (by omega)]
  obtain ⟨⟨q1, q2, q3⟩, r0, r1⟩ := h.2.2 t h0 h1
  exact ⟨⟨by rw [k.2.1 _ q3]; exact q1, q2, by omega⟩, r0.off hF ⟨q2, q3⟩ k hS, r1.off hF ⟨q2, q3⟩ k hS⟩
theorem RRule.off {S : Int → Int → Prop} {σ τ : ZS} (hF : FxD σ) (k : Off S σ τ) (hS : ∀ a i, pRule a i → ¬ S a i) (h : RRule σ) : RRule τ := by
  have h9 := hF.2.2.2
  have e : ∀ a i, pRule a i → a < 93 → sM τ a i = sM σ a i := fun a i hp ha => k.1 a i (by omega) (hS a i hp)
  unfold RRule
  rw [e 3 7 (by unfold pRule; omega) (by omega), e 64 17 (by unfold pRule; omega) (by omega), e 64 16 (by unfold pRule; omega) (by omega)]
  exact h
theorem RImg.off {S : Int → Int → Prop} {σ τ : ZS} (hF : FxD σ) (hW : RWay σ) (k : Off S σ τ) (hS : ∀ a i, pImg a i → ¬ S a i) (h : RImg σ) : RImg τ := by
  have h9 := hF.2.2.2
  have e : ∀ a i, pImg a i → a < 93 → sM τ a i = sM σ a i := fun a i hp ha => k.1 a i (by omega) (hS a i hp)
  unfold RImg
  rw [e 3 10 (by unfold pImg; omega) (by omega), e 64 18 (by unfold pImg; omega) (by omega), e 3 11 (by unfold pImg; omega) (by omega), e 64 19 (by unfold pImg; omega) (by omega), e 3 12 (by unfold pImg; omega) (by omega), e 64 20 (by unfold pImg; omega) (by omega), e 64 8 (by unfold pImg; omega) (by omega), e 3 13 (by unfold pImg; omega) (by omega), e 64 21 (by unfold pImg; omega) (by omega), e 64 16 (by unfold pImg; omega) (by omega)]
  refine ⟨h.1, h.2.imp id ?_⟩
  rintro ⟨a1, a2, a3, a4, a5, a6, a7⟩
  refine ⟨a1, a2, a3, a4, fun g t g0 g1 t0 t1 => ?_, fun s h0 h1 => ?_, fun w c h0 h1 h2 h3 => ?_⟩
  · rw [e (43 + g) t (by unfold pImg; omega) (by omega), e (46 + g) t (by unfold pImg; omega) (by omega), e 77 _ (by unfold pImg; omega) (by omega), e 78 _ (by unfold pImg; omega) (by omega)]
    exact a5 g t g0 g1 t0 t1
  · rw [e 51 s (by unfold pImg; omega) (by omega), e 79 s (by unfold pImg; omega) (by omega)]
    exact a6 s h0 h1
  · rw [e 72 w (by unfold pImg; omega) (by omega)] at h3
    rw [e 33 w (by unfold pImg; omega) (by omega), e 80 _ (by unfold pImg; omega) (by omega)]
    obtain ⟨⟨q1, q2⟩, -⟩ := hW.2.2.1 w h0 (by omega)
    rw [k.1 (sM σ 33 w + 2) c (by omega) (hS _ _ (by unfold pImg; omega))]
    exact a7 w c h0 h1 h2 h3
theorem RSheet.off {S : Int → Int → Prop} {σ τ : ZS} (hF : FxD σ) (k : Off S σ τ) (hS : ∀ a i, pSheet a i → ¬ S a i) (h : RSheet σ) : RSheet τ := by
  have h9 := hF.2.2.2
  have e : ∀ a i, pSheet a i → a < 93 → sM τ a i = sM σ a i := fun a i hp ha => k.1 a i (by omega) (hS a i hp)
  intro s h0 h1
  rw [e (56 + 2 * s) 1 (by unfold pSheet; omega) (by omega), e 81 s (by unfold pSheet; omega) (by omega), e (56 + 2 * s) 2 (by unfold pSheet; omega) (by omega), e 82 s (by unfold pSheet; omega) (by omega)]
  obtain ⟨q1, q2, q3⟩ := h s h0 h1
  refine ⟨q1, q2, fun i g0 g1 => ?_⟩
  rw [e (57 + 2 * s) i (by unfold pSheet; omega) (by omega), e 83 _ (by unfold pSheet; omega) (by omega)]
  exact q3 i g0 g1
theorem RScr.off {S : Int → Int → Prop} {σ τ : ZS} (hF : FxD σ) (k : Off S σ τ) (hS : ∀ i, ¬ S 2 i) (h : RScr σ) : RScr τ := by
  have h9 := hF.2.2.2
  refine ⟨?_, fun i => ?_⟩
  · rw [k.2.2.1 2 (by omega)]; exact h.1
  · rw [k.1 2 i (by omega) (hS i)]; exact h.2 i
/-- what is written anew at every use -/
def scr (a i : Int) : Prop := (18 ≤ a ∧ a ≤ 20) ∨ (22 ≤ a ∧ a ≤ 23) ∨ (25 ≤ a ∧ a ≤ 27) ∨ (29 ≤ a ∧ a ≤ 32) ∨ (36 ≤ a ∧ a ≤ 38) ∨ a = 54 ∨ (a = 3 ∧ (15 ≤ i ∧ i ≤ 16)) ∨ (a = 4 ∧ i = 4) ∨ (a = 34 ∧ (i = 2 ∨ i = 5 ∨ i = 6 ∨ i = 8)) ∨ (85 ≤ a ∧ a ≤ 92) ∨ (a = 64 ∧ ((29 ≤ i ∧ i ≤ 32) ∨ (35 ≤ i ∧ i ≤ 37) ∨ (44 ≤ i ∧ i ≤ 47)))
theorem NF_i {a i : Int} (h : a < 0 ∨ 93 ≤ a ∨ (7 ≤ a ∧ a ≤ 8) ∨ (10 ≤ a ∧ a ≤ 11) ∨ (13 ≤ a ∧ a ≤ 20) ∨ (22 ≤ a ∧ a ≤ 23) ∨ (25 ≤ a ∧ a ≤ 27) ∨ (29 ≤ a ∧ a ≤ 33) ∨ (35 ≤ a ∧ a ≤ 39) ∨ (43 ≤ a ∧ a ≤ 44) ∨ (46 ≤ a ∧ a ≤ 47) ∨ (49 ≤ a ∧ a ≤ 54) ∨ (a = 57 ∨ a = 59 ∨ a = 61 ∨ a = 63) ∨ (65 ≤ a ∧ a ≤ 83) ∨ (85 ≤ a ∧ a ≤ 92)) : NFb a i = true := by
  unfold NFb
  rcases h with h | h | h | h | h | h | h | h | h | h | h | h | h | h | h <;> simp [h]
theorem NF_3 {i : Int} (h : i = 3 ∨ i = 6 ∨ i = 7 ∨ (10 ≤ i ∧ i ≤ 13) ∨ i = 15 ∨ i = 16) : NFb 3 i = true := by
  unfold NFb
  simp [h]
theorem NF_4 : NFb 4 4 = true := by decide
theorem NF_5 {a i : Int} (ha : a = 5 ∨ a = 41) (h : i = 5 ∨ i = 7 ∨ i = 8) : NFb a i = true := by
  unfold NFb
  rcases ha with rfl | rfl <;> simp [h]
theorem NF_34 {i : Int} (h : i = 1 ∨ i = 2 ∨ i = 5 ∨ i = 6 ∨ i = 8) : NFb 34 i = true := by
  unfold NFb
  simp [h]
theorem NF_56 {a i : Int} (ha : a = 56 ∨ a = 58 ∨ a = 60 ∨ a = 62) (h : i = 1 ∨ i = 2) : NFb a i = true := by
  unfold NFb
  rcases ha with rfl | rfl | rfl | rfl <;> simp [h]
theorem NF_64 {i : Int} (h : i = 2 ∨ i = 6 ∨ i = 8 ∨ i = 13 ∨ (16 ≤ i ∧ i ≤ 21) ∨ (29 ≤ i ∧ i ≤ 32) ∨ (35 ≤ i ∧ i ≤ 37) ∨ (44 ≤ i ∧ i ≤ 47)) : NFb 64 i = true := by
  unfold NFb
  simp [h]
theorem scr_NF : ∀ a i, scr a i → NFb a i = true := by
  intro a i h
  unfold scr at h
  rcases h with h | h | h | h | h | h | ⟨rfl, h⟩ | ⟨rfl, h⟩ | ⟨rfl, h⟩ | h | ⟨rfl, h⟩
  · exact NF_i (by omega)
  · exact NF_i (by omega)
  · exact NF_i (by omega)
  · exact NF_i (by omega)
  · exact NF_i (by omega)
  · exact NF_i (by omega)
  · exact NF_3 (by omega)
  · rw [h]; exact NF_4
  · exact NF_34 (by omega)
  · exact NF_i (by omega)
  · exact NF_64 (by omega)
theorem Rel.off {σ τ : ZS} (h : Rel σ) (k : Off scr σ τ) : Rel τ := by
  obtain ⟨hF, h1, h2, h3, h4, h5, h6, h7, h8, h10, h11⟩ := h
  exact ⟨hF.off k scr_NF, h1.off hF k (fun a i p s => by unfold pGate at p; unfold scr at s; omega), h2.off hF k (fun a i p s => by unfold pSort at p; unfold scr at s; omega), h3.off hF k (fun a i p s => by unfold pCart at p; unfold scr at s; omega), h4.off hF k (fun a i p s => by unfold pWay at p; unfold scr at s; omega), h5.off hF k (fun a i p s => by unfold pTape at p; unfold scr at s; omega), h6.off hF k (fun a i p s => by unfold pText at p; unfold scr at s; omega), h7.off hF k (fun a i p s => by unfold pRule at p; unfold scr at s; omega), h8.off hF h4 k (fun a i p s => by unfold pImg at p; unfold scr at s; omega), h10.off hF k (fun a i p s => by unfold pSheet at p; unfold scr at s; omega), h11.off hF k (fun i s => by unfold scr at s; omega)⟩
