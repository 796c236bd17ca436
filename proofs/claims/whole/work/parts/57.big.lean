/-! many things of the two halves changed at once -/
def alB (σ : ZS) (a i : Int) : Prop := scr a i ∨ pGate a ∨ a = 15 ∨ a = 67 ∨ a = 73 ∨ (43 ≤ a ∧ a ≤ 44) ∨ (46 ≤ a ∧ a ≤ 47) ∨ a = 51 ∨ (77 ≤ a ∧ a ≤ 80) ∨ (a = 3 ∧ (i = 7 ∨ (10 ≤ i ∧ i ≤ 13))) ∨ (a = 64 ∧ (17 ≤ i ∧ i ≤ 21)) ∨ ∃ w : Int, 0 ≤ w ∧ w < sM σ 64 8 ∧ (a = sM σ 33 w + 1 ∨ a = sM σ 33 w + 2)
def alL (a i : Int) : Prop := scr a i ∨ pGate a ∨ a = 15 ∨ a = 67 ∨ a = 73 ∨ (43 ≤ a ∧ a ≤ 44) ∨ (46 ≤ a ∧ a ≤ 47) ∨ a = 51 ∨ (77 ≤ a ∧ a ≤ 80) ∨ (a = 3 ∧ (i = 7 ∨ (10 ≤ i ∧ i ≤ 13))) ∨ (a = 64 ∧ (17 ≤ i ∧ i ≤ 21)) ∨ 93 ≤ a
theorem alB_L {σ : ZS} (h : RWay σ) : ∀ a i, alB σ a i → alL a i := by
  intro a i q
  unfold alB at q
  unfold alL
  rcases q with q | q | q | q | q | q | q | q | q | q | q | ⟨w, w0, w1, q⟩
  · exact Or.inl q
  · exact Or.inr (Or.inl q)
  · omega
  · omega
  · omega
  · omega
  · omega
  · omega
  · omega
  · omega
  · omega
  · have := (h.2.2.1 w w0 w1).1
    omega
theorem alL_NF : ∀ a i, alL a i → NFb a i = true := by
  intro a i q
  unfold alL at q
  rcases q with q | q | q | q | q | q | q | q | q | ⟨rfl, q⟩ | ⟨rfl, q⟩ | q
  · exact scr_NF a i q
  · unfold pGate at q; exact NF_i (by omega)
  · exact NF_i (by omega)
  · exact NF_i (by omega)
  · exact NF_i (by omega)
  · exact NF_i (by omega)
  · exact NF_i (by omega)
  · exact NF_i (by omega)
  · exact NF_i (by omega)
  · exact NF_3 (by omega)
  · exact NF_64 (by omega)
  · exact NF_i (by omega)
theorem RTx.ff {S : Int → Int → Prop} {σ τ : ZS} {t T p : Int} (hF : FxD σ) (hT : T < (sN σ : Int)) (k : Off S σ τ) (h1 : ∀ i, ¬ S T i) (h2 : ∀ i, ¬ S (sM σ T p) i) (h3 : ∀ a i, 75 ≤ a → a ≤ 76 → ¬ S a i) (h : RTx σ t T p) : RTx τ t T p := by
  have h9 := hF.2.2.2
  obtain ⟨⟨a1, a2, a3, a4⟩, ⟨b1, b2, b3, b4⟩, c, d⟩ := h
  have hn := k.2.2.2
  have eT : sM τ T p = sM σ T p := k.1 T p hT (h1 p)
  have eL : sL τ (sM σ T p) = sL σ (sM σ T p) := k.2.2.1 _ a4
  have eK : sK τ (sM σ T p) = sK σ (sM σ T p) := k.2.1 _ a4
  have eP : sM τ (sM σ T p) = sM σ (sM σ T p) := funext (fun i => k.1 _ i a4 (h2 i))
  have e76 : ∀ i, sM τ 76 i = sM σ 76 i := fun i => k.1 _ _ (by omega) (h3 _ _ (by omega) (by omega))
  have e75 : ∀ i, sM τ 75 i = sM σ 75 i := fun i => k.1 _ _ (by omega) (h3 _ _ (by omega) (by omega))
  unfold RTx
  rw [eT, eL, eP, eK]
  simp only [e76, e75]
  exact ⟨⟨a1, a2, a3, by omega⟩, ⟨b1, b2, b3, b4⟩, c, d⟩
theorem RText.ff {S : Int → Int → Prop} {σ τ : ZS} (hF : FxD σ) (hW : RWay σ) (k : Off S σ τ) (hS : ∀ a i, S a i → alB σ a i) (h : RText σ) : RText τ := by
  have h9 := hF.2.2.2
  have hL : ∀ a i, S a i → alL a i := fun a i q => alB_L hW a i (hS a i q)
  have e : ∀ a i, a < 93 → ¬ alL a i → sM τ a i = sM σ a i := fun a i ha hn => k.1 a i (by omega) (fun q => hn (hL a i q))
  have hn := k.2.2.2
  unfold RText
  rw [e 3 6 (by omega) (by unfold alL scr pGate; omega), e 64 16 (by omega) (by unfold alL scr pGate; omega)]
  refine ⟨h.1, h.2.1, fun t h0 h1 => ?_⟩
  rw [e 39 t (by omega) (by unfold alL scr pGate; omega)]
  obtain ⟨⟨q1, q2, q3⟩, r0, r1⟩ := h.2.2 t h0 h1
  generalize sM σ 39 t = T at *
  have hw : ∀ w : Int, 0 ≤ w → w < sM σ 64 8 → (sK σ (sM σ 33 w) = 10 ∨ sK σ (sM σ 33 w) = 9 ∨ sK σ (sM σ 33 w) = 3 ∨ sK σ (sM σ 33 w) = 0 ∨ sK σ (sM σ 33 w) = 1 ∨ sK σ (sM σ 33 w) = 7) ∧ sK σ (sM σ 33 w + 1) = 100 ∧ sK σ (sM σ 33 w + 2) = 100 := fun w w0 w1 => by
    obtain ⟨-, ⟨b1, b2⟩, b3, -, -, ⟨f1, f2, -⟩, -⟩ := hW.2.2.1 w w0 w1
    exact ⟨wk_w b3 b1 b2, f1, f2⟩
  obtain ⟨⟨y1, y2, y3, y4⟩, -⟩ := id r0
  obtain ⟨⟨z1, z2, z3, z4⟩, -⟩ := id r1
  have hTn : ∀ i, ¬ S T i := fun i q => by
    have q := hS _ _ q
    unfold alB scr pGate at q
    rcases q with q | q | q | q | q | q | q | q | q | q | q | ⟨w, w0, w1, q⟩
    · omega
    · omega
    · omega
    · omega
    · omega
    · omega
    · omega
    · omega
    · omega
    · omega
    · omega
    · obtain ⟨-, k1, k2⟩ := hw w w0 w1
      rcases q with q | q
      · rw [← q] at k1; omega
      · rw [← q] at k2; omega
  have small : ∀ a i, a < 2 → 0 ≤ a → ¬ S a i := fun a i a1 a0 q => by
    have q := hL _ _ q
    unfold alL scr pGate at q
    omega
  have big : ∀ a i, 93 ≤ a → (∀ w : Int, 0 ≤ w → w < sM σ 64 8 → a ≠ sM σ 33 w + 1 ∧ a ≠ sM σ 33 w + 2) → ¬ S a i := fun a i a1 a0 q => by
    have q := hS _ _ q
    unfold alB scr pGate at q
    rcases q with q | q | q | q | q | q | q | q | q | q | q | ⟨w, w0, w1, q⟩
    · omega
    · omega
    · omega
    · omega
    · omega
    · omega
    · omega
    · omega
    · omega
    · omega
    · omega
    · have := a0 w w0 w1
      omega
  refine ⟨⟨by rw [k.2.1 _ q3]; exact q1, q2, by omega⟩, r0.ff hF q3 k hTn ?_ (fun a i a0 a1 q => ?_), r1.ff hF q3 k hTn ?_ (fun a i a0 a1 q => ?_)⟩
  · rcases y3 with ⟨-, y3⟩ | ⟨y3, y5⟩
    · exact fun i => small _ i y3 y2
    · intro i
      refine big _ i y3 (fun w w0 w1 => ?_)
      obtain ⟨k0, k1, k2⟩ := hw w w0 w1
      refine ⟨fun q => ?_, fun q => ?_⟩
      · have : sM σ 33 w = T := by omega
        rw [this, q1] at k0; omega
      · have : sM σ 33 w + 1 = T := by omega
        rw [this, q1] at k1; omega
  · have q := hL _ _ q
    unfold alL scr pGate at q
    omega
  · rcases z3 with ⟨-, z3⟩ | ⟨z3, z5⟩
    · exact fun i => small _ i z3 z2
    · intro i
      refine big _ i z3 (fun w w0 w1 => ?_)
      obtain ⟨k0, k1, k2⟩ := hw w w0 w1
      refine ⟨fun q => ?_, fun q => ?_⟩
      · have e1 : sM σ T 0 = T + 1 := by omega
        have : sM σ 33 w = sM σ T 0 := by omega
        rw [this, y1] at k0; omega
      · have : sM σ 33 w = T := by omega
        rw [this, q1] at k0; omega
  · have q := hL _ _ q
    unfold alL scr pGate at q
    omega
theorem Rel.big {S : Int → Int → Prop} {σ τ : ZS} (h : Rel σ) (k : Off S σ τ) (hS : ∀ a i, S a i → alB σ a i) (hG : RGate τ) (hSo : RSort τ) (hWy : RWay τ) (hR : RRule τ) (hI : RImg τ) : Rel τ := by
  obtain ⟨hF, h1, h2, h3, h4, h5, h6, h7, h8, h10, h11⟩ := h
  have hL : ∀ a i, S a i → alL a i := fun a i q => alB_L h4 a i (hS a i q)
  refine ⟨hF.off k (fun a i s => alL_NF a i (hL a i s)), hG, hSo, h3.off hF k (fun a i p s => ?_), hWy, h5.off hF k (fun a i p s => ?_), h6.ff hF h4 k hS, hR, hI, h10.off hF k (fun a i p s => ?_), h11.off hF k (fun i s => ?_)⟩ <;> have s := hL _ _ s <;> unfold alL scr pGate at s
  · unfold pCart at p; omega
  · unfold pTape at p; omega
  · unfold pSheet at p; omega
  · omega
theorem RWayAt.ff {S : Int → Int → Prop} {σ τ : ZS} {w W : Int} (hF : FxD σ) (k : Off S σ τ) (h7 : ∀ a i, 71 ≤ a → a ≤ 72 → ¬ S a i) (hW : ∀ i, ¬ S W i) (h : RWayAt σ w W) (hch : ∀ c : Int, 0 ≤ c → c < sM σ 72 w → sM τ (W + 1) c = sM τ 73 (16 * w + c) ∧ 0 ≤ sM τ 73 (16 * w + c) ∧ sM τ 73 (16 * w + c) ≤ 48) : RWayAt τ w W := by
  have h9 := hF.2.2.2
  obtain ⟨⟨a1, a2⟩, b, c, d, e, f, g⟩ := h
  have hn := k.2.2.2
  unfold RWayAt
  rw [k.1 71 w (by omega) (h7 _ _ (by omega) (by omega)), k.1 72 w (by omega) (h7 _ _ (by omega) (by omega)), k.1 W 0 (by omega) (hW 0), k.1 W 1 (by omega) (hW 1), k.1 W 2 (by omega) (hW 2), k.2.1 W (by omega), k.2.1 (W + 1) (by omega), k.2.1 (W + 2) (by omega), k.2.2.1 (W + 1) (by omega), k.2.2.1 (W + 2) (by omega)]
  exact ⟨⟨a1, by omega⟩, b, c, d, e, f, hch⟩
theorem RImg.ff {S : Int → Int → Prop} {σ τ : ZS} (hF : FxD σ) (hW : RWay σ) (k : Off S σ τ) (hS : ∀ a i, pImg a i → a < 93 → ¬ S a i) (hK : ∀ w i : Int, 0 ≤ w → w < sM σ 64 8 → ¬ S (sM σ 33 w + 2) i) (h : RImg σ) : RImg τ := by
  have h9 := hF.2.2.2
  have e : ∀ a i, pImg a i → a < 93 → sM τ a i = sM σ a i := fun a i hp ha => k.1 a i (by omega) (hS a i hp ha)
  unfold RImg
  rw [e 3 10 (by unfold pImg; omega) (by omega), e 64 18 (by unfold pImg; omega) (by omega), e 3 11 (by unfold pImg; omega) (by omega), e 64 19 (by unfold pImg; omega) (by omega), e 3 12 (by unfold pImg; omega) (by omega), e 64 20 (by unfold pImg; omega) (by omega), e 64 8 (by unfold pImg; omega) (by omega), e 3 13 (by unfold pImg; omega) (by omega), e 64 21 (by unfold pImg; omega) (by omega), e 64 16 (by unfold pImg; omega) (by omega)]
  refine ⟨h.1, h.2.imp id ?_⟩
  rintro ⟨a1, a2, a3, a4, a5, a6, a7⟩
  refine ⟨a1, a2, a3, a4, fun g t g0 g1 t0 t1 => ?_, fun s h0 h1 => ?_, fun w c h0 h1 h2 h3 => ?_⟩
  · rw [e (43 + g) t (by unfold pImg; omega) (by omega), e (46 + g) t (by unfold pImg; omega) (by omega), e 77 _ (by unfold pImg; omega) (by omega), e 78 _ (by unfold pImg; omega) (by omega)]
    exact a5 g t g0 g1 t0 t1
  · rw [e 51 s (by unfold pImg; omega) (by omega), e 79 s (by unfold pImg; omega) (by omega)]
    exact a6 s h0 h1
  · rw [e 72 w (by unfold pImg; omega) (by omega)] at h3
    rw [e 33 w (by unfold pImg; omega) (by omega), e 80 _ (by unfold pImg; omega) (by omega)]
    obtain ⟨⟨q1, q2⟩, -⟩ := hW.2.2.1 w h0 (by omega)
    rw [k.1 (sM σ 33 w + 2) c (by omega) (hK _ _ h0 (by omega))]
    exact a7 w c h0 h1 h2 h3
theorem RWay.gap {σ : ZS} (h : RWay σ) {v w : Int} (v0 : 0 ≤ v) (v1 : v < sM σ 64 8) (w0 : 0 ≤ w) (w1 : w < sM σ 64 8) (hn : v ≠ w) : sM σ 33 v + 2 < sM σ 33 w ∨ sM σ 33 w + 2 < sM σ 33 v := by
  rcases (by omega : v < w ∨ w < v) with q | q
  · exact Or.inl (h.2.2.2 v w v0 q w1)
  · exact Or.inr (h.2.2.2 w v w0 q v1)
/-- one way's choices changed in both halves -/
theorem Rel.one {S : Int → Int → Prop} {σ τ : ZS} (h : Rel σ) {w : Int} (w0 : 0 ≤ w) (w1 : w < sM σ 64 8) (k : Off S σ τ) (hS : ∀ a i, S a i → scr a i ∨ a = sM σ 33 w + 1 ∨ (a = 73 ∧ 16 * w ≤ i ∧ i < 16 * w + 16)) (hch : ∀ c : Int, 0 ≤ c → c < sM σ 72 w → sM τ (sM σ 33 w + 1) c = sM τ 73 (16 * w + c) ∧ 0 ≤ sM τ 73 (16 * w + c) ∧ sM τ 73 (16 * w + c) ≤ 48) : Rel τ := by
  have hF := h.F
  have hWa := h.Wa
  have h9 := hF.2.2.2
  have hn := h.wn w0 w1
  have hB : ∀ a i, S a i → alB σ a i := fun a i q => by
    unfold alB
    rcases hS a i q with q | q | q
    · exact Or.inl q
    · exact Or.inr (Or.inr (Or.inr (Or.inr (Or.inr (Or.inr (Or.inr (Or.inr (Or.inr (Or.inr (Or.inr ⟨w, w0, w1, Or.inl q⟩))))))))))
    · omega
  have e : ∀ a i, a < 93 → a ≠ 73 → ¬ scr a i → sM τ a i = sM σ a i := fun a i ha h7 hs => k.1 a i (by omega) (fun q => by
    rcases hS a i q with q | q | q
    · exact hs q
    · omega
    · omega)
  refine h.big k hB (h.G.off hF k (fun a i p s => ?_)) (h.So.off hF k (fun a i p s => ?_)) ?_ (h.Ru.off hF k (fun a i p s => ?_)) (h.Im.ff hF hWa k (fun a i p q s => ?_) (fun v i v0 v1 s => ?_))
  · unfold pGate at p
    rcases hS _ _ s with s | s | s
    · unfold scr at s; omega
    · omega
    · omega
  · unfold pSort at p
    rcases hS _ _ s with s | s | s
    · unfold scr at s; omega
    · omega
    · omega
  · refine ⟨?_, ?_, fun v v0 v1 => ?_, fun v u v0 v1 u1 => ?_⟩
    · rw [e 3 3 (by omega) (by omega) (by unfold scr; omega), e 64 8 (by omega) (by omega) (by unfold scr; omega)]; exact hWa.1
    · rw [e 64 8 (by omega) (by omega) (by unfold scr; omega)]; exact hWa.2.1
    · rw [e 64 8 (by omega) (by omega) (by unfold scr; omega)] at v1
      rw [e 33 v (by omega) (by omega) (by unfold scr; omega)]
      have hv := h.wn v0 v1
      refine (hWa.2.2.1 v v0 v1).ff hF k (fun a i a0 a1 s => ?_) (fun i s => ?_) (fun c c0 c1 => ?_)
      · rcases hS _ _ s with s | s | s
        · unfold scr at s; omega
        · omega
        · omega
      · rcases hS _ _ s with s | s | s
        · unfold scr at s; omega
        · by_cases q : v = w
          · rw [q] at s; omega
          · have := hWa.gap v0 v1 w0 w1 q
            omega
        · omega
      · by_cases q : v = w
        · subst q; exact hch c c0 c1
        · have hg := hWa.gap v0 v1 w0 w1 q
          rw [k.1 (sM σ 33 v + 1) c (by omega) (fun s => ?_), k.1 73 (16 * v + c) (by omega) (fun s => ?_)]
          · exact (hWa.2.2.1 v v0 v1).2.2.2.2.2.2 c c0 c1
          · rcases hS _ _ s with s | s | s
            · unfold scr at s; omega
            · omega
            · omega
          · rcases hS _ _ s with s | s | s
            · unfold scr at s; omega
            · omega
            · omega
    · rw [e 64 8 (by omega) (by omega) (by unfold scr; omega)] at u1
      rw [e 33 v (by omega) (by omega) (by unfold scr; omega), e 33 u (by omega) (by omega) (by unfold scr; omega)]
      exact hWa.2.2.2 v u v0 v1 u1
  · unfold pRule at p
    rcases hS _ _ s with s | s | s
    · unfold scr at s; omega
    · omega
    · omega
  · unfold pImg at p
    rcases hS _ _ s with s | s | s
    · unfold scr at s; omega
    · omega
    · omega
  · have hv := h.wn v0 v1
    rcases hS _ _ s with s | s | s
    · unfold scr at s; omega
    · by_cases q : v = w
      · rw [q] at s; omega
      · have := hWa.gap v0 v1 w0 w1 q
        omega
    · omega
