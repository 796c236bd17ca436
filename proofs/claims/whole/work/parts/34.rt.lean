/-! what the functions answer: a small judgement, walked by rows -/
def Rt (O : Option (Int × ZS)) (P : Int → ZS → Prop) : Prop := ∃ v τ, O = some (v, τ) ∧ P v τ
theorem rt_ret {v : Int} {σ : ZS} {P : Int → ZS → Prop} (h : P v σ) : Rt (some (v, σ)) P := ⟨v, σ, rfl, h⟩
theorem Rt.mono {O : Option (Int × ZS)} {P Q : Int → ZS → Prop} (h : Rt O P) (k : ∀ v τ, P v τ → Q v τ) : Rt O Q := by
  obtain ⟨v, τ, e, hp⟩ := h
  exact ⟨v, τ, e, k v τ hp⟩
theorem rt_zb {F : Option (Int × ZS)} {O : Int → ZS → Option (Int × ZS)} {P Q : Int → ZS → Prop} (h : Rt F Q) (k : ∀ v τ, Q v τ → Rt (O v τ) P) : Rt (zb F O) P := by
  obtain ⟨v, τ, e, hp⟩ := h
  obtain ⟨w, ρ, e2, hp2⟩ := k v τ hp
  exact ⟨w, ρ, by rw [e]; exact e2, hp2⟩
theorem rt_b {F : Option (Int × ZS)} {O : Int → ZS → Option (Int × ZS)} {P : Int → ZS → Prop} (h : Rt F (fun v τ => Rt (O v τ) P)) : Rt (zb F O) P := rt_zb h (fun _ _ k => k)
theorem rt_jn {α : Type} {b : α → Option (Int × ZS)} {k : α} {P : Int → ZS → Prop} (h : Rt (b k) P) : Rt (zjn b k) P := h
theorem rt_pos {c : Prop} {d : Decidable c} {A B : Option (Int × ZS)} {P : Int → ZS → Prop} (h : c) (k : Rt A P) : Rt (@ite _ c d A B) P := by rw [if_pos h]; exact k
theorem rt_neg {c : Prop} {d : Decidable c} {A B : Option (Int × ZS)} {P : Int → ZS → Prop} (h : ¬ c) (k : Rt B P) : Rt (@ite _ c d A B) P := by rw [if_neg h]; exact k
theorem rt_if {c : Prop} {d : Decidable c} {A B : Option (Int × ZS)} {P : Int → ZS → Prop} (h : c → Rt A P) (k : ¬ c → Rt B P) : Rt (@ite _ c d A B) P := by
  by_cases e : c
  · exact rt_pos e (h e)
  · exact rt_neg e (k e)
theorem rt_v {σ : ZS} {c a : Int} {F : Option (Int × ZS)} {P : Int → ZS → Prop} (h : sK σ a = c) (k : Rt F P) : Rt (zv σ c a F) P := by unfold zv; exact rt_pos h k
theorem rt_g {σ : ZS} {c a i : Int} {O : Int → Option (Int × ZS)} {P : Int → ZS → Prop} (h : sK σ a = c) (k : Rt (O (sM σ a i)) P) : Rt ((zg σ c a i).bind O) P := by unfold zg; rw [if_pos h]; exact k
theorem rt_p {σ : ZS} {c a i v : Int} {O : ZS → Option (Int × ZS)} {P : Int → ZS → Prop} (h : sK σ a = c) (h2 : 3 ≤ a) (k : Rt (O (upM σ a i v)) P) : Rt ((zp σ c a i v).bind O) P := by unfold zp; rw [if_pos ⟨h, h2⟩]; exact k
theorem rt_al {σ : ZS} {c a i : Int} {O : Int → Option (Int × ZS)} {P : Int → ZS → Prop} (h : sK σ a = c) (h2 : 0 ≤ i ∧ i < sL σ a) (k : Rt (O (sM σ a i)) P) : Rt ((zal σ c a i).bind O) P := by unfold zal; rw [if_pos ⟨h, h2⟩]; exact k
theorem rt_as {σ : ZS} {c a i v : Int} {O : ZS → Option (Int × ZS)} {P : Int → ZS → Prop} (h : sK σ a = c) (h2 : 3 ≤ a ∧ 0 ≤ i ∧ i < sL σ a) (k : Rt (O (upM σ a i v)) P) : Rt ((zas σ c a i v).bind O) P := by unfold zas; rw [if_pos ⟨h, h2⟩]; exact k
theorem rt_len {σ : ZS} {c a : Int} {O : Int → Option (Int × ZS)} {P : Int → ZS → Prop} (h : sK σ a = c) (k : Rt (O (sL σ a)) P) : Rt ((zlen σ c a).bind O) P := by unfold zlen; rw [if_pos h]; exact k
theorem rt_cp {σ : ZS} {a i b j n : Int} {O : ZS → Option (Int × ZS)} {P : Int → ZS → Prop} (h : sK σ a = 100) (h2 : sK σ b = 100) (h3 : 3 ≤ b ∧ 0 ≤ i ∧ 0 ≤ j ∧ 0 ≤ n ∧ i + n ≤ sL σ a ∧ j + n ≤ sL σ b) (k : Rt (O (upR σ b (fun k => if j ≤ k ∧ k < j + n then sM σ a (i + (k - j)) else sM σ b k))) P) : Rt ((zcp σ a i b j n).bind O) P := by unfold zcp; rw [if_pos ⟨h, h2, h3⟩]; exact k
theorem rt_ar {σ : ZS} {c a i v : Int} {ok : Int → Bool} {O : ZS → Option (Int × ZS)} {P : Int → ZS → Prop} (h : sK σ a = c) (h2 : 3 ≤ a ∧ 0 ≤ i ∧ i < sL σ a) (h3 : ok (sK σ v) = true) (k : Rt (O (upM σ a i v)) P) : Rt ((zar σ c a i ok v).bind O) P := by unfold zar; rw [if_pos ⟨h, h2.1, h2.2.1, h2.2.2, h3⟩]; exact k
theorem rt_io {σ : ZS} {a : Int} {yes known : Int → Bool} {O : Int → Option (Int × ZS)} {P : Int → ZS → Prop} (h : 0 ≤ a) (h2 : known (sK σ a) = true) (k : Rt (O (if yes (sK σ a) = true then 1 else 0)) P) : Rt ((zio σ a yes known).bind O) P := by unfold zio; rw [if_neg (by omega), if_pos h2]; exact k
/-- kinds of ways -/
theorem wk_w {k : Int} {c : Int} (h : c = wk k) (h0 : 0 ≤ k) (h5 : k ≤ 5) : c = 10 ∨ c = 9 ∨ c = 3 ∨ c = 0 ∨ c = 1 ∨ c = 7 := by
  unfold wk at h
  rcases (by omega : k = 0 ∨ k = 1 ∨ k = 2 ∨ k = 3 ∨ k = 4 ∨ k = 5) with rfl | rfl | rfl | rfl | rfl | rfl <;> simp at h <;> omega
def wkn (σ : ZS) (a : Int) : Prop := sK σ a = 10 ∨ sK σ a = 9 ∨ sK σ a = 3 ∨ sK σ a = 0 ∨ sK σ a = 1 ∨ sK σ a = 7
theorem wkn_up {σ : ZS} {a b i v : Int} (h : wkn σ a) : wkn (upM σ b i v) a := h
theorem wkn_upR {σ : ZS} {a b : Int} {f : Int → Int} (h : wkn σ a) : wkn (upR σ b f) a := h
theorem rt_gw {σ : ZS} {a i : Int} {O : Int → Option (Int × ZS)} {P : Int → ZS → Prop} (h : wkn σ a) (k : Rt (O (sM σ a i)) P) : Rt ((zgw σ a i).bind O) P := by unfold zgw; unfold wkn at h; rw [if_pos h]; exact k
theorem rt_w1 {σ : ZS} {a : Int} {F : Option (Int × ZS)} {P : Int → ZS → Prop} (h : wkn σ a) (k : Rt F P) : Rt (zw σ a F F F F F F) P := by
  unfold zw
  unfold wkn at h
  rcases h with h | h | h | h | h | h <;> rw [h] <;> simpa using k
theorem zw_wk {σ : ZS} {a k : Int} {F10 F9 F3 F0 F1 F7 : Option (Int × ZS)} (h : sK σ a = wk k) (h0 : 0 ≤ k) (h5 : k ≤ 5) : zw σ a F10 F9 F3 F0 F1 F7 = if k = 1 then F9 else if k = 2 then F3 else if k = 3 then F0 else if k = 4 then F1 else if k = 5 then F7 else F10 := by
  unfold zw
  rw [h]
  rcases (by omega : k = 0 ∨ k = 1 ∨ k = 2 ∨ k = 3 ∨ k = 4 ∨ k = 5) with rfl | rfl | rfl | rfl | rfl | rfl <;> simp [wk]
/-! cells behind writes -/
theorem sM_ne {σ : ZS} {a i v b j : Int} (h : b ≠ a ∨ j ≠ i) : sM (upM σ a i v) b j = sM σ b j := by
  rw [sM_upM, if_neg]
  rintro ⟨h1, h2⟩
  rcases h with h | h
  · exact h h1
  · exact h h2
theorem sM_eq {σ : ZS} {a i v b j : Int} (h : b = a ∧ j = i) : sM (upM σ a i v) b j = v := by rw [sM_upM, if_pos h]
theorem sM_neR {σ : ZS} {a b j : Int} {f : Int → Int} (h : b ≠ a) : sM (upR σ a f) b j = sM σ b j := by rw [sM_upR, if_neg h]
theorem sM_eqR {σ : ZS} {a b j : Int} {f : Int → Int} (h : b = a) : sM (upR σ a f) b j = f j := by rw [sM_upR, if_pos h]
/-- nothing changed outside S, nothing new -/
def Ch (S : Int → Int → Prop) (σ τ : ZS) : Prop := Off S σ τ ∧ Stl σ τ
theorem Ch.rf {S : Int → Int → Prop} {σ : ZS} : Ch S σ σ := ⟨Off.rf, Stl.rf⟩
theorem Ch.tr {S : Int → Int → Prop} {σ τ ρ : ZS} (h : Ch S σ τ) (k : Ch S τ ρ) : Ch S σ ρ := ⟨h.1.tr k.1, h.2.tr k.2⟩
theorem Ch.mono {S T : Int → Int → Prop} {σ τ : ZS} (h : Ch S σ τ) (hST : ∀ a i, S a i → T a i) : Ch T σ τ := ⟨h.1.mono hST, h.2⟩
theorem Ch.up {S : Int → Int → Prop} {σ τ : ZS} (h : Ch S σ τ) {a i v : Int} (hs : S a i) : Ch S σ (upM τ a i v) := h.tr ⟨Off.upM hs, Stl.upM⟩
theorem Ch.upR {S : Int → Int → Prop} {σ τ : ZS} (h : Ch S σ τ) {a : Int} {f : Int → Int} (hs : ∀ i, S a i) : Ch S σ (upR τ a f) := h.tr ⟨Off.upR hs, Stl.upR⟩
theorem Ch.M {S : Int → Int → Prop} {σ τ : ZS} (h : Ch S σ τ) {a i : Int} (ha : a < (sN σ : Int)) (hs : ¬ S a i) : sM τ a i = sM σ a i := h.1.1 a i ha hs
theorem Ch.K {S : Int → Int → Prop} {σ τ : ZS} (h : Ch S σ τ) {a : Int} (ha : a < (sN σ : Int)) : sK τ a = sK σ a := h.1.2.1 a ha
theorem Ch.L {S : Int → Int → Prop} {σ τ : ZS} (h : Ch S σ τ) {a : Int} (ha : a < (sN σ : Int)) : sL τ a = sL σ a := h.1.2.2.1 a ha
theorem Ch.Fx {S : Int → Int → Prop} {σ τ : ZS} (h : Ch S σ τ) (hF : FxD σ) (hS : ∀ a i, S a i → NFb a i = true) : FxD τ := hF.off h.1 hS
theorem FxD.up {σ : ZS} (h : FxD σ) {a i v : Int} (hn : NFb a i = true) : FxD (upM σ a i v) := h.off (S := fun b j => b = a ∧ j = i) (Off.upM ⟨rfl, rfl⟩) (fun b j q => by rw [q.1, q.2]; exact hn)
theorem FxD.upR {σ : ZS} (h : FxD σ) {a : Int} {f : Int → Int} (hn : ∀ i, NFb a i = true) : FxD (upR σ a f) := h.off (S := fun b _ => b = a) (Off.upR (fun _ => rfl)) (fun b j q => by rw [q]; exact hn j)
/-- the end of a call of both: the same answer, the two halves alike still, little new -/
def Fin (σ : ZS) (x y : Int) (ρ : ZS) : Prop := x = y ∧ Rel ρ ∧ sN ρ ≤ sN σ + 3 ∧ sT ρ ≤ sT σ + 500
theorem fin0 {σ : ZS} {x y : Int} (h : Rel σ) (e : x = y) : Fin σ x y σ := ⟨e, h, by omega, by omega⟩
theorem finS {σ ρ : ZS} {x y : Int} (e : x = y) (h : Rel ρ) (k : Stl σ ρ) : Fin σ x y ρ := ⟨e, h, by rw [k.1]; omega, by rw [k.2]; omega⟩
theorem finC {σ ρ : ZS} {x y : Int} (h : Rel σ) (e : x = y) (k : Ch scr σ ρ) : Fin σ x y ρ := finS e (h.off k.1) k.2
theorem off_up {S : Int → Int → Prop} {σ τ : ZS} (h : Off S σ τ) {a i v : Int} (hs : S a i) : Off S σ (upM τ a i v) := h.tr (Off.upM hs)
theorem stl_up {σ τ : ZS} (h : Stl σ τ) {a i v : Int} : Stl σ (upM τ a i v) := h.tr Stl.upM
/-! one part of the two halves changed -/
theorem Rel.gate {S : Int → Int → Prop} {σ τ : ZS} (h : Rel σ) (k : Off S σ τ) (hS : ∀ a i, S a i → pGate a) (hG : RGate τ) : Rel τ := by
  obtain ⟨hF, h1, h2, h3, h4, h5, h6, h7, h8, h10, h11⟩ := h
  refine ⟨hF.off k (fun a i s => ?_), hG, h2.off hF k (fun a i p s => ?_), h3.off hF k (fun a i p s => ?_), h4.off hF k (fun a i p s => ?_), h5.off hF k (fun a i p s => ?_), h6.off hF k (fun a i p s => ?_), h7.off hF k (fun a i p s => ?_), h8.off hF h4 k (fun a i p s => ?_), h10.off hF k (fun a i p s => ?_), h11.off hF k (fun i s => ?_)⟩ <;> have s := hS _ _ s <;> unfold pGate at s
  · exact NF_i (by omega)
  · unfold pSort at p; omega
  · unfold pCart at p; omega
  · unfold pWay at p; omega
  · unfold pTape at p; omega
  · unfold pText at p; omega
  · unfold pRule at p; omega
  · unfold pImg at p; omega
  · unfold pSheet at p; omega
  · omega
theorem Rel.sort {S : Int → Int → Prop} {σ τ : ZS} (h : Rel σ) (k : Off S σ τ) (hS : ∀ a i, S a i → pSort a i) (hG : RSort τ) (hm : sM σ 64 2 ≤ sM τ 64 2) : Rel τ := by
  obtain ⟨hF, h1, h2, h3, h4, h5, h6, h7, h8, h10, h11⟩ := h
  refine ⟨hF.off k (fun a i s => ?_), h1.off hF k (fun a i p s => ?_), hG, h3.off hF k (fun a i p s => ?_), h4.off hF k (fun a i p s => ?_), h5.offS hF k (fun a i p nn s => ?_) hm, h6.off hF k (fun a i p s => ?_), h7.off hF k (fun a i p s => ?_), h8.off hF h4 k (fun a i p s => ?_), h10.off hF k (fun a i p s => ?_), h11.off hF k (fun i s => ?_)⟩ <;> have s := hS _ _ s <;> unfold pSort at s
  · rcases s with s | s | ⟨rfl, s⟩ | ⟨rfl, s⟩
    · exact NF_i (by omega)
    · exact NF_i (by omega)
    · exact NF_5 (Or.inl rfl) (by omega)
    · exact NF_64 (by omega)
  · unfold pGate at p; omega
  · unfold pCart at p; omega
  · unfold pWay at p; omega
  · unfold pTape at p; omega
  · unfold pText at p; omega
  · unfold pRule at p; omega
  · unfold pImg at p; omega
  · unfold pSheet at p; omega
  · omega
theorem Rel.cart {S : Int → Int → Prop} {σ τ : ZS} (h : Rel σ) (k : Off S σ τ) (hS : ∀ a i, S a i → pCart a i) (hG : RCart τ) (hT : RTape τ) : Rel τ := by
  obtain ⟨hF, h1, h2, h3, h4, h5, h6, h7, h8, h10, h11⟩ := h
  refine ⟨hF.off k (fun a i s => ?_), h1.off hF k (fun a i p s => ?_), h2.off hF k (fun a i p s => ?_), hG, h4.off hF k (fun a i p s => ?_), hT, h6.off hF k (fun a i p s => ?_), h7.off hF k (fun a i p s => ?_), h8.off hF h4 k (fun a i p s => ?_), h10.off hF k (fun a i p s => ?_), h11.off hF k (fun i s => ?_)⟩ <;> have s := hS _ _ s <;> unfold pCart at s
  · rcases s with s | s | ⟨rfl, s⟩ | ⟨rfl, s⟩
    · exact NF_i (by omega)
    · exact NF_i (by omega)
    · exact NF_5 (Or.inl rfl) (by omega)
    · exact NF_64 (by omega)
  · unfold pGate at p; omega
  · unfold pSort at p; omega
  · unfold pWay at p; omega
  · unfold pText at p; omega
  · unfold pRule at p; omega
  · unfold pImg at p; omega
  · unfold pSheet at p; omega
  · omega
def pTp (a i : Int) : Prop := a = 35 ∨ a = 74 ∨ (a = 34 ∧ i = 1) ∨ (a = 64 ∧ i = 13)
theorem Rel.tape {S : Int → Int → Prop} {σ τ : ZS} (h : Rel σ) (k : Off S σ τ) (hS : ∀ a i, S a i → pTp a i) (hG : RTape τ) : Rel τ := by
  obtain ⟨hF, h1, h2, h3, h4, h5, h6, h7, h8, h10, h11⟩ := h
  refine ⟨hF.off k (fun a i s => ?_), h1.off hF k (fun a i p s => ?_), h2.off hF k (fun a i p s => ?_), h3.off hF k (fun a i p s => ?_), h4.off hF k (fun a i p s => ?_), hG, h6.off hF k (fun a i p s => ?_), h7.off hF k (fun a i p s => ?_), h8.off hF h4 k (fun a i p s => ?_), h10.off hF k (fun a i p s => ?_), h11.off hF k (fun i s => ?_)⟩ <;> have s := hS _ _ s <;> unfold pTp at s
  · rcases s with s | s | ⟨rfl, s⟩ | ⟨rfl, s⟩
    · exact NF_i (by omega)
    · exact NF_i (by omega)
    · exact NF_34 (by omega)
    · exact NF_64 (by omega)
  · unfold pGate at p; omega
  · unfold pSort at p; omega
  · unfold pCart at p; omega
  · unfold pWay at p; omega
  · unfold pText at p; omega
  · unfold pRule at p; omega
  · unfold pImg at p; omega
  · unfold pSheet at p; omega
  · omega
theorem Rel.sheet {S : Int → Int → Prop} {σ τ : ZS} (h : Rel σ) (k : Off S σ τ) (hS : ∀ a i, S a i → (((a = 56 ∨ a = 58 ∨ a = 60 ∨ a = 62) ∧ (i = 1 ∨ i = 2)) ∨ a = 57 ∨ a = 59 ∨ a = 61 ∨ a = 63 ∨ (81 ≤ a ∧ a ≤ 83))) (hG : RSheet τ) : Rel τ := by
  obtain ⟨hF, h1, h2, h3, h4, h5, h6, h7, h8, h10, h11⟩ := h
  refine ⟨hF.off k (fun a i s => ?_), h1.off hF k (fun a i p s => ?_), h2.off hF k (fun a i p s => ?_), h3.off hF k (fun a i p s => ?_), h4.off hF k (fun a i p s => ?_), h5.off hF k (fun a i p s => ?_), h6.off hF k (fun a i p s => ?_), h7.off hF k (fun a i p s => ?_), h8.off hF h4 k (fun a i p s => ?_), hG, h11.off hF k (fun i s => ?_)⟩ <;> have s := hS _ _ s
  · rcases s with ⟨s1, s2⟩ | s | s | s | s | s
    · exact NF_56 s1 s2
    · exact NF_i (by omega)
    · exact NF_i (by omega)
    · exact NF_i (by omega)
    · exact NF_i (by omega)
    · exact NF_i (by omega)
  · unfold pGate at p; omega
  · unfold pSort at p; omega
  · unfold pCart at p; omega
  · unfold pWay at p; omega
  · unfold pTape at p; omega
  · unfold pText at p; omega
  · unfold pRule at p; omega
  · unfold pImg at p; omega
  · omega
theorem Rel.rule {S : Int → Int → Prop} {σ τ : ZS} (h : Rel σ) (k : Off S σ τ) (hS : ∀ a i, S a i → (a = 3 ∧ i = 7) ∨ (a = 64 ∧ i = 17)) (hG : RRule τ) : Rel τ := by
  obtain ⟨hF, h1, h2, h3, h4, h5, h6, h7, h8, h10, h11⟩ := h
  refine ⟨hF.off k (fun a i s => ?_), h1.off hF k (fun a i p s => ?_), h2.off hF k (fun a i p s => ?_), h3.off hF k (fun a i p s => ?_), h4.off hF k (fun a i p s => ?_), h5.off hF k (fun a i p s => ?_), h6.off hF k (fun a i p s => ?_), hG, h8.off hF h4 k (fun a i p s => ?_), h10.off hF k (fun a i p s => ?_), h11.off hF k (fun i s => ?_)⟩ <;> have s := hS _ _ s
  · rcases s with ⟨rfl, s⟩ | ⟨rfl, s⟩
    · exact NF_3 (by omega)
    · exact NF_64 (by omega)
  · unfold pGate at p; omega
  · unfold pSort at p; omega
  · unfold pCart at p; omega
  · unfold pWay at p; omega
  · unfold pTape at p; omega
  · unfold pText at p; omega
  · unfold pImg at p; omega
  · unfold pSheet at p; omega
  · omega
theorem Rel.cnt {σ : ZS} (h : Rel σ) : (sM σ 5 5 = sM σ 64 2 ∧ 0 ≤ sM σ 64 2 ∧ sM σ 64 2 ≤ 4) ∧ (sM σ 5 7 = sM σ 64 6 ∧ 0 ≤ sM σ 64 6 ∧ sM σ 64 6 ≤ 16) ∧ (sM σ 3 3 = sM σ 64 8 ∧ 0 ≤ sM σ 64 8 ∧ sM σ 64 8 ≤ 8) ∧ (sM σ 34 1 = sM σ 64 13 ∧ 0 ≤ sM σ 64 13 ∧ sM σ 64 13 ≤ 160) ∧ (sM σ 3 6 = sM σ 64 16 ∧ 1 ≤ sM σ 64 16 ∧ sM σ 64 16 ≤ 6) ∧ (sM σ 3 7 = sM σ 64 17 ∧ 0 ≤ sM σ 64 17 ∧ sM σ 64 17 < sM σ 64 16) := by
  obtain ⟨hF, h1, h2, h3, h4, h5, h6, h7, h8, h10, h11⟩ := h
  exact ⟨⟨h2.1, h2.2.1⟩, ⟨h3.1, h3.2.1⟩, ⟨h4.1, h4.2.1⟩, ⟨h5.1, h5.2.1⟩, ⟨h6.1, h6.2.1⟩, h7⟩
theorem Rel.F {σ : ZS} (h : Rel σ) : FxD σ := h.1
theorem Rel.G {σ : ZS} (h : Rel σ) : RGate σ := h.2.1
theorem Rel.So {σ : ZS} (h : Rel σ) : RSort σ := h.2.2.1
theorem Rel.Ca {σ : ZS} (h : Rel σ) : RCart σ := h.2.2.2.1
theorem Rel.Wa {σ : ZS} (h : Rel σ) : RWay σ := h.2.2.2.2.1
theorem Rel.Ta {σ : ZS} (h : Rel σ) : RTape σ := h.2.2.2.2.2.1
theorem Rel.Te {σ : ZS} (h : Rel σ) : RText σ := h.2.2.2.2.2.2.1
theorem Rel.Ru {σ : ZS} (h : Rel σ) : RRule σ := h.2.2.2.2.2.2.2.1
theorem Rel.Im {σ : ZS} (h : Rel σ) : RImg σ := h.2.2.2.2.2.2.2.2.1
theorem Rel.Sh {σ : ZS} (h : Rel σ) : RSheet σ := h.2.2.2.2.2.2.2.2.2.1
theorem Rel.Sc {σ : ZS} (h : Rel σ) : RScr σ := h.2.2.2.2.2.2.2.2.2.2
