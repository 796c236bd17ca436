/-! rows: fields and arrays -/
def upM (σ : ZS) (a i v : Int) : ZS := (fun b j => if b = a ∧ j = i then v else sM σ b j, σ.2)
/-- a whole row -/
def upR (σ : ZS) (a : Int) (f : Int → Int) : ZS := (fun b j => if b = a then f j else sM σ b j, σ.2)
theorem sM_upM (σ : ZS) (a i v b j : Int) : sM (upM σ a i v) b j = if b = a ∧ j = i then v else sM σ b j := rfl
theorem sK_upM (σ : ZS) (a i v b : Int) : sK (upM σ a i v) b = sK σ b := rfl
theorem sL_upM (σ : ZS) (a i v b : Int) : sL (upM σ a i v) b = sL σ b := rfl
theorem sN_upM (σ : ZS) (a i v : Int) : sN (upM σ a i v) = sN σ := rfl
theorem sT_upM (σ : ZS) (a i v : Int) : sT (upM σ a i v) = sT σ := rfl
theorem sM_upR (σ : ZS) (a : Int) (f : Int → Int) (b j : Int) : sM (upR σ a f) b j = if b = a then f j else sM σ b j := rfl
theorem sK_upR (σ : ZS) (a : Int) (f : Int → Int) (b : Int) : sK (upR σ a f) b = sK σ b := rfl
theorem sL_upR (σ : ZS) (a : Int) (f : Int → Int) (b : Int) : sL (upR σ a f) b = sL σ b := rfl
theorem sN_upR (σ : ZS) (a : Int) (f : Int → Int) : sN (upR σ a f) = sN σ := rfl
theorem sT_upR (σ : ZS) (a : Int) (f : Int → Int) : sT (upR σ a f) = sT σ := rfl
/-- a field, of an object of kind c -/
def zg (σ : ZS) (c a i : Int) : Option Int := if sK σ a = c then some (sM σ a i) else none
def isW (k : Int) : Prop := k = 10 ∨ k = 9 ∨ k = 3 ∨ k = 0 ∨ k = 1 ∨ k = 7
/-- a field of a way, of whatever kind -/
def zgw (σ : ZS) (a i : Int) : Option Int := if sK σ a = 10 ∨ sK σ a = 9 ∨ sK σ a = 3 ∨ sK σ a = 0 ∨ sK σ a = 1 ∨ sK σ a = 7 then some (sM σ a i) else none
def zp (σ : ZS) (c a i v : Int) : Option ZS := if sK σ a = c ∧ 3 ≤ a then some (upM σ a i v) else none
/-- a place of an array of kind c -/
def zal (σ : ZS) (c a i : Int) : Option Int := if sK σ a = c ∧ 0 ≤ i ∧ i < sL σ a then some (sM σ a i) else none
def zas (σ : ZS) (c a i v : Int) : Option ZS := if sK σ a = c ∧ 3 ≤ a ∧ 0 ≤ i ∧ i < sL σ a then some (upM σ a i v) else none
def zlen (σ : ZS) (c a : Int) : Option Int := if sK σ a = c then some (sL σ a) else none
def zcp (σ : ZS) (a i b j n : Int) : Option ZS := if sK σ a = 100 ∧ sK σ b = 100 ∧ 3 ≤ b ∧ 0 ≤ i ∧ 0 ≤ j ∧ 0 ≤ n ∧ i + n ≤ sL σ a ∧ j + n ≤ sL σ b then some (upR σ b (fun k => if j ≤ k ∧ k < j + n then sM σ a (i + (k - j)) else sM σ b k)) else none
theorem zWT.kind {σ : ZS} (h : zWT σ) {a : Int} (hk : sK σ a ≠ -1) : 0 ≤ a ∧ a < (sN σ : Int) := h.1 a hk
theorem zWT.upM {σ : ZS} (h : zWT σ) {a i v : Int} (hv : zOk (sN σ) (zst (sK σ a) i, v)) : zWT (upM σ a i v) := by
  refine ⟨h.1, h.2.1, fun b j => ?_, h.2.2.2⟩
  show zOk (sN σ) (zst (sK σ b) j, if b = a ∧ j = i then v else sM σ b j)
  split
  · rename_i e; rw [e.1, e.2]; exact hv
  · exact h.2.2.1 b j
theorem zWT.upR {σ : ZS} (h : zWT σ) {a : Int} {f : Int → Int} (hv : ∀ i, zOk (sN σ) (zst (sK σ a) i, f i)) : zWT (upR σ a f) := by
  refine ⟨h.1, h.2.1, fun b j => ?_, h.2.2.2⟩
  show zOk (sN σ) (zst (sK σ b) j, if b = a then f j else sM σ b j)
  split
  · rename_i e; rw [e]; exact hv j
  · exact h.2.2.1 b j
theorem zE_inj {E : ZE} (hE : zOkE E) {a b : Nat} (ha : 3 ≤ a) (h : eR E b = eR E a) : b = a := by
  obtain ⟨h0, h1, h2, h3, -⟩ := hE
  have ea : eR E a = eB E + (a - 3) := by have := h0 (a - 3); rwa [show a - 3 + 3 = a by omega] at this
  by_cases hb : 3 ≤ b
  · have eb : eR E b = eB E + (b - 3) := by have := h0 (b - 3); rwa [show b - 3 + 3 = b by omega] at this
    omega
  · have : b = 0 ∨ b = 1 ∨ b = 2 := by omega
    rcases this with rfl | rfl | rfl <;> omega
theorem zE_base {E : ZE} (hE : zOkE E) {a : Nat} (ha : 3 ≤ a) : eB E ≤ eR E a := by
  have := hE.1 (a - 3)
  rw [show a - 3 + 3 = a by omega] at this
  omega
theorem zCell.same {E : ZE} {σ τ : ZS} {b : Nat} {H H1 : Heap} (h : zCell E σ b H) (hk : sK τ b = sK σ b) (hl : sL τ b = sL σ b) (hm : ∀ j : Int, sM τ b j = sM σ b j) (hh : H1[eR E b]? = H[eR E b]?) : zCell E τ b H1 := by
  unfold zCell at h ⊢
  rw [hk, hl]
  have e : ∀ (g : Nat → Nat), (fun j : Nat => zV (eR E) (g j, sM τ b j)) = fun j : Nat => zV (eR E) (g j, sM σ b j) := fun g => funext fun j => by rw [hm]
  rcases h with ⟨h1, h2, h3⟩ | ⟨h1, h2, r, h3, h4⟩
  · refine Or.inl ⟨h1, h2, ?_⟩
    rw [hh, e (fun _ => zat (sK σ b))]
    exact h3
  · exact Or.inr ⟨h1, h2, r, h3, by rw [e (fun j => zst (sK σ b) j)]; exact h4.kept hh⟩
theorem zcell_mk {E : ZE} {a : Nat} {k : Int} {n : Nat} {f : Nat → Value} {H : Heap} {P : Cell → Prop} (h3 : 3 ≤ a) (h : H[eR E a]? = some (arrV (eC E k) n f)) : ∃ cell : Cell, H[eR E a]? = some cell ∧ (3 ≤ a → cell = arrV (eC E k) n f) ∧ (a < 3 → P cell) :=
  ⟨_, h, fun _ => rfl, fun q => absurd q (by omega)⟩
theorem zRep.cell {E : ZE} {σ : ZS} {H : Heap} (h : zRep E σ H) (hw : zWT σ) {a : Int} (hk : sK σ a ≠ -1) : ((a.toNat : Nat) : Int) = a ∧ a.toNat < sN σ ∧ zCell E σ a.toNat H := by
  obtain ⟨h1, h2⟩ := hw.1 a hk
  have h3 : ((a.toNat : Nat) : Int) = a := Int.toNat_of_nonneg h1
  exact ⟨h3, by omega, h.2 _ (by omega)⟩
/-- one cell is written -/
theorem zRep.put {E : ZE} {σ τ : ZS} {H H1 : Heap} (h : zRep E σ H) (hE : zOkE E) {a : Nat} (ha : 3 ≤ a) (hn : sN τ = sN σ) (hk : ∀ b : Int, sK τ b = sK σ b) (hl : ∀ b : Int, sL τ b = sL σ b) (hm : ∀ b : Int, b ≠ (a : Int) → ∀ j : Int, sM τ b j = sM σ b j)
    (z : H1.size = H.size) (oq : ∀ q : Nat, q ≠ eR E a → H1[q]? = H[q]?) (hc : zCell E τ a H1) : zRep E τ H1 := by
  refine ⟨by rw [z, hn]; exact h.1, fun b hb => ?_⟩
  by_cases e : b = a
  · rw [e]; exact hc
  · exact (h.2 b (by rw [← hn]; exact hb)).same (hk b) (hl b) (hm b (by omega)) (oq _ (fun q => e (zE_inj hE ha q)))
def zCls (c : Int) (C : String) (T : u_T) (N : Nat) : Prop := 0 ≤ c ∧ c ≤ 12 ∧ vwCl[c.toNat]? = some (C, T, N) ∧ (∀ w ∈ u_ws C T N, w ∈ zT) ∧ (∀ k, k < N → parseFieldDescriptor (T k).2.2.1 = some (zoty c k)) ∧ (∀ a, a < N → ∀ b, b < N → a ≠ b → (T a).2.1 ≠ (T b).2.1)
theorem zst_obj {c : Int} (h0 : 0 ≤ c) (h1 : c ≤ 12) (k : Nat) : zst c (k : Int) = ztag (zoty c k) := by
  unfold zst
  rw [if_neg (by omega), if_neg (by omega), Int.toNat_natCast]
theorem zst_arr {c : Int} (h0 : 100 ≤ c) (i : Int) : zst c i = zat c := by
  unfold zst
  rw [if_neg (by omega), if_pos h0]
section ZF
variable {X : ZX} {G : Prop} {cc : ByteArray} {own : String} {d pc : Nat} {lv lv' : List (Nat × ZV)} {st : List ZV} {σ : ZS}
theorem zobj {E : ZE} {H : Heap} {c : Int} {C : String} {T : u_T} {N : Nat} (hc : zCls c C T N) (hr : zRep E σ H) (hw : zWT σ) {a : Int} (hk : sK σ a = c) : ¬ a < 0 ∧ ((a.toNat : Nat) : Int) = a ∧ a.toNat < sN σ ∧ t_OB (eR E a.toNat) ((eD E).1 c.toNat) N ((eD E).2 c.toNat) H (fun j => zV (eR E) (zst c j, sM σ a j)) := by
  obtain ⟨c0, c1, c2, -⟩ := hc
  have hne : sK σ a ≠ -1 := by rw [hk]; omega
  obtain ⟨h1, h2, h3⟩ := hr.cell hw hne
  have h4 := hw.1 a hne
  refine ⟨by omega, h1, h2, ?_⟩
  unfold zCell at h3
  rw [h1, hk] at h3
  rcases h3 with ⟨g1, -⟩ | ⟨g1, g2, r, g3, g4⟩
  · omega
  · rw [c2] at g3
    cases g3
    exact g4
theorem zarr {E : ZE} {H : Heap} {c : Int} (hc : 100 ≤ c) (hr : zRep E σ H) (hw : zWT σ) {a : Int} (hk : sK σ a = c) (h3a : 3 ≤ a) : ¬ a < 0 ∧ ((a.toNat : Nat) : Int) = a ∧ a.toNat < sN σ ∧ c ≤ 105 ∧ H[eR E a.toNat]? = some (arrV (eC E c) (sL σ a).toNat (fun j => zV (eR E) (zat c, sM σ a j))) := by
  have hne : sK σ a ≠ -1 := by rw [hk]; omega
  obtain ⟨h1, h2, h3⟩ := hr.cell hw hne
  have h4 := hw.1 a hne
  refine ⟨by omega, h1, h2, ?_⟩
  unfold zCell at h3
  rw [h1, hk] at h3
  rcases h3 with ⟨g1, g2, cell, g3, g4, -⟩ | ⟨g1, g2, -⟩
  · exact ⟨g2, by rw [g3, g4 (by omega)]⟩
  · omega
theorem getW (hX : ZOk X cc own d) {c : Int} {C : String} {T : u_T} {N : Nat} (hc : zCls c C T N) (k : Nat) (hk : k < N) {idx : Nat} (hl : Cond.fieldLink own idx (T k).1 (T k).2.1 (T k).2.2.1 ∈ zT) (hd : decode cc pc = .ok (.getfield idx, 3)) {a : Int} (hw : zWT σ) (hka : sK σ a = c)
    {H : Heap} {locs : List Loc} {ls : Array Slot} {cells slots : Nat} {Q : State → Prop} (hr : zRep (xE X) σ H) {t : Nat} (ht : ztag (zoty c k) = t)
    (w : WX X H locs cells slots Q (pc + 3) ls (zvs (eR (xE X)) ((t, sM σ a k) :: st))) : WX X H locs cells slots Q pc ls (zvs (eR (xE X)) ((2, a) :: st)) := by
  obtain ⟨a0, a1, a2, cell, q1, q2, q3, q4⟩ := zobj hc hr hw hka
  obtain ⟨c0, c1, c2, c3, c4, c5⟩ := hc
  have hts := hX.2.2.2.2.1
  obtain ⟨hS, hfc, kC, hkC, hkind⟩ := hX.2.2.2.2.2.1.1 c.toNat _ c2
  obtain ⟨cf, kf, fi, f, hi, hsl⟩ := hS k hk
  rw [zvs_c, zV_ref a0]
  refine W.getf hX.1 hX.2.1 hX.2.2.2.1 (hts _ hl) hi (u_facts hfc hkC (u_lays hts c3 hk) hi).1 q1 (by rw [q3]; exact fun h => by cases h) (v := zV (eR (xE X)) (t, sM σ a k)) ?_ rfl rfl hd w
  rw [hsl, q4 k hk]
  show some (zV _ (zst c (k : Int), _)) = _
  rw [zst_obj c0 c1, ht]
theorem z_get (hX : G → ZOk X cc own d) {c : Int} {C : String} {T : u_T} {N : Nat} (hc : zCls c C T N) (k : Nat) (hk : k < N) {idx : Nat} (hl : Cond.fieldLink own idx (T k).1 (T k).2.1 (T k).2.2.1 ∈ zT) {t : Nat} (ht : ztag (zoty c k) = t) {ki : Int} (hki : ((k : Nat) : Int) = ki) (hd : decode cc pc = .ok (.getfield idx, 3)) {a : Int} {O : Int → Option (Int × ZS)}
    (kk : ∀ w : Int, Zj X G (pc + 3) lv ((t, w) :: st) σ (O w)) : Zj X G pc lv ((2, a) :: st) σ ((zg σ c a ki).bind O) := by
  subst hki
  unfold zg
  by_cases hka : sK σ a = c
  · rw [if_pos hka]
    refine z_stk (fun hw _ hs => hs.tl.cons ?_) (fun g hw _ _ _ _ _ _ _ _ hr _ _ w => getW (hX g) hc k hk hl hd hw hka hr ht w) (kk (sM σ a k))
    have := hw.2.2.1 a k
    rwa [hka, zst_obj hc.1 hc.2.1, ht] at this
  · rw [if_neg hka]; exact z_none
/-- a field of a way of any kind: the six classes lay it alike -/
theorem z_getw (hX : G → ZOk X cc own d) {T10 T9 T3 T0 T1 T7 : u_T} (h10 : zCls 10 RX10 T10 3) (h9 : zCls 9 RX9 T9 3) (h3 : zCls 3 RX3 T3 3) (h0 : zCls 0 RX0 T0 3) (h1 : zCls 1 RX1 T1 3) (h7 : zCls 7 RX7 T7 3) (k : Nat) (hk : k < 3) {idx : Nat} {ref n ds : String} (hl : Cond.fieldLink own idx ref n ds ∈ zT)
    (e10 : ((T10 k).1, (T10 k).2.1, (T10 k).2.2.1) = (ref, n, ds)) (e9 : ((T9 k).1, (T9 k).2.1, (T9 k).2.2.1) = (ref, n, ds)) (e3 : ((T3 k).1, (T3 k).2.1, (T3 k).2.2.1) = (ref, n, ds)) (e0 : ((T0 k).1, (T0 k).2.1, (T0 k).2.2.1) = (ref, n, ds)) (e1 : ((T1 k).1, (T1 k).2.1, (T1 k).2.2.1) = (ref, n, ds)) (e7 : ((T7 k).1, (T7 k).2.1, (T7 k).2.2.1) = (ref, n, ds))
    {t : Nat} (t10 : ztag (zoty 10 k) = t) (t9 : ztag (zoty 9 k) = t) (t3 : ztag (zoty 3 k) = t) (t0 : ztag (zoty 0 k) = t) (t1 : ztag (zoty 1 k) = t) (t7 : ztag (zoty 7 k) = t) {ki : Int} (hki : ((k : Nat) : Int) = ki) (hd : decode cc pc = .ok (.getfield idx, 3)) {a : Int} {O : Int → Option (Int × ZS)}
    (kk : ∀ w : Int, Zj X G (pc + 3) lv ((t, w) :: st) σ (O w)) : Zj X G pc lv ((2, a) :: st) σ ((zgw σ a ki).bind O) := by
  have key : ∀ (c : Int) (C : String) (T : u_T), zCls c C T 3 → ((T k).1, (T k).2.1, (T k).2.2.1) = (ref, n, ds) → ztag (zoty c k) = t → sK σ a = c → Zj X G pc lv ((2, a) :: st) σ (O (sM σ a ki)) := by
    intro c C T hc e ht hka
    have hl' : Cond.fieldLink own idx (T k).1 (T k).2.1 (T k).2.2.1 ∈ zT := by
      injection e with e1 e2
      injection e2 with e2 e3
      rw [e1, e2, e3]; exact hl
    have := z_get hX hc k hk hl' ht hki hd (a := a) (O := O) kk (lv := lv)
    unfold zg at this
    rw [if_pos hka] at this
    exact this
  unfold zgw
  split
  · rename_i h
    rcases h with h | h | h | h | h | h
    · exact key 10 _ _ h10 e10 t10 h
    · exact key 9 _ _ h9 e9 t9 h
    · exact key 3 _ _ h3 e3 t3 h
    · exact key 0 _ _ h0 e0 t0 h
    · exact key 1 _ _ h1 e1 t1 h
    · exact key 7 _ _ h7 e7 t7 h
  · exact z_none
/-- a field is written: not a final one, or the maker's own -/
theorem putW (hX : ZOk X cc own d) {c : Int} {C : String} {T : u_T} {N : Nat} (hc : zCls c C T N) (k : Nat) (hk : k < N) {idx : Nat} (hl : Cond.fieldLink own idx (T k).1 (T k).2.1 (T k).2.2.1 ∈ zT) (hf : (T k).2.2.2 = false ∨ ((xM X).name = "<init>" ∧ (T k).1 = own)) (hd : decode cc pc = .ok (.putfield idx, 3)) {a v : Int} (hw : zWT σ) (hka : sK σ a = c) (h3 : 3 ≤ a)
    {H : Heap} {locs : List Loc} {ls : Array Slot} {cells slots : Nat} {Q : State → Prop} (hr : zRep (xE X) σ H) (hS0 : va_S (zA (xE X)) (xs X).heap H locs) {t : Nat} (ht : ztag (zoty c k) = t) (hn : narrow (zoty c k) (zV (eR (xE X)) (t, v)) = zV (eR (xE X)) (t, v)) (hfit : fits (zoty c k) (zV (eR (xE X)) (t, v)) = true)
    (w : ∀ (H1 : Heap) (locs1 : List Loc), zRep (xE X) (upM σ a k v) H1 → va_S (zA (xE X)) (xs X).heap H1 locs1 → WX X H1 locs1 cells slots Q (pc + 3) ls (zvs (eR (xE X)) st)) : WX X H locs cells slots Q pc ls (zvs (eR (xE X)) ((t, v) :: (2, a) :: st)) := by
  obtain ⟨a0, a1, a2, cell, q1, q2, q3, q4⟩ := zobj hc hr hw hka
  obtain ⟨c0, c1, c2, c3, c4, c5⟩ := hc
  have hts := hX.2.2.2.2.1
  have hE := hX.2.2.2.2.2.2.1
  have hKK := hX.2.2.2.2.2.1
  obtain ⟨hS, hfc, kC, hkC, hkind⟩ := hKK.1 c.toNat _ c2
  obtain ⟨cf, kf, fi, f, hi, hsl⟩ := hS k hk
  have hap := va_apart (own := own) hts c3 (fun j => zoty c j) c4 c5 hKK c2
  have hst := (u_facts hfc hkC (u_lays hts c3 hk) hi).1
  have fin : ∀ H' : Heap, H'[eR (xE X) a.toNat]? = some (cell.setSlot f.slot (zV (eR (xE X)) (t, v))) → H'.size = H.size → (∀ q, q ≠ eR (xE X) a.toNat → H'[q]? = H[q]?) → WX X H' (locs ++ [⟨eR (xE X) a.toNat, f.slot⟩]) cells slots Q (pc + 3) ls (zvs (eR (xE X)) st) := by
    intro H' e1 e2 e3
    rw [hsl] at e1
    have h3' : 3 ≤ a.toNat := by omega
    refine w H' _ (hr.put hE (a := a.toNat) h3' rfl (fun _ => rfl) (fun _ => rfl) (fun b hb j => ?_) e2 e3 (Or.inr ⟨?_, ?_, (C, T, N), ?_, ?_⟩)) (hS0.put e2 e3 (zE_base hE h3'))
    · rw [a1] at hb
      rw [sM_upM, if_neg (fun h => hb h.1)]
    · rw [sK_upM, a1, hka]; exact c0
    · rw [sK_upM, a1, hka]; exact c1
    · rw [sK_upM, a1, hka]; exact c2
    · rw [sK_upM, a1, hka]
      refine t_OB.to (V := updV (fun j => zV (eR (xE X)) (zst c j, sM σ a j)) k (zV (eR (xE X)) (t, v))) ⟨_, e1, q2, q3, t_set q4 hap hk _⟩ (fun j _ => ?_)
      rw [sM_upM]
      unfold updV
      by_cases hj : j = k
      · subst hj
        rw [if_pos rfl, if_pos ⟨rfl, rfl⟩, zst_obj c0 c1, ht]
      · rw [if_neg hj, if_neg (fun h => hj (by have := h.2; omega))]
  rw [zvs_c, zvs_c, zV_ref a0]
  rcases hf with hf | ⟨hin, hdecl⟩
  · have hlay := hts _ (c3 _ (u_in_lay hk))
    unfold u_lay at hlay
    rw [if_neg (by rw [hf]; decide)] at hlay
    have h6 := u_store hfc hkC hkind hlay hi (c4 k hk) hn hfit
    refine W.putK hX.1 hX.2.1 (f := f) ⟨hX.2.2.2.1, hts _ hl, ⟨_, _, _, hi⟩, hst⟩ (by rw [q2]; exact h6) q1 q3 (by rw [hsl]; exact k2_hasslot (q4 k hk)) rfl rfl hd fin
  · have hown := hX.2.2.2.1
    have h6 := u_fits hfc hkC hkind (u_lays hts c3 hk) hi (c4 k hk) hn hfit
    by_cases hff : (T k).2.2.2 = true
    · have hlay := hts _ (c3 _ (u_in_lay hk))
      unfold u_lay at hlay
      rw [if_pos hff] at hlay
      have hcf : (xm X).cls = cf := by
        obtain ⟨_, _, c', _, _, _, -, -, hf', -, -, -, hown2, -⟩ := Cond.laysFinal_spec hlay
        have e1 : c' = cf := by have := hi.symm.trans hf'; simp at this; exact this.1.symm
        rw [hdecl] at hown2
        rw [← e1]; exact Option.some.inj (hown.symm.trans hown2)
      refine W.putFinK hX.1 hX.2.1 hown (hts _ hl) hi hst hcf hin (by rw [q2]; exact h6) q1 q3 (by rw [hsl]; exact k2_hasslot (q4 k hk)) rfl rfl hd fin
    · have hff' : (T k).2.2.2 = false := by simpa using hff
      have hlay := hts _ (c3 _ (u_in_lay hk))
      unfold u_lay at hlay
      rw [if_neg (by rw [hff']; decide)] at hlay
      have h6 := u_store hfc hkC hkind hlay hi (c4 k hk) hn hfit
      refine W.putK hX.1 hX.2.1 (f := f) ⟨hown, hts _ hl, ⟨_, _, _, hi⟩, hst⟩ (by rw [q2]; exact h6) q1 q3 (by rw [hsl]; exact k2_hasslot (q4 k hk)) rfl rfl hd fin
theorem z_put (hX : G → ZOk X cc own d) {c : Int} {C : String} {T : u_T} {N : Nat} (hc : zCls c C T N) (k : Nat) (hk : k < N) {idx : Nat} (hl : Cond.fieldLink own idx (T k).1 (T k).2.1 (T k).2.2.1 ∈ zT) (hf : (T k).2.2.2 = false ∨ ((G → (xM X).name = "<init>") ∧ (T k).1 = own)) {t : Nat} (ht : ztag (zoty c k) = t) {ki : Int} (hki : ((k : Nat) : Int) = ki) {a v : Int} (hn : ∀ r, narrow (zoty c k) (zV r (t, v)) = zV r (t, v)) (hfit : ∀ r, fits (zoty c k) (zV r (t, v)) = true) (hd : decode cc pc = .ok (.putfield idx, 3)) {O : ZS → Option (Int × ZS)}
    (kk : Zj X G (pc + 3) lv st (upM σ a ki v) (O (upM σ a ki v))) : Zj X G pc lv ((t, v) :: (2, a) :: st) σ ((zp σ c a ki v).bind O) := by
  subst hki
  unfold zp
  by_cases hka : sK σ a = c ∧ 3 ≤ a
  · rw [if_pos hka]
    intro u σ' hO hw hl' hs h1 h2
    have hw' : zWT (upM σ a k v) := hw.upM (by rw [hka.1, zst_obj hc.1 hc.2.1, ht]; exact hs.hd)
    obtain ⟨q1, q2⟩ := kk u σ' hO hw' hl' hs.tl.tl h1 h2
    exact ⟨q1, fun g hR H locs ls hr hS hls => putW (hX g) hc k hk hl (hf.imp id (fun h => ⟨h.1 g, h.2⟩)) hd hw hka.1 hka.2 hr hS ht (hn _) (hfit _) (fun H1 locs1 hr1 hS1 => q2 g hR H1 locs1 ls hr1 hS1 hls)⟩
  · rw [if_neg hka]; exact z_none
theorem zfit_obj (C : String) (r : Nat → Nat) (v : Int) : fits (.object C) (zV r (2, v)) = true := by
  by_cases h : v < 0
  · rw [zV_null h]; rfl
  · rw [zV_ref h]; rfl
theorem zfit_arr (t : FieldType) (r : Nat → Nat) (v : Int) : fits (.array t) (zV r (2, v)) = true := by
  by_cases h : v < 0
  · rw [zV_null h]; rfl
  · rw [zV_ref h]; rfl
theorem z_ix {i n : Int} (hi : zInR i) (h0 : 0 ≤ i) (h1 : i < n) : (Int32.ofInt i).toNatClampNeg = i.toNat ∧ ¬ (Int32.ofInt i < 0 ∨ n.toNat ≤ (Int32.ofInt i).toNatClampNeg) := by
  have e : (Int32.ofInt i).toNatClampNeg = i.toNat := by show (Int32.ofInt i).toInt.toNat = _; rw [z_toInt hi]
  refine ⟨e, ?_⟩
  rw [e]
  rintro (h | h)
  · have : i < 0 := (z_lt hi ⟨by decide, by decide⟩).mp h
    omega
  · omega
theorem zA_of (hX : ZOk X cc own d) (t : Nat) (k : Int) (h : (zTys (xE X))[t]? = some (eC (xE X) k, zaty k)) : ArrOfT (xs X) (eC (xE X) k) (zaty k) := (hX.2.2.2.2.2.1.2 t _ h).1
/-- an array that is read -/
theorem zarrR (hX : ZOk X cc own d) (t : Nat) {c : Int} (ht : (zTys (xE X))[t]? = some (eC (xE X) c, zaty c)) {H : Heap} (hc : 100 ≤ c) (hr : zRep (xE X) σ H) (hw : zWT σ) {a : Int} (hk : sK σ a = c) : ¬ a < 0 ∧ ((a.toNat : Nat) : Int) = a ∧ a.toNat < sN σ ∧ ∃ cell : Cell, H[eR (xE X) a.toNat]? = some cell ∧ (xs X).isArrayOf cell (zaty c) ∧ cell.vm ≠ .unknown ∧ zLike cell (sL σ a).toNat (fun j => zV (eR (xE X)) (zat c, sM σ a j)) := by
  have hne : sK σ a ≠ -1 := by rw [hk]; omega
  obtain ⟨h1, h2, h3⟩ := hr.cell hw hne
  have h4 := hw.1 a hne
  refine ⟨by omega, h1, h2, ?_⟩
  unfold zCell at h3
  rw [h1, hk] at h3
  rcases h3 with ⟨g1, g2, cell, g3, g5, g6⟩ | ⟨g1, g2, -⟩
  · refine ⟨cell, g3, ?_, ?_, ?_⟩
    · by_cases h : 3 ≤ a.toNat
      · rw [g5 h]; exact zA_of hX t c ht _ _
      · obtain ⟨k1, k2, k3, k4, -⟩ := g6 (by omega)
        obtain ⟨k, comp, m1, m2⟩ := (hX.2.2.2.2.2.2.2.2.2.2.2).2.2.2.2.2.2.2.2.2.2 a.toNat (by omega)
        rw [h1] at m1
        refine ⟨k4, k, by rw [k2]; exact m1, comp, ?_⟩
        rw [m2, k1]
        rfl
    · by_cases h : 3 ≤ a.toNat
      · rw [g5 h]; exact fun q => by cases q
      · exact (g6 (by omega)).2.2.1
    · by_cases h : 3 ≤ a.toNat
      · rw [g5 h]
        exact ⟨by rw [arrV_size]; exact Nat.le_refl _, by rw [arrV_size], fun j hj => arrV_read _ _ hj⟩
      · have := (g6 (by omega)).2.2.2.2
        exact this
  · omega
theorem z_iald (hX : G → ZOk X cc own d) (hd : decode cc pc = .ok (.iaload, 1)) {a i : Int} {O : Int → Option (Int × ZS)}
    (kk : ∀ w : Int, Zj X G (pc + 1) lv ((0, w) :: st) σ (O w)) : Zj X G pc lv ((0, i) :: (2, a) :: st) σ ((zal σ 100 a i).bind O) := by
  unfold zal
  by_cases h : sK σ a = 100 ∧ 0 ≤ i ∧ i < sL σ a
  · rw [if_pos h]
    refine z_stk (fun hw _ hs => hs.tl.tl.c0 ?_) (fun g hw _ hs H locs ls _ _ _ hr _ _ w => ?_) (kk (sM σ a i))
    · have := hw.2.2.1 a i
      rwa [h.1, zst_arr (by omega)] at this
    · obtain ⟨a0, a1, a2, cell, a3, a4, a5, a6⟩ := zarrR (hX g) 0 (c := 100) rfl (by omega) hr hw h.1
      obtain ⟨e1, e2⟩ := z_ix hs.hd h.2.1 h.2.2
      rw [zvs_c, zvs_c, zV_ref a0]
      refine W.iald (v := zV (eR (xE X)) (0, sM σ a i)) (hX g).1 (hX g).2.1 a3 a4 a5 (fun q => e2 (q.imp id (fun q => Nat.le_trans a6.1 q))) ?_ rfl rfl hd w
      have a7 := a6.2.2 i.toNat (by omega)
      simp only [Int.toNat_of_nonneg h.2.1] at a7
      rw [e1, a7]; rfl
  · rw [if_neg h]; exact z_none
theorem z_lald (hX : G → ZOk X cc own d) (hd : decode cc pc = .ok (.laload, 1)) {a i : Int} {O : Int → Option (Int × ZS)}
    (kk : ∀ w : Int, Zj X G (pc + 1) lv ((1, w) :: st) σ (O w)) : Zj X G pc lv ((0, i) :: (2, a) :: st) σ ((zal σ 101 a i).bind O) := by
  unfold zal
  by_cases h : sK σ a = 101 ∧ 0 ≤ i ∧ i < sL σ a
  · rw [if_pos h]
    refine z_stk (fun hw _ hs => hs.tl.tl.c1 ?_) (fun g hw _ hs H locs ls _ _ _ hr _ _ w => ?_) (kk (sM σ a i))
    · have := hw.2.2.1 a i
      rwa [h.1, zst_arr (by omega)] at this
    · obtain ⟨a0, a1, a2, cell, a3, a4, a5, a6⟩ := zarrR (hX g) 1 (c := 101) rfl (by omega) hr hw h.1
      obtain ⟨e1, e2⟩ := z_ix hs.hd h.2.1 h.2.2
      rw [zvs_c, zvs_c, zV_ref a0]
      refine W.lald (v := zV (eR (xE X)) (1, sM σ a i)) (hX g).1 (hX g).2.1 a3 a4 a5 (fun q => e2 (q.imp id (fun q => Nat.le_trans a6.1 q))) ?_ rfl rfl hd w
      have a7 := a6.2.2 i.toNat (by omega)
      simp only [Int.toNat_of_nonneg h.2.1] at a7
      rw [e1, a7]; rfl
  · rw [if_neg h]; exact z_none
theorem z_aald (hX : G → ZOk X cc own d) (t : Nat) (c : Int) (hc : 102 ≤ c) (ht : (zTys (xE X))[t]? = some (eC (xE X) c, zaty c)) (hre : (zaty c).isReference = true) (hd : decode cc pc = .ok (.aaload, 1)) {a i : Int} {O : Int → Option (Int × ZS)}
    (kk : ∀ w : Int, Zj X G (pc + 1) lv ((2, w) :: st) σ (O w)) : Zj X G pc lv ((0, i) :: (2, a) :: st) σ ((zal σ c a i).bind O) := by
  have hz : zat c = 2 := by unfold zat; rw [if_neg (by omega), if_neg (by omega)]
  unfold zal
  by_cases h : sK σ a = c ∧ 0 ≤ i ∧ i < sL σ a
  · rw [if_pos h]
    refine z_stk (fun hw _ hs => hs.tl.tl.c2 ?_) (fun g hw _ hs H locs ls _ _ _ hr _ _ w => ?_) (kk (sM σ a i))
    · have := hw.2.2.1 a i
      rw [h.1, zst_arr (by omega), hz] at this
      exact this
    · obtain ⟨a0, a1, a2, cell, a3, a4, a5, a6⟩ := zarrR (hX g) t ht (by omega) hr hw h.1
      obtain ⟨e1, e2⟩ := z_ix hs.hd h.2.1 h.2.2
      rw [zvs_c, zvs_c, zV_ref a0]
      refine W.aald (v := zV (eR (xE X)) (2, sM σ a i)) (ty := zaty c) (hX g).1 (hX g).2.1 a3 a4 hre a5 (fun q => e2 (q.imp id (fun q => Nat.le_trans a6.1 q))) ?_ rfl rfl hd w
      have a7 := a6.2.2 i.toNat (by omega)
      simp only [Int.toNat_of_nonneg h.2.1] at a7
      rw [e1, a7, hz]
  · rw [if_neg h]; exact z_none
/-- what is written to a place of an array -/
theorem zRep.arr {E : ZE} {H H1 : Heap} {c : Int} (hc : 100 ≤ c) (hE : zOkE E) (hr : zRep E σ H) (hw : zWT σ) {a i v : Int} (hk : sK σ a = c) (h3 : 3 ≤ a) (hi : 0 ≤ i) {x : Value} (hx : x = zV (eR E) (zat c, v))
    (e1 : H1[eR E a.toNat]? = some ((arrV (eC E c) (sL σ a).toNat (fun j => zV (eR E) (zat c, sM σ a j))).setSlot i.toNat x)) (z : H1.size = H.size) (oq : ∀ q : Nat, q ≠ eR E a.toNat → H1[q]? = H[q]?) : zRep E (upM σ a i v) H1 := by
  obtain ⟨a0, a1, a2, a4, a3⟩ := zarr hc hr hw hk h3
  refine hr.put hE (a := a.toNat) (by omega) rfl (fun _ => rfl) (fun _ => rfl) (fun b hb j => ?_) z oq (Or.inl ⟨?_, ?_, ?_⟩)
  · rw [a1] at hb
    rw [sM_upM, if_neg (fun h => hb h.1)]
  · rw [sK_upM, a1, hk]; exact hc
  · rw [sK_upM, a1, hk]; exact a4
  · refine zcell_mk (by omega) ?_
    rw [e1, sK_upM, sL_upM, a1, hk, arrV_store]
    congr 2
    funext j
    rw [sM_upM]
    unfold updV
    by_cases hj : j = i.toNat
    · rw [if_pos hj, if_pos ⟨rfl, by omega⟩, hx]
    · rw [if_neg hj, if_neg (fun h => hj (by have := h.2; omega))]
theorem z_iast (hX : G → ZOk X cc own d) (hd : decode cc pc = .ok (.iastore, 1)) {a i v : Int} {O : ZS → Option (Int × ZS)}
    (kk : Zj X G (pc + 1) lv st (upM σ a i v) (O (upM σ a i v))) : Zj X G pc lv ((0, v) :: (0, i) :: (2, a) :: st) σ ((zas σ 100 a i v).bind O) := by
  unfold zas
  by_cases h : sK σ a = 100 ∧ 3 ≤ a ∧ 0 ≤ i ∧ i < sL σ a
  · rw [if_pos h]
    intro u σ' hO hw hl' hs h1 h2
    have hw' : zWT (upM σ a i v) := hw.upM (by rw [h.1, zst_arr (by omega)]; exact hs.hd)
    obtain ⟨q1, q2⟩ := kk u σ' hO hw' hl' hs.tl.tl.tl h1 h2
    refine ⟨q1, fun g hR H locs ls hr hS hls => ?_⟩
    obtain ⟨a0, a1, a2, -, a3⟩ := zarr (by omega) hr hw h.1 h.2.1
    obtain ⟨e1, e2⟩ := z_ix hs.tl.hd h.2.2.1 h.2.2.2
    rw [zvs_c, zvs_c, zvs_c, zV_ref a0]
    have hE := (hX g).2.2.2.2.2.2.1
    refine W.iast (hX g).1 (hX g).2.1 a3 (zA_of (hX g) 0 100 rfl _ _) (fun q => by cases q) (by rw [arrV_size]; exact e2) rfl rfl hd fun H1 g1 g2 g3 => ?_
    rw [e1] at g1
    exact q2 g hR H1 _ ls (zRep.arr (by omega) hE hr hw h.1 h.2.1 h.2.2.1 rfl g1 g2 g3) (hS.put g2 g3 (zE_base hE (by omega))) hls
  · rw [if_neg h]; exact z_none
theorem z_last (hX : G → ZOk X cc own d) (hd : decode cc pc = .ok (.lastore, 1)) {a i v : Int} {O : ZS → Option (Int × ZS)}
    (kk : Zj X G (pc + 1) lv st (upM σ a i v) (O (upM σ a i v))) : Zj X G pc lv ((1, v) :: (0, i) :: (2, a) :: st) σ ((zas σ 101 a i v).bind O) := by
  unfold zas
  by_cases h : sK σ a = 101 ∧ 3 ≤ a ∧ 0 ≤ i ∧ i < sL σ a
  · rw [if_pos h]
    intro u σ' hO hw hl' hs h1 h2
    have hw' : zWT (upM σ a i v) := hw.upM (by rw [h.1, zst_arr (by omega)]; exact hs.hd)
    obtain ⟨q1, q2⟩ := kk u σ' hO hw' hl' hs.tl.tl.tl h1 h2
    refine ⟨q1, fun g hR H locs ls hr hS hls => ?_⟩
    obtain ⟨a0, a1, a2, -, a3⟩ := zarr (by omega) hr hw h.1 h.2.1
    obtain ⟨e1, e2⟩ := z_ix hs.tl.hd h.2.2.1 h.2.2.2
    rw [zvs_c, zvs_c, zvs_c, zV_ref a0]
    have hE := (hX g).2.2.2.2.2.2.1
    refine W.last (hX g).1 (hX g).2.1 a3 (zA_of (hX g) 1 101 rfl _ _) (fun q => by cases q) (by rw [arrV_size]; exact e2) rfl rfl hd fun H1 g1 g2 g3 => ?_
    rw [e1] at g1
    exact q2 g hR H1 _ ls (zRep.arr (by omega) hE hr hw h.1 h.2.1 h.2.2.1 rfl g1 g2 g3) (hS.put g2 g3 (zE_base hE (by omega))) hls
  · rw [if_neg h]; exact z_none
theorem z_alen (hX : G → ZOk X cc own d) (hd : decode cc pc = .ok (.arraylength, 1)) {a : Int} {O : Int → Option (Int × ZS)}
    (kk : ∀ w : Int, Zj X G (pc + 1) lv ((0, w) :: st) σ (O w)) : Zj X G pc lv ((2, a) :: st) σ ((zlen σ 100 a).bind O) := by
  unfold zlen
  by_cases h : sK σ a = 100
  · rw [if_pos h]
    refine z_stk (fun hw _ hs => hs.tl.c0 ?_) (fun g hw _ hs H locs ls _ _ _ hr _ _ w => ?_) (kk (sL σ a))
    · have := hw.2.1 a
      unfold zInR; omega
    · obtain ⟨a0, a1, a2, cell, a3, a4, a5, a6⟩ := zarrR (hX g) 0 (c := 100) rfl (by omega) hr hw h
      have hb := hw.2.1 a
      rw [zvs_c, zV_ref a0]
      refine W.alen (n := Int32.ofInt (sL σ a)) (hX g).1 (hX g).2.1 a3 a4 ?_ rfl rfl hd w
      rw [a6.2.1]
      have e : sL σ a = (((sL σ a).toNat : Nat) : Int) := (Int.toNat_of_nonneg hb.1).symm
      generalize (sL σ a).toNat = n at e ⊢
      rw [e]
      first | exact (Int32.ofInt_eq_ofNat ▸ rfl) | rfl | simp
  · rw [if_neg h]; exact z_none
end ZF
