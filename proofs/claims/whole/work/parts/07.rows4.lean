/-! rows: what is made -/
def mkC (σ : ZS) (k len : Int) (dv : Int → Int) (w : Nat) : ZS := (fun b j => if b = (sN σ : Int) then dv j else sM σ b j, fun b => if b = (sN σ : Int) then k else sK σ b, fun b => if b = (sN σ : Int) then len else sL σ b, sN σ + 1, sT σ + w)
theorem sM_mkC (σ : ZS) (k len : Int) (dv : Int → Int) (w : Nat) (b j : Int) : sM (mkC σ k len dv w) b j = if b = (sN σ : Int) then dv j else sM σ b j := rfl
theorem sK_mkC (σ : ZS) (k len : Int) (dv : Int → Int) (w : Nat) (b : Int) : sK (mkC σ k len dv w) b = if b = (sN σ : Int) then k else sK σ b := rfl
theorem sL_mkC (σ : ZS) (k len : Int) (dv : Int → Int) (w : Nat) (b : Int) : sL (mkC σ k len dv w) b = if b = (sN σ : Int) then len else sL σ b := rfl
theorem sN_mkC (σ : ZS) (k len : Int) (dv : Int → Int) (w : Nat) : sN (mkC σ k len dv w) = sN σ + 1 := rfl
theorem sT_mkC (σ : ZS) (k len : Int) (dv : Int → Int) (w : Nat) : sT (mkC σ k len dv w) = sT σ + w := rfl
/-- an object of kind c with n fields -/
def znew (σ : ZS) (c : Int) (n : Nat) : ZS := mkC σ c 0 (fun j => if zst c j = 2 then -1 else 0) n
/-- an array of kind c -/
def zna (σ : ZS) (c n : Int) : Option ZS := if 0 ≤ n ∧ n ≤ 2000 then some (mkC σ c n (fun _ => if zat c = 2 then -1 else 0) n.toNat) else none
/-- two rows of m ints -/
def zmul (σ : ZS) (m : Int) : ZS := (fun b j => if b = (sN σ : Int) then (if j = 0 then (sN σ : Int) + 1 else if j = 1 then (sN σ : Int) + 2 else -1) else if b = (sN σ : Int) + 1 ∨ b = (sN σ : Int) + 2 then 0 else sM σ b j, fun b => if b = (sN σ : Int) then 102 else if b = (sN σ : Int) + 1 ∨ b = (sN σ : Int) + 2 then 100 else sK σ b, fun b => if b = (sN σ : Int) then 2 else if b = (sN σ : Int) + 1 ∨ b = (sN σ : Int) + 2 then m else sL σ b, sN σ + 3, sT σ + (2 + 2 * m.toNat))
theorem zOk.mono {N M : Nat} (h : N ≤ M) {q : ZV} (hq : zOk N q) : zOk M q := by
  obtain ⟨t, v⟩ := q
  match t, hq with
  | 0, hq => exact hq
  | 1, hq => exact hq
  | 2, hq => exact ⟨hq.1, by have := hq.2; omega⟩
  | t + 3, hq => exact hq
theorem zOkS.mono {N M : Nat} (h : N ≤ M) {st : List ZV} (hs : zOkS N st) : zOkS M st := fun q hq => (hs q hq).mono h
theorem zOkL.mono {N M : Nat} (h : N ≤ M) {lv : List (Nat × ZV)} (hs : zOkL N lv) : zOkL M lv := fun q hq => (hs q hq).mono h
theorem zWT.mk {σ : ZS} (h : zWT σ) {k len : Int} {dv : Int → Int} {w : Nat} (h0 : 0 ≤ len ∧ len < 2147483648) (hd : ∀ i, zOk (sN σ + 1) (zst k i, dv i)) : zWT (mkC σ k len dv w) := by
  refine ⟨fun a hk => ?_, fun a => ?_, fun a i => ?_, ?_⟩
  · rw [sK_mkC] at hk
    rw [sN_mkC]
    by_cases e : a = (sN σ : Int)
    · omega
    · rw [if_neg e] at hk
      have := h.1 a hk
      omega
  · rw [sL_mkC]
    split
    · exact h0
    · exact h.2.1 a
  · rw [sM_mkC, sK_mkC, sN_mkC]
    by_cases e : a = (sN σ : Int)
    · rw [if_pos e, if_pos e]; exact hd i
    · rw [if_neg e, if_neg e]; exact (h.2.2.1 a i).mono (by omega)
  · rw [sN_mkC]; have := h.2.2.2; omega
theorem zCell.lt {E : ZE} {σ : ZS} {b : Nat} {H : Heap} (h : zCell E σ b H) : eR E b < H.size := by
  rcases h with ⟨-, -, cell, h, -⟩ | ⟨-, -, r, -, cell, h, -⟩ <;> exact (Array.getElem?_eq_some_iff.mp h).1
theorem zRep.next {E : ZE} {σ : ZS} {H : Heap} (h : zRep E σ H) (hE : zOkE E) (hw : zWT σ) (k : Nat) : eR E (sN σ + k) = H.size + k := by
  have h0 := hE.1 (sN σ + k - 3)
  have h1 := hw.2.2.2
  rw [show sN σ + k - 3 + 3 = sN σ + k by omega] at h0
  have := h.1
  omega
theorem zRep.mk {E : ZE} {σ : ZS} {H H1 : Heap} (h : zRep E σ H) (hE : zOkE E) (hw : zWT σ) {k len : Int} {dv : Int → Int} {w : Nat} (z : H1.size = H.size + 1) (oq : ∀ q : Nat, q < H.size → H1[q]? = H[q]?) (hc : zCell E (mkC σ k len dv w) (sN σ) H1) : zRep E (mkC σ k len dv w) H1 := by
  refine ⟨by rw [z, sN_mkC]; have := h.1; omega, fun b hb => ?_⟩
  rw [sN_mkC] at hb
  by_cases e : b = sN σ
  · rw [e]; exact hc
  · have hb' : b < sN σ := by omega
    have hne : ¬ ((b : Int) = (sN σ : Int)) := by omega
    have h0 := h.2 b hb'
    exact h0.same (by rw [sK_mkC, if_neg hne]) (by rw [sL_mkC, if_neg hne]) (fun j => by rw [sM_mkC, if_neg hne]) (oq _ h0.lt)
theorem va_S.push {E : ZE} {H0 H H1 : Heap} {locs : List Loc} (h : va_S (zA E) H0 H locs) (z : H.size ≤ H1.size) (oq : ∀ q : Nat, q < H.size → H1[q]? = H[q]?) : va_S (zA E) H0 H1 locs :=
  ⟨Nat.le_trans h.1 z, fun x h1 h2 => (oq x (Nat.lt_of_lt_of_le h1 h.1)).trans (h.2.1 x h1 h2), h.2.2⟩
def zgt : FieldType → Bool
  | .int => true
  | .boolean => true
  | .long => true
  | .object _ => true
  | .array _ => true
  | _ => false
theorem zgt_def {t : FieldType} (h : zgt t = true) (r : Nat → Nat) : defaultValue t = zV r (ztag t, if ztag t = 2 then -1 else 0) := by
  cases t <;> first | rfl | cases h
section ZN
variable {X : ZX} {G : Prop} {cc : ByteArray} {own : String} {d pc : Nat} {lv lv' : List (Nat × ZV)} {st : List ZV} {σ : ZS} {O : Option (Int × ZS)}
theorem z_new (hX : G → ZOk X cc own d) {c : Int} {C : String} {T : u_T} {N : Nat} (hc : zCls c C T N) (hg : ∀ k, k < N → zgt (zoty c k) = true) {idx : Nat} (hl : Cond.classLink own idx C ∈ zT) (hin : Cond.instantiable C N ∈ zT) (hini : Cond.initialized C ∈ zT) (hd : decode cc pc = .ok (.new idx, 3))
    (kk : Zj X G (pc + 3) lv ((2, (sN σ : Int)) :: st) (znew σ c N) O) : Zj X G pc lv st σ O := by
  intro u σ' hO hw hl' hs h1 h2
  obtain ⟨c0, c1, c2, c3, c4, c5⟩ := hc
  have hw' : zWT (znew σ c N) := hw.mk ⟨by omega, by omega⟩ (fun i => by
    by_cases e : zst c i = 2
    · rw [if_pos e, e]; exact ⟨by omega, by omega⟩
    · rw [if_neg e]
      generalize zst c i = t at e ⊢
      match t, e with
      | 0, _ => exact ⟨by omega, by omega⟩
      | 1, _ => exact ⟨by omega, by omega⟩
      | t + 3, _ => exact Int.le_refl 0)
  obtain ⟨⟨q1, q3, q4, q5⟩, q2⟩ := kk u σ' hO hw' (hl'.mono (Nat.le_succ _)) ((hs.mono (Nat.le_succ _)).c2 ⟨by omega, by show _ < ((sN σ + 1 : Nat) : Int); omega⟩) (by show _ ≤ sN σ + 1; omega) (by show _ ≤ sT σ + N; omega)
  change sN σ + 1 ≤ _ at q3
  change sT σ + N ≤ _ at q4
  refine ⟨⟨q1, by omega, by omega, q5⟩, fun g hR H locs ls hr hS hls => ?_⟩
  have hts := (hX g).2.2.2.2.1
  have hE := (hX g).2.2.2.2.2.2.1
  have hKK := (hX g).2.2.2.2.2.1
  have hKn := hKK.1 c.toNat _ c2
  refine W.newcK (hX g).1 (hX g).2.1 (hX g).2.2.2.1 (hts _ hl) (hts _ hin) (hts _ hini) rfl hd (by omega) (by omega) hKn.2.1 rfl fun H1 kC hkC e1 z1 o1 => ?_
  have hnx := hr.next hE hw 0
  simp only [Nat.add_zero] at hnx
  have hr' : zRep (xE X) (znew σ c N) H1 := hr.mk hE hw z1 o1 (Or.inr ⟨by rw [sK_mkC, if_pos rfl]; exact c0, by rw [sK_mkC, if_pos rfl]; exact c1, (C, T, N), by rw [sK_mkC, if_pos rfl]; exact c2, by
    rw [sK_mkC, if_pos rfl, hnx]
    refine (u_born (fun j => zoty c j) hts c3 hKn hkC e1 c4).to (fun k hk => ?_)
    rw [sM_mkC, if_pos rfl, zst_obj c0 c1]
    exact zgt_def (hg k hk) _⟩)
  have := q2 g hR H1 locs ls hr' (hS.push (by omega) o1) hls
  have e3 : sN (znew σ c N) - sN (x0 X) = sN σ - sN (x0 X) + 1 := by show sN σ + 1 - _ = _; omega
  have e4 : sT (znew σ c N) - sT (x0 X) = sT σ - sT (x0 X) + N := by show sT σ + N - _ = _; omega
  rw [e3, e4] at this
  have e5 : zvs (eR (xE X)) ((2, (sN σ : Int)) :: st) = .ref H.size :: zvs (eR (xE X)) st := by
    rw [zvs_c, zV_ref (by omega), Int.toNat_natCast, hnx]
  rw [e5] at this
  exact this
theorem zna_wt {c n : Int} (hw : zWT σ) (hc : 100 ≤ c) (hn : 0 ≤ n ∧ n ≤ 2000) (w : Nat) : zWT (mkC σ c n (fun _ => if zat c = 2 then -1 else 0) w) := by
  refine hw.mk ⟨by omega, by omega⟩ (fun i => ?_)
  rw [zst_arr hc]
  unfold zat
  by_cases h1 : c = 100
  · rw [if_pos h1]; exact ⟨by decide, by decide⟩
  · rw [if_neg h1]
    by_cases h2 : c = 101
    · rw [if_pos h2]; exact ⟨by decide, by decide⟩
    · rw [if_neg h2]; exact ⟨by decide, by simp; omega⟩
theorem zna_go (hX : G → ZOk X cc own d) {c n : Int} (hc : 100 ≤ c) (hc5 : c ≤ 105) (hn : 0 ≤ n ∧ n ≤ 2000) {pc' : Nat} {q : ZV} (hq : q = (0, n))
    (hW : G → ∀ (H : Heap) (locs : List Loc) (ls : Array Slot) (cells slots : Nat) (Q : State → Prop), cells + 1 ≤ (xR X).cells → slots + n.toNat ≤ (xR X).slots → (∀ H1 : Heap, H1.size = H.size + 1 → (∀ q : Nat, q < H.size → H1[q]? = H[q]?) → H1[H.size]? = some (arrV (eC (xE X) c) n.toNat (fun _ => zV (eR (xE X)) (zat c, if zat c = 2 then -1 else 0))) → WX X H1 locs (cells + 1) (slots + n.toNat) Q pc' ls (.ref H.size :: zvs (eR (xE X)) st)) → WX X H locs cells slots Q pc ls (zvs (eR (xE X)) (q :: st)))
    (kk : Zj X G pc' lv ((2, (sN σ : Int)) :: st) (mkC σ c n (fun _ => if zat c = 2 then -1 else 0) n.toNat) O) : Zj X G pc lv (q :: st) σ O := by
  intro u σ' hO hw hl' hs h1 h2
  have hw' := zna_wt hw hc hn n.toNat
  obtain ⟨⟨q1, q3, q4, q5⟩, q2⟩ := kk u σ' hO hw' (hl'.mono (Nat.le_succ _)) ((hs.tl.mono (Nat.le_succ _)).c2 ⟨by omega, by show _ < ((sN σ + 1 : Nat) : Int); omega⟩) (by rw [sN_mkC]; omega) (by rw [sT_mkC]; omega)
  rw [sN_mkC] at q3
  rw [sT_mkC] at q4
  refine ⟨⟨q1, by omega, by omega, q5⟩, fun g hR H locs ls hr hS hls => ?_⟩
  have hE := (hX g).2.2.2.2.2.2.1
  refine hW g H locs ls _ _ _ (by omega) (by omega) fun H1 z1 o1 e1 => ?_
  have hnx := hr.next hE hw 0
  simp only [Nat.add_zero] at hnx
  have hr' : zRep (xE X) (mkC σ c n (fun _ => if zat c = 2 then -1 else 0) n.toNat) H1 := hr.mk hE hw z1 o1 (Or.inl ⟨by rw [sK_mkC, if_pos rfl]; exact hc, by rw [sK_mkC, if_pos rfl]; exact hc5, by
    refine zcell_mk hw.2.2.2 ?_
    rw [hnx, e1, sK_mkC, if_pos rfl, sL_mkC, if_pos rfl]
    congr 2
    funext j
    rw [sM_mkC, if_pos rfl]⟩)
  have := q2 g hR H1 locs ls hr' (hS.push (by omega) o1) hls
  rw [sN_mkC, sT_mkC] at this
  have e3 : sN σ + 1 - sN (x0 X) = sN σ - sN (x0 X) + 1 := by omega
  have e4 : sT σ + n.toNat - sT (x0 X) = sT σ - sT (x0 X) + n.toNat := by omega
  rw [e3, e4] at this
  have e5 : zvs (eR (xE X)) ((2, (sN σ : Int)) :: st) = .ref H.size :: zvs (eR (xE X)) st := by
    rw [zvs_c, zV_ref (by omega), Int.toNat_natCast, hnx]
  rw [e5] at this
  exact this
theorem z_len {n : Int} (hn : 0 ≤ n ∧ n ≤ 2000) : ¬ Int32.ofInt n < 0 ∧ (Int32.ofInt n).toNatClampNeg = n.toNat := by
  have hi : zInR n := ⟨by omega, by omega⟩
  refine ⟨fun h => ?_, by show (Int32.ofInt n).toInt.toNat = _; rw [z_toInt hi]⟩
  have := (z_lt (b := 0) hi ⟨by decide, by decide⟩).mp h
  omega
theorem zRA_of (hX : ZOk X cc own d) (t : Nat) (k : Int) (h : (zTys (xE X))[t]? = some (eC (xE X) k, zaty k)) : va_RA (xs X) (eC (xE X) k) (zaty k) := (hX.2.2.2.2.2.1.2 t _ h).2
theorem z_newI (hX : G → ZOk X cc own d) (hd : decode cc pc = .ok (.newarray .int, 2)) (hw : Cond.arrayClass .int ∈ zT) {n : Int} {O : ZS → Option (Int × ZS)}
    (kk : 0 ≤ n ∧ n ≤ 2000 → Zj X G (pc + 2) lv ((2, (sN σ : Int)) :: st) (mkC σ 100 n (fun _ => 0) n.toNat) (O (mkC σ 100 n (fun _ => 0) n.toNat))) : Zj X G pc lv ((0, n) :: st) σ ((zna σ 100 n).bind O) := by
  unfold zna
  by_cases h : 0 ≤ n ∧ n ≤ 2000
  · rw [if_pos h]
    refine zna_go hX (by omega) (by omega) h rfl (fun g H locs ls cells slots Q r1 r2 w => ?_) (kk h)
    obtain ⟨l1, l2⟩ := z_len h
    refine va_newaK (hX g).1 (hX g).2.1 (atype := .int) ((hX g).2.2.2.2.1 _ hw) rfl hd rfl l1 l2 (by show n.toNat * 4 ≤ _; omega) r1 r2 rfl fun H1 cA e1 z1 o1 _ hNm => w H1 z1 o1 ?_
    have hcA : cA = eC (xE X) 100 := Option.some.inj (hNm.symm.trans (zRA_of (hX g) 0 100 rfl))
    rw [e1, hcA]
    rfl
  · rw [if_neg h]; exact z_none
theorem z_newL (hX : G → ZOk X cc own d) (hd : decode cc pc = .ok (.newarray .long, 2)) (hw : Cond.arrayClass .long ∈ zT) {n : Int} {O : ZS → Option (Int × ZS)}
    (kk : 0 ≤ n ∧ n ≤ 2000 → Zj X G (pc + 2) lv ((2, (sN σ : Int)) :: st) (mkC σ 101 n (fun _ => 0) n.toNat) (O (mkC σ 101 n (fun _ => 0) n.toNat))) : Zj X G pc lv ((0, n) :: st) σ ((zna σ 101 n).bind O) := by
  unfold zna
  by_cases h : 0 ≤ n ∧ n ≤ 2000
  · rw [if_pos h]
    refine zna_go hX (by omega) (by omega) h rfl (fun g H locs ls cells slots Q r1 r2 w => ?_) (kk h)
    obtain ⟨l1, l2⟩ := z_len h
    refine va_newaK (hX g).1 (hX g).2.1 (atype := .long) ((hX g).2.2.2.2.1 _ hw) rfl hd rfl l1 l2 (by show n.toNat * 8 ≤ _; omega) r1 r2 rfl fun H1 cA e1 z1 o1 _ hNm => w H1 z1 o1 ?_
    have hcA : cA = eC (xE X) 101 := Option.some.inj (hNm.symm.trans (zRA_of (hX g) 1 101 rfl))
    rw [e1, hcA]
    rfl
  · rw [if_neg h]; exact z_none
theorem z_newA (hX : G → ZOk X cc own d) (t : Nat) (c : Int) {C : String} (hc : 103 ≤ c) (hc5 : c ≤ 105) (ht : (zTys (xE X))[t]? = some (eC (xE X) c, zaty c)) (hz : zaty c = .object C) {idx : Nat} (hd : decode cc pc = .ok (.anewarray idx, 3)) (hl : Cond.classLink own idx C ∈ zT) (hover : G → va_AO C (xs X)) {n : Int} {O : ZS → Option (Int × ZS)}
    (kk : 0 ≤ n ∧ n ≤ 2000 → Zj X G (pc + 3) lv ((2, (sN σ : Int)) :: st) (mkC σ c n (fun _ => -1) n.toNat) (O (mkC σ c n (fun _ => -1) n.toNat))) : Zj X G pc lv ((0, n) :: st) σ ((zna σ c n).bind O) := by
  have hz2 : zat c = 2 := by unfold zat; rw [if_neg (by omega), if_neg (by omega)]
  unfold zna
  by_cases h : 0 ≤ n ∧ n ≤ 2000
  · rw [if_pos h]
    have e0 : mkC σ c n (fun _ => if zat c = 2 then -1 else 0) n.toNat = mkC σ c n (fun _ => -1) n.toNat := by rw [hz2]; rfl
    rw [e0]
    have kk' := kk h
    rw [← e0] at kk' ⊢
    refine zna_go hX (by omega) (by omega) h rfl (fun g H locs ls cells slots Q r1 r2 w => ?_) kk'
    obtain ⟨l1, l2⟩ := z_len h
    refine W.anew (hX g).1 (hX g).2.1 (hX g).2.2.2.1 ((hX g).2.2.2.2.1 _ hl) (va_AO.use (hover g)) rfl hd rfl l1 (by rw [l2]; omega) r1 (by rw [l2]; exact r2) fun cA kA comp f1 f2 f3 f4 => ?_
    have hRA := zRA_of (hX g) t c ht
    rw [hz] at hRA
    obtain ⟨kA', comp', g1, g2, g3, g4⟩ := hRA
    have hcA : cA = eC (xE X) c := Option.some.inj (f1.symm.trans g4)
    rw [l2, hcA]
    refine w _ ?_ ?_ ?_
    · rw [Array.size_push]
    · intro q hq
      rw [Array.getElem?_push, if_neg (Nat.ne_of_lt hq)]
    · rw [Array.getElem?_push_size, arrV_new, hz2]; rfl
  · rw [if_neg h]; exact z_none
end ZN
