/-! rows: two rows at once, copies, references stored, statics, texts, instanceof -/
section ZM
variable {X : ZX} {G : Prop} {cc : ByteArray} {own : String} {d pc : Nat} {lv lv' : List (Nat × ZV)} {st : List ZV} {σ : ZS} {O : Option (Int × ZS)}
theorem sM_zmul (σ : ZS) (m b j : Int) : sM (zmul σ m) b j = if b = (sN σ : Int) then (if j = 0 then (sN σ : Int) + 1 else if j = 1 then (sN σ : Int) + 2 else -1) else if b = (sN σ : Int) + 1 ∨ b = (sN σ : Int) + 2 then 0 else sM σ b j := rfl
theorem sK_zmul (σ : ZS) (m b : Int) : sK (zmul σ m) b = if b = (sN σ : Int) then 102 else if b = (sN σ : Int) + 1 ∨ b = (sN σ : Int) + 2 then 100 else sK σ b := rfl
theorem sL_zmul (σ : ZS) (m b : Int) : sL (zmul σ m) b = if b = (sN σ : Int) then 2 else if b = (sN σ : Int) + 1 ∨ b = (sN σ : Int) + 2 then m else sL σ b := rfl
theorem sN_zmul (σ : ZS) (m : Int) : sN (zmul σ m) = sN σ + 3 := rfl
theorem sT_zmul (σ : ZS) (m : Int) : sT (zmul σ m) = sT σ + (2 + 2 * m.toNat) := rfl
theorem zmul_wt {m : Int} (h : zWT σ) (hm : 0 ≤ m ∧ m ≤ 2000) : zWT (zmul σ m) := by
  refine ⟨fun a hk => ?_, fun a => ?_, fun a i => ?_, ?_⟩
  · rw [sN_zmul]
    by_cases e : a = (sN σ : Int)
    · omega
    · by_cases e2 : a = (sN σ : Int) + 1 ∨ a = (sN σ : Int) + 2
      · omega
      · rw [sK_zmul, if_neg e, if_neg e2] at hk
        have := h.1 a hk
        omega
  · rw [sL_zmul]
    split
    · omega
    · split
      · omega
      · exact h.2.1 a
  · rw [sM_zmul, sK_zmul, sN_zmul]
    by_cases e : a = (sN σ : Int)
    · rw [if_pos e, if_pos e, zst_arr (by omega)]
      show -1 ≤ (if i = 0 then _ else _) ∧ (if i = 0 then _ else _) < _
      split
      · omega
      · split <;> omega
    · rw [if_neg e, if_neg e]
      by_cases e2 : a = (sN σ : Int) + 1 ∨ a = (sN σ : Int) + 2
      · rw [if_pos e2, if_pos e2, zst_arr (by omega)]
        exact ⟨by decide, by decide⟩
      · rw [if_neg e2, if_neg e2]
        exact (h.2.2.1 a i).mono (by omega)
  · rw [sN_zmul]; have := h.2.2.2; omega
theorem z_multi (hX : G → ZOk X cc own d) {idx : Nat} (hd : decode cc pc = .ok (.multianewarray idx 2, 4)) (hl : Cond.classLink own idx "[[I" ∈ zT) (hw : Cond.arrayClass .int ∈ zT) {m : Int} (hm : 0 ≤ m ∧ m ≤ 2000)
    (kk : Zj X G (pc + 4) lv ((2, (sN σ : Int)) :: st) (zmul σ m) O) : Zj X G pc lv ((0, m) :: (0, 2) :: st) σ O := by
  intro u σ' hO hwt hl' hs h1 h2
  have hw' := zmul_wt hwt hm
  obtain ⟨⟨q1, q3, q4, q5⟩, q2⟩ := kk u σ' hO hw' (hl'.mono (by rw [sN_zmul]; omega)) ((hs.tl.tl.mono (by rw [sN_zmul]; omega)).c2 ⟨by omega, by rw [sN_zmul]; omega⟩) (by rw [sN_zmul]; omega) (by rw [sT_zmul]; omega)
  rw [sN_zmul] at q3
  rw [sT_zmul] at q4
  refine ⟨⟨q1, by omega, by omega, q5⟩, fun g hR H locs ls hr hS hls => ?_⟩
  have hE := (hX g).2.2.2.2.2.2.1
  have hts := (hX g).2.2.2.2.1
  obtain ⟨l1, l2⟩ := z_len hm
  obtain ⟨k1, k2⟩ := z_len (n := 2) ⟨by decide, by decide⟩
  have k3 : (Int32.ofInt 2).toNatClampNeg = 2 := k2
  intro T hT Xs
  obtain ⟨vm₁, cA, comp, -, fA, fC, -, -, X', step⟩ := Stand.multianewarray2F Xs (ty := .int) (hX g).1 (hX g).2.2.2.1 (hts _ hl) ((hX g).2.2.2.2.2.2.2.2.2.2.2.1.1) (hts _ hw) (g := F0 (xm X) pc ls (zvs (eR (xE X)) ((0, m) :: (0, 2) :: st))) rfl (by rw [(hX g).2.1]; exact hd) rfl k1 l1 (by rw [k3]; decide) (by rw [l2]; show m.toNat * 4 ≤ _; omega) (by rw [l2]; omega) rfl rfl (by rw [k3]; omega) (by rw [k3, l2]; omega)
  rw [k3, l2] at X' step
  have hcI : comp = eC (xE X) 100 := Option.some.inj (fC.symm.trans (zRA_of (hX g) 0 100 rfl))
  have hcA : cA = eC (xE X) 102 := Option.some.inj (fA.symm.trans (zRA_of (hX g) 2 102 rfl))
  have hTh : (T.setVm vm₁).heap = H := hT
  obtain ⟨f1, f2, -, -⟩ := Jvm.Free.Multi.fill_facts (T.setVm vm₁) cA comp 2 m.toNat (defaultValue .int) 2
  have f3 := fun (x : Nat) (hx : x < H.size) => Jvm.Free.Multi.fill_old (T.setVm vm₁) cA comp 2 m.toNat (defaultValue .int) (a := x) (by rw [hTh]; exact hx) 2
  have f4 := Jvm.Free.Multi.fill_inner (T.setVm vm₁) cA comp 2 m.toNat (defaultValue .int) 2
  generalize hF : Jvm.Free.Multi.fill (T.setVm vm₁) cA comp 2 m.toNat (defaultValue .int) 2 = F at X' step f1 f2 f3 f4
  rw [hTh] at f1 f2 f4
  have f3' : ∀ x : Nat, x < H.size → F.heap[x]? = H[x]? := fun x hx => by rw [f3 x hx, hTh]
  have n0 := hr.next hE hwt 0
  have n1 := hr.next hE hwt 1
  have n2 := hr.next hE hwt 2
  simp only [Nat.add_zero] at n0
  have hin : ∀ j : Nat, j < 2 → F.heap[H.size + 1 + j]? = some (arrV (eC (xE X) 100) m.toNat (fun _ => zV (eR (xE X)) (0, 0))) := fun j hj => by
    rw [f4 j hj, hcI]
    show some ({ cls := _, slots := Array.replicate m.toNat (defaultValue .int), vm := .none } : Cell) = _
    rw [arrV_new]; rfl
  have hr' : zRep (xE X) (zmul σ m) F.heap := by
    refine ⟨by rw [f1, sN_zmul]; have := hr.1; omega, fun b hb => ?_⟩
    rw [sN_zmul] at hb
    by_cases e : b = sN σ
    · subst e
      refine Or.inl ⟨by rw [sK_zmul, if_pos rfl]; decide, by rw [sK_zmul, if_pos rfl]; decide, ?_⟩
      refine zcell_mk hwt.2.2.2 ?_
      rw [n0, f2, hcA, sK_zmul, if_pos rfl, sL_zmul, if_pos rfl]
      congr 1
      show Jvm.Free.Multi.outerC (eC (xE X) 102) 2 H.size 2 = arrV (eC (xE X) 102) 2 _
      unfold arrV
      show ({ cls := _, slots := _, vm := _ } : Cell) = _
      simp only [Jvm.Free.Multi.outerC, Cell.setSlot]
      congr 1
      apply Array.ext
      · simp
      · intro i hi1 hi2
        have hi : i < 2 := by simpa using hi1
        have z1 : zV (eR (xE X)) (2, (sN σ : Int) + 1) = .ref (H.size + 1) := by
          rw [zV_ref (by omega)]
          have : ((sN σ : Int) + 1).toNat = sN σ + 1 := by omega
          rw [this, n1]
        have z2 : zV (eR (xE X)) (2, (sN σ : Int) + 2) = .ref (H.size + 1 + 1) := by
          rw [zV_ref (by omega)]
          have : ((sN σ : Int) + 2).toNat = sN σ + 2 := by omega
          rw [this, n2]
        have hz : zat 102 = 2 := rfl
        rcases (by omega : i = 0 ∨ i = 1) with rfl | rfl
        · simp [sM_zmul, hz, z1]
        · simp [sM_zmul, hz, z2]
    · by_cases e2 : b = sN σ + 1 ∨ b = sN σ + 2
      · have hne : ¬ ((b : Int) = (sN σ : Int)) := by omega
        have hyes : (b : Int) = (sN σ : Int) + 1 ∨ (b : Int) = (sN σ : Int) + 2 := by omega
        refine Or.inl ⟨by rw [sK_zmul, if_neg hne, if_pos hyes]; decide, by rw [sK_zmul, if_neg hne, if_pos hyes]; decide, ?_⟩
        refine zcell_mk (by have := hwt.2.2.2; omega) ?_
        rw [sK_zmul, if_neg hne, if_pos hyes, sL_zmul, if_neg hne, if_pos hyes]
        have e3 : F.heap[eR (xE X) b]? = some (arrV (eC (xE X) 100) m.toNat (fun _ => zV (eR (xE X)) (0, 0))) := by
          rcases e2 with e2 | e2
          · rw [e2, n1]; exact hin 0 (by omega)
          · rw [e2, n2]; exact hin 1 (by omega)
        rw [e3]
        congr 2
        funext j
        rw [sM_zmul, if_neg hne, if_pos hyes]; rfl
      · have hne : ¬ ((b : Int) = (sN σ : Int)) := by omega
        have hno : ¬ ((b : Int) = (sN σ : Int) + 1 ∨ (b : Int) = (sN σ : Int) + 2) := by omega
        have h0 := hr.2 b (by omega)
        exact h0.same (by rw [sK_zmul, if_neg hne, if_neg hno]) (by rw [sL_zmul, if_neg hne, if_neg hno]) (fun j => by rw [sM_zmul, if_neg hne, if_neg hno]) (f3' _ h0.lt)
  have w := q2 g hR F.heap locs ls hr' (hS.push (by omega) f3') hls
  have e3 : sN (zmul σ m) - sN (x0 X) = sN σ - sN (x0 X) + 1 + 2 := by rw [sN_zmul]; omega
  have e4 : sT (zmul σ m) - sT (x0 X) = sT σ - sT (x0 X) + 2 + 2 * m.toNat := by rw [sT_zmul]; omega
  rw [e3, e4] at w
  have e5 : zvs (eR (xE X)) ((2, (sN σ : Int)) :: st) = .ref T.heap.size :: zvs (eR (xE X)) st := by
    rw [zvs_c, zV_ref (by omega), Int.toNat_natCast, n0, hT]
  rw [e5] at w
  obtain ⟨t, a1, b1⟩ := w F rfl X'
  exact ⟨t, step t a1, b1⟩
/-- System.arraycopy of ints -/
theorem z_acopy (hX : G → ZOk X cc own d) (hd1 : 1 ≤ d) {idx : Nat} (hd : decode cc pc = .ok (.invokestatic idx, 3)) (hl : Cond.methodLink own idx arraycopyName ∈ zT) (hnat : Cond.native arraycopyName ∈ zT) (hstat : Cond.static arraycopyName ∈ zT) (hini : Cond.initialized "java/lang/System" ∈ zT) (hst : (st.map fun q => if q.1 = 1 then 2 else 1).sum ≤ 8) {a i b j n : Int} {O : ZS → Option (Int × ZS)}
    (kk : ∀ τ : ZS, Zj X G (pc + 3) lv st τ (O τ)) : Zj X G pc lv ((0, n) :: (0, j) :: (2, b) :: (0, i) :: (2, a) :: st) σ ((zcp σ a i b j n).bind O) := by
  unfold zcp
  by_cases h : sK σ a = 100 ∧ sK σ b = 100 ∧ 3 ≤ b ∧ 0 ≤ i ∧ 0 ≤ j ∧ 0 ≤ n ∧ i + n ≤ sL σ a ∧ j + n ≤ sL σ b
  · rw [if_pos h]
    obtain ⟨ka, kb, b3, i0, j0, n0, la, lb⟩ := h
    intro u σ' hO hw hl' hs h1 h2
    have hw' : zWT (upR σ b (fun k => if j ≤ k ∧ k < j + n then sM σ a (i + (k - j)) else sM σ b k)) := hw.upR (fun k => by
      have q1 := hw.2.2.1 a (i + (k - j))
      have q2 := hw.2.2.1 b k
      rw [ka, zst_arr (by omega)] at q1
      rw [kb, zst_arr (by omega)] at q2
      rw [kb, zst_arr (by omega)]
      split
      · exact q1
      · exact q2)
    obtain ⟨q1, q2⟩ := kk _ u σ' hO hw' hl' hs.tl.tl.tl.tl.tl h1 h2
    refine ⟨q1, fun g hR H locs ls hr hS hls => ?_⟩
    have hE := (hX g).2.2.2.2.2.2.1
    have hts := (hX g).2.2.2.2.1
    obtain ⟨a0, a1, a2, cs, a3, as4, as5, as6⟩ := zarrR (hX g) 0 (c := 100) rfl (by omega) hr hw ka
    obtain ⟨b0, b1, b2, -, b4⟩ := zarr (by omega) hr hw kb b3
    have hn : zInR n := hs.hd
    have hj : zInR j := hs.tl.hd
    have hi : zInR i := hs.tl.tl.tl.hd
    have toN : ∀ {x : Int}, zInR x → 0 ≤ x → ¬ Int32.ofInt x < 0 ∧ (Int32.ofInt x).toNatClampNeg = x.toNat := fun {x} hx h0 => ⟨fun q => by have := (z_lt (b := 0) hx ⟨by decide, by decide⟩).mp q; omega, by show (Int32.ofInt x).toInt.toNat = _; rw [z_toInt hx]⟩
    obtain ⟨n1, n2⟩ := toN hn n0
    obtain ⟨j1, j2⟩ := toN hj j0
    obtain ⟨i1, i2⟩ := toN hi i0
    rw [zvs_c, zvs_c, zvs_c, zvs_c, zvs_c, zV_ref a0, zV_ref b0]
    have hcat : ((zvs (eR (xE X)) st).map fun v => v.category).sum ≤ 8 := by
      unfold zvs
      rw [List.map_map]
      have : (fun v => v.category) ∘ zV (eR (xE X)) = fun q => if q.1 = 1 then 2 else 1 := funext fun q => zV_cat _ q
      rw [this]; exact hst
    have hfr := (hX g).2.2.2.2.2.2.2.2.2.1
    have hlo := (hX g).2.2.2.2.2.2.2.2.2.2.1
    have hcs : ∀ k : Nat, k < (sL σ a).toNat → cs.slots[k]? = some (.int (Int32.ofInt (sM σ a k))) := fun k hk => as6.2.2 k hk
    have c1 : H[eR (xE X) b.toNat]? = some (vp_cell (eC (xE X) 100) ((sL σ b).toNat, .inl (fun k => Int32.ofInt (sM σ b k)))) := b4
    intro T hT Xs
    obtain ⟨as7, k0, hk0, cm0, hkk0⟩ := as4
    obtain ⟨-, k1, hk1, cm1, hkk1⟩ := zA_of (hX g) 0 100 rfl (sL σ b).toNat (fun k => .int (Int32.ofInt (sM σ b k)))
    have nn : ∀ z : Int, zInR z → (Int32.ofInt z).toInt = z := fun z hz => z_toInt hz
    obtain ⟨vm', X', step⟩ := Xs.arraycopy (hX g).1 (hX g).2.2.2.1 (hts _ hl) (hts _ hnat) (hts _ hstat) (hts _ hini) (src := eR (xE X) a.toNat) (dst := eR (xE X) b.toNat) (cs := cs) (cd := vp_cell (eC (xE X) 100) ((sL σ b).toNat, .inl (fun k => Int32.ofInt (sM σ b k)))) (srcPos := Int32.ofInt i) (destPos := Int32.ofInt j) (n := Int32.ofInt n) (by rw [hT]; exact a3) (by rw [hT]; exact c1)
      as7 (fun _ h => by cases h) as5 (fun h => by cases h) hk0 hk1 hkk0 hkk1 (by simp [refKind, zaty]) i1 j1 n1
      (by rw [nn i hi, nn n hn]; have := as6.1; omega)
      (by rw [nn j hj, nn n hn]; show ¬ _ > ((arrV _ _ (fun k : Nat => .int (Int32.ofInt (sM σ b k)))).slots.size : Int); rw [arrV_size]; omega)
      (fun vm₁ _ k hk => by
        have e : cs.slots.getD ((Int32.ofInt i).toNatClampNeg + k) .null = .int (Int32.ofInt (sM σ a (((Int32.ofInt i).toNatClampNeg + k : Nat) : Int))) := by
          rw [Array.getD_eq_getD_getElem?, hcs _ (by omega)]
          rfl
        refine ⟨?_, ?_⟩
        · rw [e]; rfl
        · rw [e]; exact trivial)
      (g := F0 (xm X) pc ls (.int (Int32.ofInt n) :: .int (Int32.ofInt j) :: .ref (eR (xE X) b.toNat) :: .int (Int32.ofInt i) :: .ref (eR (xE X) a.toNat) :: zvs (eR (xE X)) st)) rfl (by rw [(hX g).2.2.1]; exact hls.1) (rest := zvs (eR (xE X)) st) rfl (by rw [(hX g).2.1]; exact hd) (by omega) (by
        have e9 : nativeFrameWords "java/lang/System" "arraycopy" 5 + 11 ≤ 80 := by decide +kernel
        show 2 * 0 + _ + _ ≤ _; omega)
    have e1 : copied cs (vp_cell (eC (xE X) 100) ((sL σ b).toNat, .inl (fun k => Int32.ofInt (sM σ b k)))) (Int32.ofInt i) (Int32.ofInt j) (Int32.ofInt n) = vp_cell (eC (xE X) 100) ((sL σ b).toNat, .inl (va_cpy (fun k => Int32.ofInt (sM σ a k)) (fun k => Int32.ofInt (sM σ b k)) (Int32.ofInt i).toNatClampNeg (Int32.ofInt j).toNatClampNeg (Int32.ofInt n).toNatClampNeg)) := va_copiedX (fun z => .int z) cs (eC (xE X) 100) (fun k : Nat => Int32.ofInt (sM σ a k)) (fun k : Nat => Int32.ofInt (sM σ b k)) hcs (n0 := (sL σ a).toNat) (n1 := (sL σ b).toNat) (by rw [i2, n2]; omega)
    rw [e1] at X' step
    generalize hcell : vp_cell (eC (xE X) 100) ((sL σ b).toNat, .inl (va_cpy (fun k => Int32.ofInt (sM σ a k)) (fun k => Int32.ofInt (sM σ b k)) (Int32.ofInt i).toNatClampNeg (Int32.ofInt j).toNatClampNeg (Int32.ofInt n).toNatClampNeg)) = cell at X' step
    have hl1 : eR (xE X) b.toNat < H.size := (Array.getElem?_eq_some_iff.mp c1).1
    have hheap : ((T.setVm vm').setCell (eR (xE X) b.toNat) cell).heap = H.setIfInBounds (eR (xE X) b.toNat) cell := by rw [← hT]; rfl
    have oq : ∀ q : Nat, q ≠ eR (xE X) b.toNat → (H.setIfInBounds (eR (xE X) b.toNat) cell)[q]? = H[q]? := fun q hq => by simp [Array.getElem?_setIfInBounds, Ne.symm hq]
    have zz : (H.setIfInBounds (eR (xE X) b.toNat) cell).size = H.size := by simp
    have hme : (H.setIfInBounds (eR (xE X) b.toNat) cell)[eR (xE X) b.toNat]? = some cell := by simp [Array.getElem?_setIfInBounds, hl1]
    have hr' : zRep (xE X) (upR σ b (fun k => if j ≤ k ∧ k < j + n then sM σ a (i + (k - j)) else sM σ b k)) (H.setIfInBounds (eR (xE X) b.toNat) cell) := by
      refine hr.put hE (a := b.toNat) (by omega) rfl (fun _ => rfl) (fun _ => rfl) (fun c hc k => ?_) zz oq (Or.inl ⟨?_, ?_, ?_⟩)
      · rw [b1] at hc
        rw [sM_upR, if_neg hc]
      · rw [sK_upR, b1, kb]; omega
      · rw [sK_upR, b1, kb]; omega
      · refine zcell_mk (by omega) ?_
        rw [hme, sK_upR, sL_upR, b1, kb, ← hcell, vp_cell_i]
        congr 2
        funext k
        rw [sM_upR, if_pos rfl, i2, j2, n2]
        show Value.int _ = Value.int _
        congr 1
        unfold va_cpy
        by_cases hk : j.toNat ≤ k ∧ k < j.toNat + n.toNat
        · rw [if_pos hk, if_pos (by omega), show i + ((k : Int) - j) = ((i.toNat + (k - j.toNat) : Nat) : Int) by omega]
        · rw [if_neg hk, if_neg (by omega)]
    have w := fun (L : List Loc) (hL : ∀ q ∈ L, eB (xE X) ≤ q.base) => q2 g hR (H.setIfInBounds (eR (xE X) b.toNat) cell) (locs ++ L) ls hr' ⟨by rw [zz]; exact hS.1, fun q g1 g2 => by
        rw [oq q (fun e => g2 (by rw [e]; exact zE_base hE (by omega)))]
        exact hS.2.1 q g1 g2, fun q hq => by
        rcases List.mem_append.mp hq with h | h
        · exact hS.2.2 q h
        · exact hL q h⟩ hls
    obtain ⟨t, g1, g2⟩ := w _ (fun q hq => by
      obtain ⟨z, -, hz⟩ := List.mem_map.mp hq
      rw [← hz]
      exact zE_base hE (by omega)) _ hheap X'
    exact ⟨t, step t g1, g2⟩
  · rw [if_neg h]; exact z_none
end ZM
