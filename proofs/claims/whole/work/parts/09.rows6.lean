/-! rows: references into rows, statics, texts, instanceof -/
section ZI
variable {X : ZX} {G : Prop} {cc : ByteArray} {own : String} {d pc : Nat} {lv lv' : List (Nat × ZV)} {st : List ZV} {σ : ZS} {O : Option (Int × ZS)}
/-- storing a reference to an object of kind k into a row of kind c -/
def zar (σ : ZS) (c a i : Int) (ok : Int → Bool) (v : Int) : Option ZS := if sK σ a = c ∧ 3 ≤ a ∧ 0 ≤ i ∧ i < sL σ a ∧ ok (sK σ v) = true then some (upM σ a i v) else none
theorem zNe {hX : ZOk X cc own d} : zK2 (xE X) (xs X) := hX.2.2.2.2.2.2.2.2.2.2.2
theorem z_aast (hX : G → ZOk X cc own d) (t : Nat) (c : Int) (CN : String) (hc : 103 ≤ c) (ht : (zTys (xE X))[t]? = some (eC (xE X) c, zaty c)) (hz : zaty c = .object CN) (ok : Int → Bool)
    (hok : ∀ k : Int, ok k = true → ∃ (C : String) (T : u_T) (N : Nat), zCls k C T N ∧ (C = CN ∨ (C, CN) ∈ zCast))
    (hd : decode cc pc = .ok (.aastore, 1)) {a i v : Int} {O : ZS → Option (Int × ZS)}
    (kk : Zj X G (pc + 1) lv st (upM σ a i v) (O (upM σ a i v))) : Zj X G pc lv ((2, v) :: (0, i) :: (2, a) :: st) σ ((zar σ c a i ok v).bind O) := by
  have hz2 : zat c = 2 := by unfold zat; rw [if_neg (by omega), if_neg (by omega)]
  unfold zar
  by_cases h : sK σ a = c ∧ 3 ≤ a ∧ 0 ≤ i ∧ i < sL σ a ∧ ok (sK σ v) = true
  · rw [if_pos h]
    intro u σ' hO hw hl' hs h1 h2
    have hw' : zWT (upM σ a i v) := hw.upM (by rw [h.1, zst_arr (by omega), hz2]; exact hs.hd)
    obtain ⟨q1, q2⟩ := kk u σ' hO hw' hl' hs.tl.tl.tl h1 h2
    refine ⟨q1, fun g hR H locs ls hr hS hls => ?_⟩
    obtain ⟨a0, a1, a2, -, a3⟩ := zarr (by omega) hr hw h.1 h.2.1
    obtain ⟨e1, e2⟩ := z_ix hs.tl.hd h.2.2.1 h.2.2.2.1
    obtain ⟨C, T, N, hcl, hsub⟩ := hok _ h.2.2.2.2
    obtain ⟨v0, v1, v2, cellV, g1, g2, g3, -⟩ := zobj hcl hr hw rfl
    have hKK := (hX g).2.2.2.2.2.1
    have hE := (hX g).2.2.2.2.2.2.1
    have hcls := (hKK.1 (sK σ v).toNat _ hcl.2.2.1).2
    have hRA := zRA_of (hX g) t c ht
    rw [hz] at hRA
    obtain ⟨kA, comp, k1, k2, k3, -⟩ := hRA
    obtain ⟨kE, hkE, -⟩ := Vm.findClass_spec k3
    obtain ⟨kC, hkC, -⟩ := hcls.2
    have hasg : (xs X).vm.assignable ((eD (xE X)).1 (sK σ v).toNat) comp = true := by
      rcases hsub with rfl | hsub
      · have : comp = (eD (xE X)).1 (sK σ v).toNat := Option.some.inj (k3.symm.trans hcls.1)
        rw [this]; exact va_assign hcls
      · have hca := (zNe (hX := hX g)).2.1 _ hsub
        obtain ⟨c0, t1, f1, f2, f3⟩ := Cond.castable_spec (va_Nw.use (A := xa X) rfl hca)
        cases hcls.1.symm.trans f1
        cases k3.symm.trans f2
        exact f3
    rw [zvs_c, zvs_c, zvs_c, zV_ref a0, zV_ref v0]
    refine W.aast (hX g).1 (hX g).2.1 a3 (fun q h => by cases h) (fun h => by cases h) k1 k2 rfl hkE ⟨fun q => e2 (Or.inl q), by rw [arrV_size]; exact Nat.not_le.mp fun q => e2 (Or.inr q)⟩ g1 (fun q h => by rw [g3] at h; cases h) (by rw [g2]; exact hkC) (by rw [g2]; exact hasg) rfl rfl hd fun H1 f1 f2 f3 => ?_
    rw [e1] at f1
    exact q2 g hR H1 _ ls (zRep.arr (by omega) hE hr hw h.1 h.2.1 h.2.2.1 (by rw [hz2, zV_ref v0]) f1 f2 f3) (hS.put f2 f3 (zE_base hE (by omega))) hls
  · rw [if_neg h]; exact z_none
theorem z_gets (hX : G → ZOk X cc own d) {C n ds : String} {idx : Nat} {q : ZV} (hZ : G → va_Z C n ds (zV (eR (xE X)) q) (zA (xE X)) (xs X) (xs X).heap) (hl : Cond.fieldLink own idx C n ds ∈ zT) (hq : zWT σ → zOk (sN σ) q) (hd : decode cc pc = .ok (.getstatic idx, 3))
    (kk : Zj X G (pc + 3) lv (q :: st) σ O) : Zj X G pc lv st σ O :=
  z_stk (fun hw _ hs => hs.cons (hq hw)) (fun g _ _ _ H locs ls _ _ _ _ hS _ w => va_gets (hX g).1 (hX g).2.1 (hZ g) hS (hX g).2.2.2.1 ((hX g).2.2.2.2.1 _ hl) (fun _ h => h) hd w) kk
theorem z_cost (hX : G → ZOk X cc own d) {idx : Nat} (hl : Cond.fieldLink own idx "GateRoad$Text" "FIRST_COST" "[I" ∈ zT) (hd : decode cc pc = .ok (.getstatic idx, 3)) (kk : Zj X G (pc + 3) lv ((2, 0) :: st) σ O) : Zj X G pc lv st σ O :=
  z_gets hX (q := (2, 0)) (fun g => (zNe (hX := hX g)).2.2.2.2.2.2.2.2.1) hl (fun hw => ⟨by omega, by have := hw.2.2.2; omega⟩) hd kk
theorem z_lost (hX : G → ZOk X cc own d) {idx : Nat} (hl : Cond.fieldLink own idx "GateRoad$Text" "FIRST_LOST" "[I" ∈ zT) (hd : decode cc pc = .ok (.getstatic idx, 3)) (kk : Zj X G (pc + 3) lv ((2, 1) :: st) σ O) : Zj X G pc lv st σ O :=
  z_gets hX (q := (2, 1)) (fun g => (zNe (hX := hX g)).2.2.2.2.2.2.2.2.2.1) hl (fun hw => ⟨by omega, by have := hw.2.2.2; omega⟩) hd kk
theorem z_compact (hX : G → ZOk X cc own d) {idx : Nat} (hl : Cond.fieldLink own idx "java/lang/String" "COMPACT_STRINGS" "Z" ∈ zT) (hd : decode cc pc = .ok (.getstatic idx, 3)) (kk : Zj X G (pc + 3) lv ((0, 1) :: st) σ O) : Zj X G pc lv st σ O :=
  z_gets hX (q := (0, 1)) (fun g => (zNe (hX := hX g)).2.2.2.2.2.2.1) hl (fun _ => ⟨by decide, by decide⟩) hd kk
/-- what the formatter is -/
theorem z_fmt (hX : G → ZOk X cc own d) (hE : zOkE (xE X)) {idx : Nat} (hl : Cond.fieldLink own idx "jdk/internal/util/Preconditions" "SIOOBE_FORMATTER" "Ljava/util/function/BiFunction;" ∈ zT) (hd : decode cc pc = .ok (.getstatic idx, 3)) (kk : Zj X G (pc + 3) lv (eF (xE X) :: st) σ O) : Zj X G pc lv st σ O :=
  z_gets hX (q := eF (xE X)) (fun g => (zNe (hX := hX g)).2.2.2.2.2.2.2.1) hl (fun hw => by
    rcases hE.2.2.2.2 with h | ⟨t, h⟩
    · rw [h]; exact ⟨by omega, by omega⟩
    · rw [h]; show (0 : Int) ≤ t; omega) hd kk
/-- the texts -/
theorem z_ldcS (hX : G → ZOk X cc own d) (i : Nat) {idx : Nat} {tx : String} (hZ : G → vk_R own idx tx (eS (xE X) i) (xs X)) (hd : decode cc pc = .ok (.ldc idx, 2)) (kk : Zj X G (pc + 2) lv ((3, (eS (xE X) i : Int)) :: st) σ O) : Zj X G pc lv st σ O :=
  z_stk (fun _ _ hs => hs.cons (q := (3, (eS (xE X) i : Int))) (by show (0 : Int) ≤ _; omega)) (fun g _ _ _ H locs ls _ _ _ _ _ _ w => va_ldcS (hX g).1 (hX g).2.1 (hX g).2.2.2.1 (hZ g) hd (by
    have e : zvs (eR (xE X)) ((3, (eS (xE X) i : Int)) :: st) = .ref (eS (xE X) i) :: zvs (eR (xE X)) st := by
      rw [zvs_c]
      show Value.ref ((eS (xE X) i : Int)).toNat :: _ = _
      rw [Int.toNat_natCast]
    rw [e] at w; exact w)) kk
theorem zV3 (r : Nat → Nat) (n : Nat) : zV r (3, (n : Int)) = .ref n := by show Value.ref ((n : Int)).toNat = _; rw [Int.toNat_natCast]
theorem z_aload3_n (hX : G → ZOk X cc own d) (k : Nat) {i : Fin 4} {j : Nat} {x : Int} (hd : decode cc pc = .ok (.aload_n i, 1)) (hl : lv[k]? = some (j, (3, x))) (hi : (i : Nat) = j) (kk : Zj X G (pc + 1) lv ((3, x) :: st) σ O) : Zj X G pc lv st σ O :=
  z_stk (fun _ h hs => zOkS.cons (h.at hl) hs) (fun g _ _ _ _ _ _ _ _ _ _ _ hls w => lv_aload_n (hX g).1 (hX g).2.1 hd hi (lv_at hls k (zls_at hl)) w) kk
theorem z_aloadF_n (hX : G → ZOk X cc own d) (hE : zOkE (xE X)) (k : Nat) {i : Fin 4} {j : Nat} (hd : decode cc pc = .ok (.aload_n i, 1)) (hl : lv[k]? = some (j, eF (xE X))) (hi : (i : Nat) = j) (kk : Zj X G (pc + 1) lv (eF (xE X) :: st) σ O) : Zj X G pc lv st σ O := by
  rcases hE.2.2.2.2 with h | ⟨t, h⟩
  · rw [h] at hl kk; exact z_aload_n hX k hd hl hi kk
  · rw [h] at hl kk; exact z_aload3_n hX k hd hl hi kk
theorem z_popQ (hX : G → ZOk X cc own d) {q : ZV} (hq : ¬ q.1 = 1) (hd : decode cc pc = .ok (.pop, 1)) (k : Zj X G (pc + 1) lv st σ O) : Zj X G pc lv (q :: st) σ O := z_pop hX hq hd k
theorem z_coder (hX : G → ZOk X cc own d) {i : Nat} (hi : i < 2) {idx : Nat} (hl : Cond.fieldLink own idx "java/lang/String" "coder" "B" ∈ zT) (hd : decode cc pc = .ok (.getfield idx, 3)) (kk : Zj X G (pc + 3) lv ((0, 0) :: st) σ O) : Zj X G pc lv ((3, (eS (xE X) i : Int)) :: st) σ O :=
  z_stk (fun _ _ hs => hs.tl.c0 ⟨by decide, by decide⟩) (fun g _ _ _ H locs ls _ _ _ _ hS _ w => by
    rw [zvs_c, zV3]
    exact vk_getf (hX g).1 (hX g).2.1 ((zNe (hX := hX g)).2.2.2.2.2.1.1 i hi).2.1 hS (hX g).2.2.2.1 ((hX g).2.2.2.2.1 _ hl) (fun _ h => h) hd w) kk
theorem z_value (hX : G → ZOk X cc own d) {i : Nat} (hi : i < 2) {idx : Nat} (hl : Cond.fieldLink own idx "java/lang/String" "value" "[B" ∈ zT) (hd : decode cc pc = .ok (.getfield idx, 3)) (kk : Zj X G (pc + 3) lv ((3, (eV (xE X) i : Int)) :: st) σ O) : Zj X G pc lv ((3, (eS (xE X) i : Int)) :: st) σ O :=
  z_stk (fun _ _ hs => zOkS.cons (q := (3, (eV (xE X) i : Int))) (by show (0 : Int) ≤ _; omega) hs.tl) (fun g _ _ _ H locs ls _ _ _ _ hS _ w => by
    rw [zvs_c, zV3] at w ⊢
    exact vk_getf (hX g).1 (hX g).2.1 ((zNe (hX := hX g)).2.2.2.2.2.1.1 i hi).2.2.1 hS (hX g).2.2.2.1 ((hX g).2.2.2.2.1 _ hl) (fun _ h => h) hd w) kk
def zbt (i : Nat) (k : Int) : Int := ((zByt.getD i []).getD k.toNat 0).toInt
theorem z_bald (hX : G → ZOk X cc own d) {i : Nat} (hi : i < 2) (hd : decode cc pc = .ok (.baload, 1)) {k : Int} (kk : Zj X G (pc + 1) lv ((0, zbt i k) :: st) σ O) : Zj X G pc lv ((0, k) :: (3, (eV (xE X) i : Int)) :: st) σ (if 0 ≤ k ∧ k < (zLen.getD i 0 : Int) then O else none) := by
  by_cases h : 0 ≤ k ∧ k < (zLen.getD i 0 : Int)
  · rw [if_pos h]
    refine z_stk (fun _ _ hs => zOkS.c0 (v := zbt i k) hs.tl.tl (z_inR _)) (fun g _ _ hs H locs ls _ _ _ _ hS _ w => ?_) kk
    obtain ⟨cell, t1, t2, t3, t4, t5, t6, t7⟩ := ((zNe (hX := hX g)).2.2.2.2.2.1.1 i hi).2.2.2.kept hS.2.1
    obtain ⟨e1, e2⟩ := z_ix hs.hd h.1 h.2
    rw [zvs_c, zvs_c, zV3]
    refine W.bald (v := .int ((zByt.getD i []).getD k.toNat 0)) (hX g).1 (hX g).2.1 t1 t2 t3 (fun q => ?_) ?_ rfl rfl hd ?_
    · rcases q with q | q
      · exact e2 (Or.inl q)
      · rw [e1] at q; omega
    · rw [e1]; exact t6 _ (by omega)
    · have e3 : zvs (eR (xE X)) ((0, zbt i k) :: st) = .int ((zByt.getD i []).getD k.toNat 0) :: zvs (eR (xE X)) st := by
        rw [zvs_c]
        show Value.int (Int32.ofInt (zbt i k)) :: _ = _
        rw [show Int32.ofInt (zbt i k) = (zByt.getD i []).getD k.toNat 0 from z_ofToInt _]
      rw [e3] at w; exact w
  · rw [if_neg h]; exact z_none
theorem z_blen (hX : G → ZOk X cc own d) {i : Nat} (hi : i < 2) (hd : decode cc pc = .ok (.arraylength, 1)) (kk : Zj X G (pc + 1) lv ((0, (zLen.getD i 0 : Int)) :: st) σ O) : Zj X G pc lv ((3, (eV (xE X) i : Int)) :: st) σ O :=
  z_stk (fun _ _ hs => hs.tl.c0 (by
    have : zLen.getD i 0 ≤ 100 := by rcases (by omega : i = 0 ∨ i = 1) with rfl | rfl <;> decide
    exact ⟨by omega, by omega⟩)) (fun g _ _ _ H locs ls _ _ _ _ hS _ w => by
    obtain ⟨cell, t1, t2, t3, t4, t5, t6, t7⟩ := ((zNe (hX := hX g)).2.2.2.2.2.1.1 i hi).2.2.2.kept hS.2.1
    rw [zvs_c, zV3]
    refine W.alen (n := Int32.ofInt (zLen.getD i 0 : Int)) (hX g).1 (hX g).2.1 t1 t2 ?_ rfl rfl hd w
    rw [t5]
    first | rfl | exact (Int32.ofInt_eq_ofNat ▸ rfl)) kk
/-- instanceof over the ways' kinds -/
def zio (σ : ZS) (a : Int) (yes : Int → Bool) (known : Int → Bool) : Option Int := if a < 0 then some 0 else if known (sK σ a) = true then some (if yes (sK σ a) = true then 1 else 0) else none
theorem z_inst (hX : G → ZOk X cc own d) {idx : Nat} {nm : String} (yes known : Int → Bool) (hl : Cond.classLink own idx nm ∈ zT)
    (hyes : ∀ k : Int, known k = true → ∃ (C : String) (T : u_T) (N : Nat), zCls k C T N ∧ if yes k = true then (C = nm ∨ (C, nm) ∈ zCast) else (C, nm) ∈ zNot)
    (hd : decode cc pc = .ok (.instanceof idx, 3)) {a : Int} {O : Int → Option (Int × ZS)} (kk : ∀ w : Int, Zj X G (pc + 3) lv ((0, w) :: st) σ (O w)) : Zj X G pc lv ((2, a) :: st) σ ((zio σ a yes known).bind O) := by
  unfold zio
  by_cases ha : a < 0
  · rw [if_pos ha]
    exact z_stk (fun _ _ hs => hs.tl.c0 ⟨by decide, by decide⟩) (fun g _ _ _ H locs ls _ _ _ _ hS _ w => by
      rw [zvs_c, zV_null ha]; exact lv_instN (hX g).1 (hX g).2.1 hd w) (kk 0)
  · rw [if_neg ha]
    by_cases hk : known (sK σ a) = true
    · rw [if_pos hk]
      obtain ⟨C, T, N, hcl, hsub⟩ := hyes _ hk
      by_cases hy : yes (sK σ a) = true
      · rw [if_pos hy] at hsub
        show Zj X G pc lv ((2, a) :: st) σ (O (if yes (sK σ a) = true then 1 else 0))
        rw [if_pos hy]
        refine z_stk (fun _ _ hs => hs.tl.c0 ⟨by decide, by decide⟩) (fun g hw _ _ H locs ls _ _ _ hr hS _ w => ?_) (kk 1)
        obtain ⟨v0, v1, v2, cellV, g1, g2, g3, -⟩ := zobj hcl hr hw rfl
        have hcls := ((hX g).2.2.2.2.2.1.1 (sK σ a).toNat _ hcl.2.2.1).2
        have hrec : ∃ cell : Cell, H[eR (xE X) a.toNat]? = some cell ∧ cell.vm.isStatics = false ∧ (xs X).vm.findClass C = some cell.cls := ⟨cellV, g1, by rw [g3]; rfl, by rw [g2]; exact hcls.1⟩
        rw [zvs_c, zV_ref v0]
        rcases hsub with rfl | hsub
        · exact va_instE (hX g).1 (hX g).2.1 (hX g).2.2.2.1 ((hX g).2.2.2.2.1 _ hl) hrec hd w
        · exact va_instY (hX g).1 (hX g).2.1 (hX g).2.2.2.1 ((hX g).2.2.2.2.1 _ hl) ((zNe (hX := hX g)).2.1 _ hsub) hrec hd w
      · rw [if_neg hy] at hsub
        show Zj X G pc lv ((2, a) :: st) σ (O (if yes (sK σ a) = true then 1 else 0))
        rw [if_neg hy]
        refine z_stk (fun _ _ hs => hs.tl.c0 ⟨by decide, by decide⟩) (fun g hw _ _ H locs ls _ _ _ hr hS _ w => ?_) (kk 0)
        obtain ⟨v0, v1, v2, cellV, g1, g2, g3, -⟩ := zobj hcl hr hw rfl
        have hcls := ((hX g).2.2.2.2.2.1.1 (sK σ a).toNat _ hcl.2.2.1).2
        have hrec : ∃ cell : Cell, H[eR (xE X) a.toNat]? = some cell ∧ cell.vm.isStatics = false ∧ (xs X).vm.findClass C = some cell.cls := ⟨cellV, g1, by rw [g3]; rfl, by rw [g2]; exact hcls.1⟩
        rw [zvs_c, zV_ref v0]
        exact va_instNo (hX g).1 (hX g).2.1 (hX g).2.2.2.1 ((hX g).2.2.2.2.1 _ hl) ((zNe (hX := hX g)).2.2.1 _ hsub) hrec hd w
    · rw [if_neg hk]; exact z_none
end ZI
