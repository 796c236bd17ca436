/-! calls, by their kinds -/
def zb (F : Option (Int × ZS)) (O : Int → ZS → Option (Int × ZS)) : Option (Int × ZS) := F.bind (fun r => O r.1 r.2)
/-- a place where ways meet -/
def zjn {α : Type} (b : α → Option (Int × ZS)) (k : α) : Option (Int × ZS) := b k
theorem zT_goodIn {ws : List Cond} (h : ∀ w ∈ ws, w ∈ zT) : GoodIn zT ws := fun w hw => ⟨h w hw, good_of_word (zT_good (h w hw))⟩
theorem zPc_blind (E : ZE) (av : List ZV) (σ : ZS) : FrameBlind (zPc E av σ) := by
  intro a U g mk ⟨h1, h2, h3, h4, h5⟩
  exact ⟨h1, h2, va_K.moved (u := U) (U := U.calling g mk a) (Vm.Alike.refl U.vm) h3, by
    obtain ⟨⟨a1, a2, a3, a4⟩, b1, b2, ⟨c1, c2, c3⟩, ⟨d1, d2⟩, e1, f1, f2, f3, f4, g1⟩ := h4
    have hA : U.vm.Alike (U.calling g mk a).vm := Vm.Alike.refl U.vm
    have hv : U.vm = (U.calling g mk a).vm := rfl
    exact ⟨⟨a1.moved hA, a2.moved hA, a3.moved hA, a4.moved hA⟩, fun q h => va_Nw.same rfl hv (b1 q h), fun q h => (b2 q h).moved hA, ⟨va_Nw.same rfl hv c1, va_Nw.same rfl hv c2, va_Nw.same rfl hv c3⟩, ⟨d1.same hv.symm, d2.same hv.symm⟩, vk_S.moved hA e1, va_Z.moved hA f1, va_Z.moved hA f2, va_Z.moved hA f3, va_Z.moved hA f4, g1⟩, h5⟩
/-- what a call asks of the words, and its room -/
def zCw (own : String) (idx : Nat) (y : MethodName) (cc : ByteArray) (nL : Nat) (ret : Option FieldType) (n : Nat) : Prop :=
  Cond.methodLink own idx y ∈ zT ∧ Cond.initialized y.cls ∈ zT ∧ Cond.code y cc nL ret ∈ zT ∧ (y.cls ≠ "java/lang/invoke/MethodHandle" ∧ y.cls ≠ "java/lang/invoke/VarHandle" ∧ (parseMethodDescriptor y.desc).map (fun d => d.parameters.length) = some n) ∧ nL ≤ 70
theorem zcat_sum (r : Nat → Nat) (st : List ZV) : ((zvs r st).map fun v => v.category).sum = zsl st := by
  unfold zvs zsl
  rw [List.map_map]
  congr 1
  have : (fun v => v.category) ∘ zV r = fun q => if q.1 = 1 then 2 else 1 := funext fun q => zV_cat _ q
  rw [this]
theorem zvs_rev (r : Nat → Nat) (av st : List ZV) : zvs r (av.reverse ++ st) = (zvs r av).reverse ++ zvs r st := by
  unfold zvs
  rw [List.map_append, List.map_reverse]
section ZD
variable {X : ZX} {G : Prop} {cc : ByteArray} {own : String} {d pc : Nat} {lv lv' : List (Nat × ZV)} {stk st : List ZV} {σ : ZS} {y : MethodName} {cc' : ByteArray} {nL' d' rk idx n : Nat} {ret : Option FieldType} {av : List ZV} {F : Option (Int × ZS)} {O : Int → ZS → Option (Int × ZS)}
theorem z_callG (hC : Ct (xE X) (xl X) y cc' nL' ret d' av rk σ F) (hs : stk = av.reverse ++ st)
    (hrun : G → ∀ (v1 : Int) (σ1 : ZS) (H : Heap) (locs : List Loc) (ls : Array Slot) (cells slots : Nat), zWT σ → Met (xl X) y (.code y cc' nL' ret :: zT) (zRm d' (sN σ1 - sN σ) (sT σ1 - sT σ)) (zPc (xE X) av σ) (zQc (xE X) rk v1 σ1) (sN σ1 - sN σ) (sT σ1 - sT σ) (zA (xE X)) → zRep (xE X) σ H → va_S (zA (xE X)) (xs X).heap H locs → ls.size = xn X → cells + (sN σ1 - sN σ) ≤ (xR X).cells ∧ slots + (sT σ1 - sT σ) ≤ (xR X).slots →
      va_Run (xp X) (xl X) (xe X) (xR X) (xs X) (xm X) (xa X) (xb X) (xM X) (xc X) H locs cells slots (sN σ1 - sN σ) (sT σ1 - sT σ) (F0 (xm X) pc ls (zvs (eR (xE X)) stk)) (zvs (eR (xE X)) st) (zQc (xE X) rk v1 σ1 (zvs (eR (xE X)) av).toArray) (zA (xE X)))
    (kk : ∀ (v1 : Int) (σ1 : ZS), zOkR (sN σ1) rk v1 → Zj X G (pc + 3) lv (rkS rk v1 ++ st) σ1 (O v1 σ1)) : Zj X G pc lv stk σ (zb F O) := by
  intro v σ' hO hw hl hst h1 h2
  obtain ⟨⟨v1, σ1⟩, hF, hO'⟩ := Option.bind_eq_some_iff.mp (show F.bind (fun r => O r.1 r.2) = _ from hO)
  subst hs
  have hav : zOkS (sN σ) av := fun q hq => hst q (List.mem_append_left _ (List.mem_reverse.mpr hq))
  have hst2 : zOkS (sN σ) st := fun q hq => hst q (List.mem_append_right _ hq)
  obtain ⟨pu, hM⟩ := hC v1 σ1 hF hw hav
  obtain ⟨p1, p2, p3, p4⟩ := pu ⟨X⟩
  obtain ⟨⟨q1, q3, q4, q5⟩, q2⟩ := kk v1 σ1 p4 v σ' hO' p1 (hl.mono p2) (rkOk p4 (hst2.mono p2)) (by omega) (by omega)
  refine ⟨⟨q1, by omega, by omega, q5⟩, fun g hR H locs ls hr hS hls T hT Xs => ?_⟩
  obtain ⟨ov, st₀, t, T', L, h0, X', hL, e1, e2, ⟨hv, hrep, hz, hk⟩, stp⟩ := hrun g v1 σ1 H locs ls (sN σ - sN (x0 X)) (sT σ - sT (x0 X)) hw hM hr hS hls.1 ⟨by omega, by omega⟩ T hT Xs
  cases hv
  rw [h0] at hz hk
  have e3 : sN σ1 - sN (x0 X) = sN σ - sN (x0 X) + (sN σ1 - sN σ) := by omega
  have e4 : sT σ1 - sT (x0 X) = sT σ - sT (x0 X) + (sT σ1 - sT σ) := by omega
  have w := q2 g hR T'.heap (locs ++ L) ls (by rw [e1]; exact hrep) ⟨Nat.le_trans hS.1 (by rw [e1]; exact hz), fun q g1 g2 => by rw [e1, hk q (Nat.lt_of_lt_of_le g1 hS.1) g2]; exact hS.2.1 q g1 g2, fun q hq => by
      rcases List.mem_append.mp hq with h | h
      · exact hS.2.2 q h
      · exact hL q h⟩ hls
  rw [e3, e4, ← rkVS] at w
  obtain ⟨t2, a1, b1⟩ := w T' rfl X'
  exact ⟨t2, stp t2 a1, b1⟩
theorem z_preU (hX : ZOk X cc own d) {H : Heap} {locs : List Loc} (hr : zRep (xE X) σ H) (hS : va_S (zA (xE X)) (xs X).heap H locs) (U : State) (hU : U.heap = H) (hW : (xs X).WarmedH U.vm) : zPc (xE X) av σ (zvs (eR (xE X)) av).toArray U :=
  ⟨rfl, by rw [hU]; exact hr, va_K.moved hW.alike hX.2.2.2.2.2.1, zK2.to hW (fun q h1 h2 => by rw [hU]; exact hS.2.1 q h1 h2) hX.2.2.2.2.2.2.2.2.2.2.2, by rw [hU]; exact Nat.le_trans hX.2.2.2.2.2.2.2.1 hS.1⟩
theorem zCw.hR {hX : ZOk X cc own d} (hd : d' + 1 ≤ d) (hn : nL' ≤ 70) (c s : Nat) : (zRm d' c s).frames + 1 ≤ (xR X).frames ∧ 8 + (nL' + 11) + (zRm d' c s).locals ≤ (xR X).locals := by
  have h1 := hX.2.2.2.2.2.2.2.2.2.1
  have h2 := hX.2.2.2.2.2.2.2.2.2.2.1
  exact ⟨by show d' + 1 ≤ _; omega, by show _ + 100 * d' ≤ _; omega⟩
theorem zroom {r : Nat → Nat} {pc : Nat} {ls : Array Slot} {rst : List Value} {m : MethodId} (h : zsl st ≤ 8) : 2 * (F0 m pc ls rst).monitorRoom + ((zvs r st).map fun v => v.category).sum ≤ 8 := by
  rw [zcat_sum]
  show 2 * 0 + _ ≤ 8
  omega
theorem z_callS (hX : G → ZOk X cc own d) (hC : Ct (xE X) (xl X) y cc' nL' ret d' av rk σ F) (hcw : zCw own idx y cc' nL' ret n) (hst : Cond.static y ∈ zT) (hn : av.length = n) (hs : stk = av.reverse ++ st) (hd' : d' + 1 ≤ d) (hsl : zsl st ≤ 8) (hd : decode cc pc = .ok (.invokestatic idx, 3))
    (kk : ∀ (v1 : Int) (σ1 : ZS), zOkR (sN σ1) rk v1 → Zj X G (pc + 3) lv (rkS rk v1 ++ st) σ1 (O v1 σ1)) : Zj X G pc lv stk σ (zb F O) := by
  obtain ⟨w1, w2, w3, w4, w5⟩ := hcw
  refine z_callG hC hs (fun g v1 σ1 H locs ls cells slots hw hM hr hS hls hf => ?_) kk
  have hX := hX g
  exact va_runS (Ts := zT) (own := own) (index := idx) (n := n) ⟨hX.1, hX.2.1, hX.2.2.1, hX.2.2.2.1, hX.2.2.2.2.1⟩ hM (va_cwS n hX.2.2.2.2.1 (zT_goodIn (fun w h => by
    rcases List.mem_append.mp h with h | h
    · simp only [List.mem_cons, List.not_mem_nil, or_false] at h
      rcases h with rfl | rfl | rfl
      · exact w1
      · exact hst
      · exact w2
    · rcases List.mem_cons.mp h with rfl | h
      · exact w3
      · exact h)) rfl rfl rfl w4 (zCw.hR (hX := hX) hd' w5 _ _)) ⟨zPc_blind _ _ _, fun U hU hW => z_preU hX hr hS U hU hW⟩ rfl (by unfold zvs; rw [List.length_map]; exact hn) hls (by subst hs; exact zvs_rev _ _ _) (zroom hsl) hd hf
/-- a receiver of a known class -/
def zv (σ : ZS) (c a : Int) (F : Option (Int × ZS)) : Option (Int × ZS) := if sK σ a = c then F else none
theorem z_callV (hX : G → ZOk X cc own d) {c : Int} {C : String} {T : u_T} {N : Nat} (hc : zCls c C T N) {a : Int} {as : List ZV} (hav : av = (2, a) :: as) (hC : sK σ a = c → Ct (xE X) (xl X) y cc' nL' ret d' av rk σ F) (hcw : zCw own idx y cc' nL' ret n) (hy : y.cls = C) (hins : Cond.instanceMethod y ∈ zT) (hsel : Cond.selects C y y ∈ zT) (hn : as.length = n) (hs : stk = av.reverse ++ st) (hd' : d' + 1 ≤ d) (hsl : zsl st ≤ 8) (hd : decode cc pc = .ok (.invokevirtual idx, 3))
    (kk : ∀ (v1 : Int) (σ1 : ZS), zOkR (sN σ1) rk v1 → Zj X G (pc + 3) lv (rkS rk v1 ++ st) σ1 (O v1 σ1)) : Zj X G pc lv stk σ (zb (zv σ c a F) O) := by
  unfold zv
  by_cases hka : sK σ a = c
  · rw [if_pos hka]
    obtain ⟨w1, w2, w3, w4, w5⟩ := hcw
    refine z_callG (hC hka) hs (fun g v1 σ1 H locs ls cells slots hw hM hr hS hls hf => ?_) kk
    have hX := hX g
    subst hav
    obtain ⟨a0, a1, a2, cell, g1, g2, g3, -⟩ := zobj hc hr hw hka
    have hcls := (hX.2.2.2.2.2.1.1 c.toNat _ hc.2.2.1).2
    have := va_runV (e := xe X) (below := xb X) (meth := xM X) (Ts := zT) (own := own) (index := idx) (n := n) (C := C) (b := eR (xE X) a.toNat) (As := zvs (eR (xE X)) as) (rest := zvs (eR (xE X)) st) (g := F0 (xm X) pc ls (zvs (eR (xE X)) stk)) (H := H) (locs := locs) (cells := cells) (slots := slots) ⟨hX.1, hX.2.1, hX.2.2.1, hX.2.2.2.1, hX.2.2.2.2.1⟩ hM (cwV n hX.2.2.2.2.1 (zT_goodIn (fun w h => by
      rcases List.mem_append.mp h with h | h
      · simp only [List.mem_cons, List.not_mem_nil, or_false] at h
        rcases h with rfl | rfl | rfl | rfl
        · exact w1
        · exact hins
        · exact hsel
        · rw [← hy]; exact w2
      · rcases List.mem_cons.mp h with rfl | h
        · exact w3
        · exact h)) rfl rfl rfl ⟨hy, w4.1, w4.2.1, w4.2.2⟩ (zCw.hR (hX := hX) hd' w5 _ _)) ⟨zPc_blind _ _ _, ⟨cell, g1, by rw [g3]; rfl, by rw [g2]; exact hcls.1⟩, fun U hU hW => by
        have := z_preU (av := (2, a) :: as) hX hr hS U hU hW
        rw [zvs_c, zV_ref a0] at this
        exact this⟩ rfl (by unfold zvs; rw [List.length_map]; exact hn) hls (by
        subst hs
        show zvs (eR (xE X)) (((2, a) :: as).reverse ++ st) = _
        rw [zvs_rev, zvs_c, zV_ref a0, List.reverse_cons, List.append_assoc]; rfl) (zroom hsl) hd hf
    rw [zvs_c, zV_ref a0]
    exact this
  · rw [if_neg hka]; exact z_none
/-- a call that an overriding or inherited method answers: its reference names x -/
theorem z_callU (hX : G → ZOk X cc own d) {c : Int} {C owner : String} {T : u_T} {N : Nat} {x : MethodName} (hc : zCls c C T N) {a : Int} {as : List ZV} (hav : av = (2, a) :: as) (hC : sK σ a = c → Ct (xE X) (xl X) y cc' nL' ret d' av rk σ F) (hl : Cond.methodLink own idx x ∈ zT) (hsm : Cond.sameMethod x.cls owner x.name x.desc ∈ zT) (hins0 : Cond.instanceMethod ⟨owner, x.name, x.desc⟩ ∈ zT) (hsel : Cond.selects C x y ∈ zT) (hins : Cond.instanceMethod y ∈ zT) (hini : Cond.initialized y.cls ∈ zT) (hco : Cond.code y cc' nL' ret ∈ zT)
    {b0 : ByteArray} {m0 : Nat} {r0 : Option FieldType} (h0 : Cond.code ⟨owner, x.name, x.desc⟩ b0 m0 r0 ∈ zT) (hd0 : owner ≠ "java/lang/invoke/MethodHandle" ∧ owner ≠ "java/lang/invoke/VarHandle" ∧ (parseMethodDescriptor x.desc).map (fun d => d.parameters.length) = some n) (w5 : nL' ≤ 70) (hn : as.length = n) (hs : stk = av.reverse ++ st) (hd' : d' + 1 ≤ d) (hsl : zsl st ≤ 8) (hd : decode cc pc = .ok (.invokevirtual idx, 3))
    (kk : ∀ (v1 : Int) (σ1 : ZS), zOkR (sN σ1) rk v1 → Zj X G (pc + 3) lv (rkS rk v1 ++ st) σ1 (O v1 σ1)) : Zj X G pc lv stk σ (zb (zv σ c a F) O) := by
  unfold zv
  by_cases hka : sK σ a = c
  · rw [if_pos hka]
    refine z_callG (hC hka) hs (fun g v1 σ1 H locs ls cells slots hw hM hr hS hls hf => ?_) kk
    have hX := hX g
    subst hav
    obtain ⟨a0, a1, a2, cell, g1, g2, g3, -⟩ := zobj hc hr hw hka
    have hcls := (hX.2.2.2.2.2.1.1 c.toNat _ hc.2.2.1).2
    have := va_runU (e := xe X) (below := xb X) (meth := xM X) (Ts := zT) (own := own) (index := idx) (n := n) (C := C) (owner := owner) (x := x) (b := eR (xE X) a.toNat) (As := zvs (eR (xE X)) as) (rest := zvs (eR (xE X)) st) (g := F0 (xm X) pc ls (zvs (eR (xE X)) stk)) (H := H) (locs := locs) (cells := cells) (slots := slots) ⟨hX.1, hX.2.1, hX.2.2.1, hX.2.2.2.1, hX.2.2.2.2.1⟩ hM (va_cwO n hX.2.2.2.2.1 (zT_goodIn (fun w h => by
      rcases List.mem_append.mp h with h | h
      · simp only [List.mem_cons, List.not_mem_nil, or_false] at h
        rcases h with rfl | rfl | rfl | rfl | rfl | rfl
        · exact hl
        · exact hsm
        · exact hins0
        · exact hsel
        · exact hins
        · exact hini
      · rcases List.mem_cons.mp h with rfl | h
        · exact hco
        · exact h)) rfl rfl rfl h0 hd0 (zCw.hR (hX := hX) hd' w5 _ _)) ⟨zPc_blind _ _ _, ⟨cell, g1, by rw [g3]; rfl, by rw [g2]; exact hcls.1⟩, fun U hU hW => by
        have := z_preU (av := (2, a) :: as) hX hr hS U hU hW
        rw [zvs_c, zV_ref a0] at this
        exact this⟩ rfl (by unfold zvs; rw [List.length_map]; exact hn) hls (by
        subst hs
        show zvs (eR (xE X)) (((2, a) :: as).reverse ++ st) = _
        rw [zvs_rev, zvs_c, zV_ref a0, List.reverse_cons, List.append_assoc]; rfl) (zroom hsl) hd hf
    rw [zvs_c, zV_ref a0]
    exact this
  · rw [if_neg hka]; exact z_none
/-- a maker -/
theorem z_callI (hX : G → ZOk X cc own d) {a : Int} {as : List ZV} (hav : av = (2, a) :: as) (hC : Ct (xE X) (xl X) y cc' nL' none d' av 0 σ F) (hcw : zCw own idx y cc' nL' none n) (hin : y.name = "<init>") (hins : Cond.instanceMethod y ∈ zT) (hn : as.length = n) (hs : stk = av.reverse ++ st) (hd' : d' + 1 ≤ d) (hsl : zsl st ≤ 8) (hd : decode cc pc = .ok (.invokespecial idx, 3))
    (kk : ∀ (v1 : Int) (σ1 : ZS), zOkR (sN σ1) 0 v1 → Zj X G (pc + 3) lv (rkS 0 v1 ++ st) σ1 (O v1 σ1)) : Zj X G pc lv stk σ (if a < 0 then none else zb F O) := by
  by_cases a0 : a < 0
  · rw [if_pos a0]; exact z_none
  rw [if_neg a0]
  obtain ⟨w1, w2, w3, w4, w5⟩ := hcw
  refine z_callG hC hs (fun g v1 σ1 H locs ls cells slots hw hM hr hS hls hf => ?_) kk
  have hX := hX g
  subst hav
  have := va_runI (e := xe X) (below := xb X) (meth := xM X) (Ts := zT) (own := own) (index := idx) (n := n) (b := eR (xE X) a.toNat) (As := zvs (eR (xE X)) as) (rest := zvs (eR (xE X)) st) (g := F0 (xm X) pc ls (zvs (eR (xE X)) stk)) (H := H) (locs := locs) (cells := cells) (slots := slots) ⟨hX.1, hX.2.1, hX.2.2.1, hX.2.2.2.1, hX.2.2.2.2.1⟩ hM (cwI n hX.2.2.2.2.1 (zT_goodIn (fun w h => by
      rcases List.mem_cons.mp h with rfl | h
      · exact w3
      · exact h)) rfl rfl rfl (hX.2.2.2.2.1 _ w2) (hX.2.2.2.2.1 _ w1) (hX.2.2.2.2.1 _ hins) hin w4 (zCw.hR (hX := hX) hd' w5 _ _)) ⟨zPc_blind _ _ _, fun U hU hW => by
        have := z_preU (av := (2, a) :: as) hX hr hS U hU hW
        rw [zvs_c, zV_ref a0] at this
        exact this⟩ rfl (by unfold zvs; rw [List.length_map]; exact hn) hls (by
        subst hs
        show zvs (eR (xE X)) (((2, a) :: as).reverse ++ st) = _
        rw [zvs_rev, zvs_c, zV_ref a0, List.reverse_cons, List.append_assoc]; rfl) (zroom hsl) hd hf
  rw [zvs_c, zV_ref a0]
  exact this
/-- a maker of a nest mate -/
theorem z_callIN (hX : G → ZOk X cc own d) {a : Int} {as : List ZV} (hav : av = (2, a) :: as) (hC : Ct (xE X) (xl X) y cc' nL' none d' av 0 σ F) {host : String} (hnst : G → va_Nw (.methodLinkNest own idx y host) (xs X)) (hini : Cond.initialized y.cls ∈ zT) (hco : Cond.code y cc' nL' none ∈ zT) (w4 : y.cls ≠ "java/lang/invoke/MethodHandle" ∧ y.cls ≠ "java/lang/invoke/VarHandle" ∧ (parseMethodDescriptor y.desc).map (fun d => d.parameters.length) = some n) (w5 : nL' ≤ 70) (hin : y.name = "<init>") (hins : Cond.instanceMethod y ∈ zT) (hn : as.length = n) (hs : stk = av.reverse ++ st) (hd' : d' + 1 ≤ d) (hsl : zsl st ≤ 8) (hd : decode cc pc = .ok (.invokespecial idx, 3))
    (kk : ∀ (v1 : Int) (σ1 : ZS), zOkR (sN σ1) 0 v1 → Zj X G (pc + 3) lv (rkS 0 v1 ++ st) σ1 (O v1 σ1)) : Zj X G pc lv stk σ (if a < 0 then none else zb F O) := by
  by_cases a0 : a < 0
  · rw [if_pos a0]; exact z_none
  rw [if_neg a0]
  refine z_callG hC hs (fun g v1 σ1 H locs ls cells slots hw hM hr hS hls hf => ?_) kk
  have hX := hX g
  subst hav
  have := va_runIN (e := xe X) (below := xb X) (meth := xM X) (Ts := zT) (own := own) (index := idx) (n := n) (host := host) (b := eR (xE X) a.toNat) (As := zvs (eR (xE X)) as) (rest := zvs (eR (xE X)) st) (g := F0 (xm X) pc ls (zvs (eR (xE X)) stk)) (H := H) (locs := locs) (cells := cells) (slots := slots) ⟨hX.1, hX.2.1, hX.2.2.1, hX.2.2.2.1, hX.2.2.2.2.1⟩ hM ⟨va_cnB n hX.2.2.2.2.1 (zT_goodIn (fun w h => by
      rcases List.mem_cons.mp h with rfl | h
      · exact hco
      · exact h)) rfl rfl rfl (hnst g) (hX.2.2.2.2.1 _ hini) w4 (zCw.hR (hX := hX) hd' w5 _ _), hin, hX.2.2.2.2.1 _ hins⟩ ⟨zPc_blind _ _ _, fun U hU hW => by
        have := z_preU (av := (2, a) :: as) hX hr hS U hU hW
        rw [zvs_c, zV_ref a0] at this
        exact this⟩ rfl (by unfold zvs; rw [List.length_map]; exact hn) hls (by
        subst hs
        show zvs (eR (xE X)) (((2, a) :: as).reverse ++ st) = _
        rw [zvs_rev, zvs_c, zV_ref a0, List.reverse_cons, List.append_assoc]; rfl) (zroom hsl) hd hf
  rw [zvs_c, zV_ref a0]
  exact this
/-- Object's own maker -/
theorem z_objInit (hX : G → ZOk X cc own d) (hd1 : 1 ≤ d) {a : Int} (hl : Cond.methodLink own idx Lib.objectInit ∈ zT) (hins : Cond.instanceMethod Lib.objectInit ∈ zT) (hco : Cond.code Lib.objectInit ⟨#[0xb1]⟩ 1 none ∈ zT) (hsl : zsl st ≤ 8) (hd : decode cc pc = .ok (.invokespecial idx, 3)) {O : Option (Int × ZS)}
    (kk : Zj X G (pc + 3) lv st σ O) : Zj X G pc lv ((2, a) :: st) σ (if a < 0 then none else O) := by
  by_cases a0 : a < 0
  · rw [if_pos a0]; exact z_none
  rw [if_neg a0]
  refine z_stk (fun _ _ hs => hs.tl) (fun g _ _ _ H locs ls _ _ _ _ _ hls w => ?_) kk
  have hX := hX g
  rw [zvs_c, zV_ref a0]
  have h1 := hX.2.2.2.2.2.2.2.2.2.1
  have h2 := hX.2.2.2.2.2.2.2.2.2.2.1
  refine W.objInit hX.1 hX.2.1 hX.2.2.2.1 (hX.2.2.2.2.1 _ hl) (hX.2.2.2.2.1 _ hins) (hX.2.2.2.2.1 _ hco) rfl (by rw [hX.2.2.1]; exact hls.1) rfl hd (by omega) ?_ w
  rw [zcat_sum]
  show 2 * 0 + _ + 12 ≤ _
  omega
/-- super.m(..) -/
theorem z_callSU (hX : G → ZOk X cc own d) {c : Int} {C : String} {T : u_T} {N : Nat} (hc : zCls c C T N) {a : Int} {as : List ZV} (hav : av = (2, a) :: as) (hC : sK σ a = c → Ct (xE X) (xl X) y cc' nL' ret d' av rk σ F) (hcw : zCw own idx y cc' nL' ret n) (hsm : Cond.sameMethod y.cls y.cls y.name y.desc ∈ zT) (hsup : Cond.superclass own y.cls ∈ zT) (hno : y.name ≠ "<init>") (hins : Cond.instanceMethod y ∈ zT) (hn : as.length = n) (hs : stk = av.reverse ++ st) (hd' : d' + 1 ≤ d) (hsl : zsl st ≤ 8) (hd : decode cc pc = .ok (.invokespecial idx, 3))
    (kk : ∀ (v1 : Int) (σ1 : ZS), zOkR (sN σ1) rk v1 → Zj X G (pc + 3) lv (rkS rk v1 ++ st) σ1 (O v1 σ1)) : Zj X G pc lv stk σ (zb (zv σ c a F) O) := by
  unfold zv
  by_cases hka : sK σ a = c
  · rw [if_pos hka]
    obtain ⟨w1, w2, w3, w4, w5⟩ := hcw
    refine z_callG (hC hka) hs (fun g v1 σ1 H locs ls cells slots hw hM hr hS hls hf => ?_) kk
    have hX := hX g
    subst hav
    obtain ⟨a0, a1, a2, cell, g1, g2, g3, -⟩ := zobj hc hr hw hka
    have hcls := (hX.2.2.2.2.2.1.1 c.toNat _ hc.2.2.1).2
    have := va_runSU (e := xe X) (below := xb X) (meth := xM X) (Ts := zT) (own := own) (index := idx) (n := n) (C := C) (b := eR (xE X) a.toNat) (As := zvs (eR (xE X)) as) (rest := zvs (eR (xE X)) st) (g := F0 (xm X) pc ls (zvs (eR (xE X)) stk)) (H := H) (locs := locs) (cells := cells) (slots := slots) hcls ⟨hX.1, hX.2.1, hX.2.2.1, hX.2.2.2.1, hX.2.2.2.2.1⟩ hM (va_cwSU n hX.2.2.2.2.1 (zT_goodIn (fun w h => by
      rcases List.mem_append.mp h with h | h
      · simp only [List.mem_cons, List.not_mem_nil, or_false] at h
        rcases h with rfl | rfl | rfl | rfl | rfl
        · exact w1
        · exact hsm
        · exact hsup
        · exact hins
        · exact w2
      · rcases List.mem_cons.mp h with rfl | h
        · exact w3
        · exact h)) rfl rfl rfl ⟨hno, w4.2.2⟩ (zCw.hR (hX := hX) hd' w5 _ _)) ⟨zPc_blind _ _ _, ⟨cell, g1, by rw [g3]; rfl, by rw [g2]; exact hcls.1⟩, fun U hU hW => by
        have := z_preU (av := (2, a) :: as) hX hr hS U hU hW
        rw [zvs_c, zV_ref a0] at this
        exact this⟩ rfl (by unfold zvs; rw [List.length_map]; exact hn) hls (by
        subst hs
        show zvs (eR (xE X)) (((2, a) :: as).reverse ++ st) = _
        rw [zvs_rev, zvs_c, zV_ref a0, List.reverse_cons, List.append_assoc]; rfl) (zroom hsl) hd hf
    rw [zvs_c, zV_ref a0]
    exact this
  · rw [if_neg hka]; exact z_none
end ZD
