/-! super.m(..) where the superclass has m from its own; receivers that are texts -/
section VSV
variable {p : Program} {l : Launch} {e : Env} {R : Room} {s : State} {m : MethodId} {args : Array Value} {below : List Frame} {meth : Method} {c : Code}
theorem va_callSW {T : State} {locs : List Loc} {cells slots : Nat} (X : Stand p l e R s m args below meth c T locs cells slots) (hexec : p.tables.exec = Jvm.exec) {own owner : String} {index : Nat} {x y : MethodName} {bytes : ByteArray} {maxL : Nat} {ret : Option FieldType}
    (hown : s.vm.findClass own = some m.cls) (hlink : (Cond.methodLink own index x).before args s = true) (hy : y = ⟨owner, x.name, x.desc⟩) (hsame : (Cond.sameMethod x.cls owner x.name x.desc).before args s = true) (hsup : (Cond.superclass own x.cls).before args s = true) (hsup2 : (Cond.superclass x.cls owner).before args s = true)
    (hinst : (Cond.instanceMethod y).before args s = true) (hcode : (Cond.code y bytes maxL ret).before args s = true) (hno : x.name ≠ "<init>")
    {W : Nat} {Pre : Pt → Array Value → Prop} {Post : Pt → Array Value → Option Value → Pt → Prop} (hK : Back l R p e below s args y 3 W Pre Post)
    {b : Addr} {cellB : Cell} {kB : Class} (hcell : T.heap[b]? = some cellB) (hobj : cellB.vm.isStatics = false) (hkB : s.vm.classes[cellB.cls]? = some kB)
    {g : JFrame} (hg : g.method = m) (hsize : g.locals.size = c.maxLocals) {argsL rest : List Value} (hlen : ∀ sig, parseMethodDescriptor y.desc = some sig → argsL.length = sig.parameters.length)
    (hstack : g.stack = argsL.reverse ++ .ref b :: rest) (hW : 2 * g.monitorRoom + (rest.map fun v => v.category).sum ≤ W) (hdg : decode c.code g.pc = .ok (.invokespecial index, 3))
    (hpre : ∀ vm₁, s.WarmedH vm₁ → Pre ⟨T.setVm vm₁, locs, cells, slots⟩ (Value.ref b :: argsL).toArray) :
    ∃ (v : Option Value) (vm₁ : Vm) (B : Pt), s.WarmedH vm₁ ∧ Stand p l e R s m args below meth c B.U B.locs B.cells B.slots ∧ Post ⟨T.setVm vm₁, locs, cells, slots⟩ (Value.ref b :: argsL).toArray v B ∧
      ∀ target, Steps p.tables e below (B.U.setTop { g with pc := g.pc + 3, stack := v.toList ++ rest }) target → Steps p.tables e below (T.setTop g) target := by
  obtain ⟨mk, methM, hnamed, hmethM, hstM, habM⟩ := Cond.instanceMethod_spec hinst
  obtain ⟨methM', cM, hmethM', -, -, -, -, -, -, hsigM⟩ := Cond.code_spec hnamed hcode
  cases hmethM.symm.trans hmethM'
  obtain ⟨ps, dk, kp, hps, hdk, hkp, hsuper, -, -, hnid⟩ := Cond.superclass_spec hown hsup
  obtain ⟨po, dk2, kp2, hpo, hdk2, hkp2, hsuper2, hkind2, hkind3, -⟩ := Cond.superclass_spec hps hsup2
  have hn : s.methodNamed? ⟨owner, x.name, x.desc⟩ = some mk := by rw [← hy]; exact hnamed
  have hpm : po = mk.cls := by
    have h1 := findClass_of_methodNamed hnamed
    rw [hy] at h1
    exact Option.some.inj (hpo.symm.trans h1)
  have hsub : s.vm.isSubclass ps mk.cls = true := by
    rw [← hpm]
    have hlt : po < s.vm.classes.size := (Array.getElem?_eq_some_iff.mp hkp2).1
    have hlt2 : ps < s.vm.classes.size := (Array.getElem?_eq_some_iff.mp hkp).1
    by_cases e0 : ps = po
    · rw [e0]; simp [Vm.isSubclass, Vm.isSubclassAux]
    · unfold Vm.isSubclass
      have h2 : ∃ n, s.vm.classes.size = n + 1 := ⟨_, (Nat.succ_pred_eq_of_pos (Nat.lt_of_le_of_lt (Nat.zero_le _) hlt)).symm⟩
      obtain ⟨n, hn2⟩ := h2
      simp [Vm.isSubclassAux, hdk2, hsuper2, e0, hn2]
  obtain ⟨vm₁, X₁, hstep₁⟩ := X.invokespecialUp hexec hown hlink hsame hn hmethM hstM habM hno hdk hnid hps hsuper hsub (a := b) (cell := cellB) hcell
    (fun z h => by rw [h] at hobj; cases hobj) hkB (g := g) hg (argsL := argsL) (rest := rest) (hlen _ hsigM) hstack hdg
  obtain ⟨v, B, X', hpost, hsteps⟩ := hK m meth c ⟨T.setVm vm₁, locs, cells, slots⟩ { g with stack := rest } (.invokespecial index) mk (Value.ref b :: argsL).toArray X₁ hg hsize hdg hW (X₁.named hnamed) (hpre vm₁ X₁.warmed)
  exact ⟨v, vm₁, B, X₁.warmed, X', hpost, fun target h => hstep₁ _ (by rw [doInvoke_state]; exact hsteps.trans h)⟩
end VSV
section ZW
variable {X : ZX} {G : Prop} {cc : ByteArray} {own : String} {d pc : Nat} {lv lv' : List (Nat × ZV)} {stk st : List ZV} {σ : ZS} {y : MethodName} {cc' : ByteArray} {nL' d' rk idx n : Nat} {ret : Option FieldType} {av : List ZV} {F : Option (Int × ZS)} {O : Int → ZS → Option (Int × ZS)}
theorem z_callSW (hX : G → ZOk X cc own d) {c : Int} {C owner : String} {T : u_T} {N : Nat} {x : MethodName} (hc : zCls c C T N) {a : Int} {as : List ZV} (hav : av = (2, a) :: as) (hC : sK σ a = c → Ct (xE X) (xl X) y cc' nL' ret d' av rk σ F) (hl : Cond.methodLink own idx x ∈ zT) (hy : y = ⟨owner, x.name, x.desc⟩) (hsm : Cond.sameMethod x.cls owner x.name x.desc ∈ zT) (hsup : Cond.superclass own x.cls ∈ zT) (hsup2 : Cond.superclass x.cls owner ∈ zT) (hins : Cond.instanceMethod y ∈ zT) (hini : Cond.initialized y.cls ∈ zT) (hco : Cond.code y cc' nL' ret ∈ zT) (hno : x.name ≠ "<init>")
    (hlen : (parseMethodDescriptor y.desc).map (fun d => d.parameters.length) = some n) (w5 : nL' ≤ 70) (hn : as.length = n) (hs : stk = av.reverse ++ st) (hd' : d' + 1 ≤ d) (hsl : zsl st ≤ 8) (hd : decode cc pc = .ok (.invokespecial idx, 3))
    (kk : ∀ (v1 : Int) (σ1 : ZS), zOkR (sN σ1) rk v1 → Zj X G (pc + 3) lv (rkS rk v1 ++ st) σ1 (O v1 σ1)) : Zj X G pc lv stk σ (zb (zv σ c a F) O) := by
  unfold zv
  by_cases hka : sK σ a = c
  · rw [if_pos hka]
    refine z_callG (hC hka) hs (fun g v1 σ1 H locs ls cells slots hw hM hr hS hls hf => ?_) kk
    have hX := hX g
    subst hav
    obtain ⟨a0, a1, a2, cell, g1, g2, g3, -⟩ := zobj hc hr hw hka
    obtain ⟨hfc, kB, hkB, -⟩ := (hX.2.2.2.2.2.1.1 c.toNat _ hc.2.2.1).2
    have hts := hX.2.2.2.2.1
    have hRoom := zCw.hR (hX := hX) hd' w5 (sN σ1 - sN σ) (sT σ1 - sT σ)
    have hws : ∀ w ∈ (Cond.code y cc' nL' ret :: zT), ∀ (a' : Array Value) (U : State), (xs X).WarmedH U.vm → w.before a' U = true := pay_in hts (zT_goodIn (fun w h => by
      rcases List.mem_cons.mp h with rfl | h
      · exact hco
      · exact h))
    have hK := back_of (R := xR X) (p := xp X) (e := xe X) (below := xb X) (s := xs X) (sargs := xa X) (len := 3) (W := 8) (bytes := cc') (maxL := nL') (ret := ret) hM (zPc_blind _ _ _) rfl rfl hRoom.1 (by have := hRoom.2; omega) hws List.mem_cons_self (fun a' U hW => word_at hW (Or.inl (by first | rfl | simp [Cond.onTables, Cond.keeps, Cond.steady])) (hts _ hini))
    intro T0 hT Xs
    obtain ⟨v, vm₁, ⟨U', l2, c2, s2⟩, hW₁, X', ⟨g', mk, t, L, e1, e2, hq, h1, hL, h2, h3⟩, stp⟩ := va_callSW Xs hX.1 (bytes := cc') (maxL := nL') (ret := ret) hX.2.2.2.1 (hts _ hl) hy (hts _ hsm) (hts _ hsup) (hts _ hsup2) (hts _ hins) (hts _ hco) hno hK (b := eR (xE X) a.toNat) (cellB := cell) (kB := kB) (by rw [hT]; exact g1) (by rw [g3]; rfl) (by rw [g2]; exact hkB) (g := F0 (xm X) pc ls (zvs (eR (xE X)) stk)) rfl (by rw [hX.2.2.1]; exact hls) (argsL := zvs (eR (xE X)) as) (rest := zvs (eR (xE X)) st) (fun sig h => by
        rw [h] at hlen
        rw [show (zvs (eR (xE X)) as).length = as.length by unfold zvs; rw [List.length_map], hn]
        exact (Option.some.inj hlen).symm) (by
        subst hs
        show zvs (eR (xE X)) (((2, a) :: as).reverse ++ st) = _
        rw [zvs_rev, zvs_c, zV_ref a0, List.reverse_cons, List.append_assoc]; rfl) (zroom hsl) (by rw [hX.2.1]; exact hd)
      (fun vm₁ hW₁ => ⟨hf.1, hf.2, by
        have := z_preU (av := (2, a) :: as) hX hr hS (T0.setVm vm₁) hT hW₁
        rw [zvs_c, zV_ref a0] at this
        exact this⟩)
    dsimp only [Pt.U, Pt.locs, Pt.cells, Pt.slots] at X' e1 e2 h1 h2 h3 stp
    subst h1; subst h2; subst h3
    refine ⟨v, (T0.setVm vm₁).calling g' mk (Value.ref (eR (xE X) a.toNat) :: zvs (eR (xE X)) as).toArray, t, U', L, hT, X', hL, e1, e2, ?_, stp⟩
    rw [zvs_c, zV_ref a0]
    exact hq
  · rw [if_neg hka]; exact z_none
theorem z_callV3 (hX : G → ZOk X cc own d) {i : Nat} (hi : i < 2) {as : List ZV} (hav : av = (3, (eS (xE X) i : Int)) :: as) (hC : Ct (xE X) (xl X) y cc' nL' ret d' av rk σ F) (hcw : zCw own idx y cc' nL' ret n) (hy : y.cls = "java/lang/String") (hins : Cond.instanceMethod y ∈ zT) (hsel : Cond.selects "java/lang/String" y y ∈ zT) (hn : as.length = n) (hs : stk = av.reverse ++ st) (hd' : d' + 1 ≤ d) (hsl : zsl st ≤ 8) (hd : decode cc pc = .ok (.invokevirtual idx, 3))
    (kk : ∀ (v1 : Int) (σ1 : ZS), zOkR (sN σ1) rk v1 → Zj X G (pc + 3) lv (rkS rk v1 ++ st) σ1 (O v1 σ1)) : Zj X G pc lv stk σ (zb F O) := by
  obtain ⟨w1, w2, w3, w4, w5⟩ := hcw
  refine z_callG hC hs (fun g v1 σ1 H locs ls cells slots hw hM hr hS hls hf => ?_) kk
  have hX := hX g
  subst hav
  have := va_runV (e := xe X) (below := xb X) (meth := xM X) (Ts := zT) (own := own) (index := idx) (n := n) (C := "java/lang/String") (b := eS (xE X) i) (As := zvs (eR (xE X)) as) (rest := zvs (eR (xE X)) st) (g := F0 (xm X) pc ls (zvs (eR (xE X)) stk)) (H := H) (locs := locs) (cells := cells) (slots := slots) ⟨hX.1, hX.2.1, hX.2.2.1, hX.2.2.2.1, hX.2.2.2.2.1⟩ hM (cwV n hX.2.2.2.2.1 (zT_goodIn (fun w h => by
      rcases List.mem_append.mp h with h | h
      · simp only [List.mem_cons, List.not_mem_nil, or_false] at h
        rcases h with rfl | rfl | rfl | rfl
        · exact w1
        · exact hins
        · exact hsel
        · rw [← hy]; exact w2
      · rcases List.mem_cons.mp h with rfl | h
        · exact w3
        · exact h)) rfl rfl rfl ⟨hy, w4.1, w4.2.1, w4.2.2⟩ (zCw.hR (hX := hX) hd' w5 _ _)) ⟨zPc_blind _ _ _, vk_recv ((zNe (hX := hX)).2.2.2.2.2.1) hi hS, fun U hU hW => by
        have := z_preU (av := (3, (eS (xE X) i : Int)) :: as) hX hr hS U hU hW
        rw [zvs_c, zV3] at this
        exact this⟩ rfl (by unfold zvs; rw [List.length_map]; exact hn) hls (by
        subst hs
        show zvs (eR (xE X)) (((3, (eS (xE X) i : Int)) :: as).reverse ++ st) = _
        rw [zvs_rev, zvs_c, zV3, List.reverse_cons, List.append_assoc]; rfl) (zroom hsl) hd hf
  rw [zvs_c, zV3]
  exact this
theorem z_jn {α : Type} {b : α → Option (Int × ZS)} {k : α} (h : ∀ K : α, K = k → Zj X G pc lv st σ (b K)) : Zj X G pc lv st σ (zjn b k) := h k rfl
theorem zlt {j nL : Nat} (h : xn X = nL) (h2 : Nat.blt j nL = true) : j < xn X := by
  rw [h]; exact Nat.le_of_ble_eq_true h2
theorem zlt2 {j nL : Nat} (h : xn X = nL) (h2 : Nat.blt (j + 1) nL = true) : j + 1 < xn X := by
  rw [h]; exact Nat.le_of_ble_eq_true h2
end ZW
/-- a call on a way of whatever kind -/
def zw (σ : ZS) (a : Int) (F10 F9 F3 F0 F1 F7 : Option (Int × ZS)) : Option (Int × ZS) :=
  if sK σ a = 10 then F10 else if sK σ a = 9 then F9 else if sK σ a = 3 then F3 else if sK σ a = 0 then F0 else if sK σ a = 1 then F1 else if sK σ a = 7 then F7 else none
theorem z_zw {X : ZX} {G : Prop} {pc : Nat} {lv : List (Nat × ZV)} {st : List ZV} {σ : ZS} {a : Int} {F10 F9 F3 F0 F1 F7 : Option (Int × ZS)} {O : Int → ZS → Option (Int × ZS)}
    (h10 : Zj X G pc lv st σ (zb (zv σ 10 a F10) O)) (h9 : Zj X G pc lv st σ (zb (zv σ 9 a F9) O)) (h3 : Zj X G pc lv st σ (zb (zv σ 3 a F3) O)) (h0 : Zj X G pc lv st σ (zb (zv σ 0 a F0) O)) (h1 : Zj X G pc lv st σ (zb (zv σ 1 a F1) O)) (h7 : Zj X G pc lv st σ (zb (zv σ 7 a F7) O)) : Zj X G pc lv st σ (zb (zw σ a F10 F9 F3 F0 F1 F7) O) := by
  unfold zw
  unfold zv at h10 h9 h3 h0 h1 h7
  split
  · rename_i h; rwa [if_pos h] at h10
  · split
    · rename_i h; rwa [if_pos h] at h9
    · split
      · rename_i h; rwa [if_pos h] at h3
      · split
        · rename_i h; rwa [if_pos h] at h0
        · split
          · rename_i h; rwa [if_pos h] at h1
          · split
            · rename_i h; rwa [if_pos h] at h7
            · exact z_none
/-- a field of a way, of whatever kind, is written -/
def zpw (σ : ZS) (a i v : Int) : Option ZS := if (sK σ a = 10 ∨ sK σ a = 9 ∨ sK σ a = 3 ∨ sK σ a = 0 ∨ sK σ a = 1 ∨ sK σ a = 7) ∧ 3 ≤ a then some (upM σ a i v) else none
