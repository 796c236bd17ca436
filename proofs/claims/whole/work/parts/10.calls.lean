/-! contracts, answers, calls -/
def rkV (r : Nat → Nat) (rk : Nat) (v : Int) : Option Value := match rk with
  | 0 => none
  | 1 => some (zV r (0, v))
  | 2 => some (zV r (1, v))
  | 3 => some (zV r (2, v))
  | _ => some (zV r (0, v))
def rkS (rk : Nat) (v : Int) : List ZV := match rk with
  | 0 => []
  | 1 => [(0, v)]
  | 2 => [(1, v)]
  | 3 => [(2, v)]
  | _ => [(0, v)]
theorem rkVS (r : Nat → Nat) (rk : Nat) (v : Int) (st : List ZV) : (rkV r rk v).toList ++ zvs r st = zvs r (rkS rk v ++ st) := by
  match rk with
  | 0 => rfl
  | 1 => rfl
  | 2 => rfl
  | 3 => rfl
  | n + 4 => rfl
theorem rkOk {N rk : Nat} {v : Int} {st : List ZV} (h : zOkR N rk v) (hs : zOkS N st) : zOkS N (rkS rk v ++ st) := by
  match rk, h with
  | 0, _ => exact hs
  | 1, h => exact hs.c0 h
  | 2, h => exact hs.c1 h
  | 3, h => exact hs.c2 h
  | 4, h => exact hs.c0 (by rcases (show v = 0 ∨ v = 1 from h) with e | e <;> rw [e] <;> exact ⟨by decide, by decide⟩)
  | n + 5, h => exact hs.c0 (by have h : 0 ≤ v ∧ v < 65536 := h; exact ⟨by omega, by omega⟩)
def zPc (E : ZE) (av : List ZV) (σ : ZS) : Array Value → State → Prop := fun a U => a = (zvs (eR E) av).toArray ∧ zRep E σ U.heap ∧ zK E U ∧ zK2 E U ∧ eB E ≤ U.heap.size
def zQc (E : ZE) (rk : Nat) (v : Int) (σ' : ZS) : Array Value → State → Outcome → State → Prop := fun _ st o t => o = .returned (rkV (eR E) rk v) ∧ zRep E σ' t.heap ∧ va_F (zA E) st t
def zRm (d c s : Nat) : Room := { frames := d, cells := c, slots := s, locals := 100 * d }
/-- a method's contract: from σ it comes to what O tells -/
def Ct (E : ZE) (l : Launch) (y : MethodName) (cc : ByteArray) (nL : Nat) (ret : Option FieldType) (d : Nat) (av : List ZV) (rk : Nat) (σ : ZS) (O : Option (Int × ZS)) : Prop :=
  ∀ (v : Int) (σ' : ZS), O = some (v, σ') → zWT σ → zOkS (sN σ) av → (Nonempty ZX → zWT σ' ∧ sN σ ≤ sN σ' ∧ sT σ ≤ sT σ' ∧ zOkR (sN σ') rk v) ∧
    Met l y (.code y cc nL ret :: zT) (zRm d (sN σ' - sN σ) (sT σ' - sT σ)) (zPc E av σ) (zQc E rk v σ') (sN σ' - sN σ) (sT σ' - sT σ) (zA E)
def zRet (X : ZX) (ret : Option FieldType) : Prop := (xM X).sig.returnType = ret ∧ ∀ (v : Int) (σ' : ZS), xQ X v σ' = MQ (xb X) (zQc (xE X) (xk X) v σ') (xa X) (xs X) (sN σ' - sN (x0 X)) (sT σ' - sT (x0 X)) (zA (xE X))
def zsl (av : List ZV) : Nat := (av.map fun q => if q.1 = 1 then 2 else 1).sum
def zarg : Nat → List ZV → List (Nat × ZV)
  | _, [] => []
  | i, q :: qs => (i, q) :: zarg (if q.1 = 1 then i + 2 else i + 1) qs
theorem zarg_ok (r : Nat → Nat) : ∀ (i : Nat) (av : List ZV), lv_args i (zvs r av) = zls r (zarg i av)
  | _, [] => rfl
  | i, q :: qs => by
    show (i, zV r q) :: lv_args (if (zV r q).category = 2 then i + 2 else i + 1) (zvs r qs) = (i, zV r q) :: zls r (zarg (if q.1 = 1 then i + 2 else i + 1) qs)
    rw [zV_cat]
    by_cases h : q.1 = 1
    · rw [if_pos h, if_pos rfl, if_pos h, zarg_ok r]
    · rw [if_neg h, if_neg (by decide), if_neg h, zarg_ok r]
theorem zsl_ok (r : Nat → Nat) : ∀ av : List ZV, (lg_sl (zvs r av)).length = zsl av
  | [] => rfl
  | q :: qs => by
    show (lg_sl (zV r q :: zvs r qs)).length = (if q.1 = 1 then 2 else 1) + zsl qs
    unfold lg_sl
    rw [List.flatMap_cons, List.length_append]
    have := zsl_ok r qs
    unfold lg_sl at this
    rw [this, zV_cat]
    by_cases h : q.1 = 1
    · simp [h]
    · simp [h]
theorem zargOk {N : Nat} : ∀ (i : Nat) (av : List ZV), zOkS N av → zOkL N (zarg i av)
  | _, [], _ => fun q hq => by cases hq
  | i, q :: qs, h => fun x hx => (List.mem_cons.mp hx).elim (fun e => by rw [e]; exact h.hd) (zargOk _ qs h.tl x)
theorem Ct.of {E : ZE} {l : Launch} {y : MethodName} {cc : ByteArray} {nL : Nat} {ret : Option FieldType} {d : Nat} {av : List ZV} {rk : Nat} {σ : ZS} {O : Option (Int × ZS)} (hy : plainName y.cls = true) (hE : zOkE E) (hsl : zsl av ≤ nL)
    (body : ∀ (X : ZX) (G : Prop), (G → ZOk X cc y.cls d) → (G → zRet X ret) → (G → (xM X).name = y.name) → xE X = E → xl X = l → xn X = nL → xk X = rk → x0 X = σ → Zj X G 0 (zarg 0 av) [] σ O) : Ct E l y cc nL ret d av rk σ O := by
  intro v σ' hO hw hav
  constructor
  · rintro ⟨p, l0, e, R, s, m, args, below, meth, c, E0, σ0, n0, k0, Q0⟩
    exact (body (p, l, e, R, s, m, args, below, meth, c, E, σ, nL, rk, Q0) False (fun h => h.elim) (fun h => h.elim) (fun h => h.elim) rfl rfl rfl rfl rfl v σ' hO hw (zargOk 0 av hav) (fun q hq => by cases hq) (Nat.le_refl _) (Nat.le_refl _)).1
  refine Met.ofW (cc := cc) (maxL := nL) (ret := ret) hy rfl ?_
  intro p e s m args below meth c s₁ B hml hP
  obtain ⟨rfl, hrep, hK, hK2, hB⟩ := hP
  have hts := atoms_spec (ws := .code y cc nL ret :: zT) B.pre
  let X : ZX := (p, l, e, zRm d (sN σ' - sN σ) (sT σ' - sT σ), s, m, (zvs (eR E) av).toArray, below, meth, c, E, σ, nL, rk, fun v τ => MQ below (zQc E rk v τ) (zvs (eR E) av).toArray s (sN τ - sN σ) (sT τ - sT σ) (zA E))
  have hX : ZOk X cc y.cls d := ⟨B.exec, B.bytes, hml, findClass_of_methodNamed B.named, fun w h => hts w (List.mem_cons_of_mem _ h), hK, hE, hB, B.notSynchronized, Nat.le_refl _, Nat.le_refl _, hK2⟩
  have hR : zRet X ret := ⟨B.returns, fun _ _ => rfl⟩
  have hZ := (body X True (fun _ => hX) (fun _ => hR) (fun _ => (name_of_methodNamed B.named B.method).1) rfl rfl rfl rfl rfl v σ' hO hw (zargOk 0 av hav) (fun q hq => by cases hq) (Nat.le_refl _) (Nat.le_refl _)).2 trivial ⟨Nat.le_refl _, Nat.le_refl _⟩
  have hl := lv_entry (zvs (eR E) av) (n := nL) (by rw [zsl_ok]; exact hsl)
  rw [zarg_ok] at hl
  rw [lg_entry_eq]
  have := hZ s.heap [] _ hrep va_S.rf hl
  have e1 : sN σ - sN (x0 X) = 0 := Nat.sub_self _
  have e2 : sT σ - sT (x0 X) = 0 := Nat.sub_self _
  rw [e1, e2] at this
  exact this
section ZC
variable {X : ZX} {G : Prop} {cc : ByteArray} {own : String} {d pc : Nat} {lv lv' : List (Nat × ZV)} {st : List ZV} {σ : ZS}
/-! answers -/
theorem z_retQ {H : Heap} {locs : List Loc} {v : Int} (hr : zRep (xE X) σ H) (hS : va_S (zA (xE X)) (xs X).heap H locs) (ov : Option Value) (ho : ov = rkV (eR (xE X)) (xk X) v) : (∀ t : State, t.heap = H → (xs X).WarmedH t.vm → zQc (xE X) (xk X) v σ (xa X) (xs X) (.returned ov) t) ∧ ∀ q ∈ locs, zA (xE X) q.base :=
  ⟨fun t ht _ => ⟨by rw [ho], by rw [ht]; exact hr, hS.F ht⟩, hS.2.2⟩
theorem z_iret (hX : G → ZOk X cc own d) (hR : G → zRet X (some .int)) (hk : xk X = 1) (hd : decode cc pc = .ok (.ireturn, 1)) {v : Int} : Zj X G pc lv [(0, v)] σ (some (v, σ)) := by
  intro v' σ' hO hw hl hs h1 h2
  cases hO
  refine ⟨⟨hw, Nat.le_refl _, Nat.le_refl _, by rw [hk]; exact hs.hd⟩, fun g hr0 H locs ls hr hS hls => ?_⟩
  obtain ⟨q1, q2⟩ := z_retQ hr hS (some (zV (eR (xE X)) (0, v))) (v := v) (by rw [hk]; rfl)
  rw [(hR g).2]
  exact W.iret (hX g).1 (hX g).2.1 (hR g).1 q1 q2 hd (hX g).2.2.2.2.2.2.2.2.1
theorem z_zret (hX : G → ZOk X cc own d) (hR : G → zRet X (some .boolean)) (hk : xk X = 4) (hd : decode cc pc = .ok (.ireturn, 1)) {v : Int} (hv : v = 0 ∨ v = 1) : Zj X G pc lv [(0, v)] σ (some (v, σ)) := by
  intro v' σ' hO hw hl hs h1 h2
  cases hO
  refine ⟨⟨hw, Nat.le_refl _, Nat.le_refl _, by rw [hk]; exact hv⟩, fun g hr0 H locs ls hr hS hls => ?_⟩
  obtain ⟨q1, q2⟩ := z_retQ hr hS (some (zV (eR (xE X)) (0, v))) (v := v) (by rw [hk]; rfl)
  rw [(hR g).2]
  exact W.zret (hX g).1 (hX g).2.1 (hR g).1 (by rcases hv with rfl | rfl <;> rfl) q1 q2 hd (hX g).2.2.2.2.2.2.2.2.1
theorem z_narC {v : Int} (hv : 0 ≤ v ∧ v < 65536) : narrow .char (.int (Int32.ofInt v)) = .int (Int32.ofInt v) := by
  obtain ⟨n, rfl⟩ := Int.eq_ofNat_of_zero_le hv.1
  have hn : n < 65536 := by omega
  show Value.int (Int32.ofInt (n : Int)).toUInt32.toUInt16.toUInt32.toInt32 = _
  congr 1
  apply Int32.toBitVec_inj.mp
  apply BitVec.eq_of_toNat_eq
  have e : (Int32.ofInt (n : Int)).toBitVec.toNat = n := by
    show (BitVec.ofInt 32 (n : Int)).toNat = n
    rw [BitVec.toNat_ofInt]
    omega
  have e2 : ((Int32.ofInt (n : Int)).toUInt32.toUInt16.toUInt32.toInt32).toBitVec.toNat = (Int32.ofInt (n : Int)).toBitVec.toNat % 65536 := by
    simp
  rw [e2, e]
  omega
theorem z_cret (hX : G → ZOk X cc own d) (hR : G → zRet X (some .char)) (hk : xk X = 5) (hd : decode cc pc = .ok (.ireturn, 1)) {v : Int} (hv0 : 0 ≤ v ∧ v < 65536) : Zj X G pc lv [(0, v)] σ (some (v, σ)) := by
  intro v' σ' hO hw hl hs h1 h2
  cases hO
  have hv := z_narC hv0
  refine ⟨⟨hw, Nat.le_refl _, Nat.le_refl _, by rw [hk]; exact hv0⟩, fun g hr0 H locs ls hr hS hls => ?_⟩
  obtain ⟨q1, q2⟩ := z_retQ hr hS (some (zV (eR (xE X)) (0, v))) (v := v) (by rw [hk]; rfl)
  rw [(hR g).2]
  exact W.zret (hX g).1 (hX g).2.1 (hR g).1 hv q1 q2 hd (hX g).2.2.2.2.2.2.2.2.1
theorem z_lret (hX : G → ZOk X cc own d) (hR : G → zRet X (some .long)) (hk : xk X = 2) (hd : decode cc pc = .ok (.lreturn, 1)) {v : Int} : Zj X G pc lv [(1, v)] σ (some (v, σ)) := by
  intro v' σ' hO hw hl hs h1 h2
  cases hO
  refine ⟨⟨hw, Nat.le_refl _, Nat.le_refl _, by rw [hk]; exact hs.hd⟩, fun g hr0 H locs ls hr hS hls => ?_⟩
  obtain ⟨q1, q2⟩ := z_retQ hr hS (some (zV (eR (xE X)) (1, v))) (v := v) (by rw [hk]; rfl)
  rw [(hR g).2]
  exact W.lret (hX g).1 (hX g).2.1 (hR g).1 q1 q2 hd (hX g).2.2.2.2.2.2.2.2.1
theorem z_vret (hX : G → ZOk X cc own d) (hR : G → zRet X none) (hk : xk X = 0) (hd : decode cc pc = .ok (.return_, 1)) : Zj X G pc lv [] σ (some (0, σ)) := by
  intro v' σ' hO hw hl hs h1 h2
  cases hO
  refine ⟨⟨hw, Nat.le_refl _, Nat.le_refl _, by rw [hk]; exact trivial⟩, fun g hr0 H locs ls hr hS hls => ?_⟩
  obtain ⟨q1, q2⟩ := z_retQ hr hS none (v := 0) (by rw [hk]; rfl)
  rw [(hR g).2]
  exact W.vret (hX g).1 (hX g).2.1 (hR g).1 q1 q2 hd (hX g).2.2.2.2.2.2.2.2.1
theorem z_aret (hX : G → ZOk X cc own d) {rt : FieldType} (hR : G → zRet X (some rt)) (hrt : (∃ n, rt = .object n) ∨ ∃ t, rt = .array t) (hk : xk X = 3) (hd : decode cc pc = .ok (.areturn, 1)) {v : Int} : Zj X G pc lv [(2, v)] σ (some (v, σ)) := by
  intro v' σ' hO hw hl hs h1 h2
  cases hO
  refine ⟨⟨hw, Nat.le_refl _, Nat.le_refl _, by rw [hk]; exact hs.hd⟩, fun g hr0 H locs ls hr hS hls => ?_⟩
  obtain ⟨q1, q2⟩ := z_retQ hr hS (some (zV (eR (xE X)) (2, v))) (v := v) (by rw [hk]; rfl)
  rw [(hR g).2]
  refine W.aret (hX g).1 (hX g).2.1 (hR g).1 hrt ?_ q1 q2 hd (hX g).2.2.2.2.2.2.2.2.1
  by_cases h : v < 0
  · exact Or.inl (zV_null h)
  · exact Or.inr ⟨_, zV_ref h⟩
/-! calls -/
theorem zAO.moved {t : FieldType} {u U : State} (hvm : u.vm.Alike U.vm) (h : zAO (.array t) u) : zAO (.array t) U := by
  obtain ⟨comp, cA, kA, h1, h2, h3, h4, h5⟩ := arrayOverA_spec (args := #[]) (first := u) (s := u) (o := none) (idx := []) h
  obtain ⟨k', hk', he⟩ := hvm.2.2 _ _ h3
  have hi : (U.vm.classes.findIdx? fun (x : Class) => match x.kind with | .array component _ => component == comp | _ => false) = some cA := by
    have e1 := va_idx_bare U.vm comp
    have e2 := va_idx_bare u.vm comp
    have e3 : U.vm.bare = u.vm.bare := by first | exact hvm.bare_eq | exact hvm.bare_eq.symm
    rw [e3] at e1
    exact e1.symm.trans (e2.trans h2)
  have hkind : k'.kind = .array comp (.array t) := by rw [he]; exact h4
  have f1 : U.vm.findClass (FieldType.array t).toString = some comp := by rw [hvm.findClass]; exact h1
  have f2 : U.vm.findClass ("[" ++ (FieldType.array t).toString) = some cA := by rw [hvm.findClass]; exact h5
  unfold zAO Cond.before Cond.holds
  simp only [Cond.value]
  rw [f1, Option.bind_some]
  refine (congrArg (fun o : Option Nat => (o.bind (fun c => (U.vm.classes[c]?).map fun (k : Class) => match k.kind with | .array _ ty => decide (ty = FieldType.array t) && decide (U.vm.findClass ("[" ++ (FieldType.array t).toString) = some c) | _ => false) == some true)) hi).trans ?_
  simp [hk', hkind, f2]
theorem zK2.to {E : ZE} {s U : State} (hW : s.WarmedH U.vm) (hq : ∀ q : Nat, q < s.heap.size → ¬ zA E q → U.heap[q]? = s.heap[q]?) (h : zK2 E s) : zK2 E U := by
  obtain ⟨⟨a1, a2, a3, a4⟩, b1, b2, ⟨c1, c2, c3⟩, ⟨d1, d2⟩, e1, f1, f2, f3, f4, g1⟩ := h
  have hA := hW.alike
  exact ⟨⟨a1.moved hA, a2.moved hA, a3.moved hA, a4.moved hA⟩, fun q h => va_Nw.warmC hW (b1 q h), fun q h => (b2 q h).moved hA, ⟨va_Nw.warmM hW c1, va_Nw.warmM hW c2, va_Nw.warmM hW c3⟩, ⟨d1.warm hW, d2.warm hW⟩, (vk_S.moved hA e1).kept hq, (va_Z.moved hA f1).kept hq, (va_Z.moved hA f2).kept hq, (va_Z.moved hA f3).kept hq, (va_Z.moved hA f4).kept hq, fun i hi => by
    obtain ⟨k, comp, h1, h2⟩ := g1 i hi
    obtain ⟨k', hk', he⟩ := hA.2.2 _ _ h1
    exact ⟨k', comp, hk', by rw [he]; exact h2⟩⟩
end ZC
