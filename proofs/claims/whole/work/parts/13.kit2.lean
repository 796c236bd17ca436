/-! last rows of the kit: shifts, chars, bytes, ways' fields, kinds -/
section ZY
variable {X : ZX} {G : Prop} {cc : ByteArray} {own : String} {d pc : Nat} {lv lv' : List (Nat × ZV)} {st : List ZV} {σ : ZS} {O O1 O2 : Option (Int × ZS)}
def iShr (a b : Int) : Int := (Int32.ofInt a >>> (Int32.ofInt b &&& 31)).toInt
def iUshr (a b : Int) : Int := ((Int32.ofInt a).toUInt32 >>> ((Int32.ofInt b).toUInt32 &&& Int32.toUInt32 31)).toInt32.toInt
theorem z_ishr (hX : G → ZOk X cc own d) {x y : Int} (hd : decode cc pc = .ok (.ishr, 1)) (k : Zj X G (pc + 1) lv ((0, iShr x y) :: st) σ O) : Zj X G pc lv ((0, y) :: (0, x) :: st) σ O :=
  z_stk (fun _ _ hs => hs.tl.tl.c0 (z_inR _)) (fun g _ _ _ _ _ _ _ _ _ _ _ _ w => lv_ishr (hX g).1 (hX g).2.1 hd (by
    have e : Int32.ofInt x >>> (Int32.ofInt y &&& 31) = Int32.ofInt (iShr x y) := (z_ofToInt _).symm
    rw [e]; exact w)) k
theorem z_iushr (hX : G → ZOk X cc own d) {x y : Int} (hd : decode cc pc = .ok (.iushr, 1)) (k : Zj X G (pc + 1) lv ((0, iUshr x y) :: st) σ O) : Zj X G pc lv ((0, y) :: (0, x) :: st) σ O :=
  z_stk (fun _ _ hs => hs.tl.tl.c0 (z_inR _)) (fun g _ _ _ _ _ _ _ _ _ _ _ _ w => lv_iushr (v := Int32.ofInt (iUshr x y)) (hX g).1 (hX g).2.1 hd (z_ofToInt _).symm w) k
theorem z_ldc_w (hX : G → ZOk X cc own d) {i : Nat} {n : Int} {v : Int32} (hd : decode cc pc = .ok (.ldc_w i, 3)) (hw : Cond.constant own i v ∈ zT) (hv : v = Int32.ofInt n) (k : Zj X G (pc + 3) lv ((0, n) :: st) σ O) (hn : zInR n := by exact ⟨by decide, by decide⟩) : Zj X G pc lv st σ O :=
  z_stk (fun _ _ hs => hs.c0 hn) (fun g _ _ _ _ _ _ _ _ _ _ _ _ w => lv_ldcw (hX g).1 (hX g).2.1 (hX g).2.2.2.1 ((hX g).2.2.2.2.1 _ hw) hd (by rw [hv]; exact w)) k
theorem iC_in (a : Int) : 0 ≤ iC a ∧ iC a < 65536 := by
  unfold iC
  have h : ((Int32.ofInt a).toUInt32 % 65536).toNat < 65536 := by
    rw [UInt32.toNat_mod]
    exact Nat.mod_lt _ (by decide)
  generalize ((Int32.ofInt a).toUInt32 % 65536) = u at h ⊢
  have e : u.toInt32.toInt = (u.toNat : Int) := by
    show u.toBitVec.toInt = (u.toBitVec.toNat : Int)
    have h2 : u.toBitVec.toNat < 65536 := h
    rw [BitVec.toInt_eq_toNat_bmod]
    exact Int.bmod_eq_of_le_mul_two (by omega) (by omega)
  rw [e]
  omega
theorem z_bret (hX : G → ZOk X cc own d) (hR : G → zRet X (some .byte)) (hk : xk X = 1) (hd : decode cc pc = .ok (.ireturn, 1)) {v : Int} (hv : narrow .byte (.int (Int32.ofInt v)) = .int (Int32.ofInt v)) : Zj X G pc lv [(0, v)] σ (some (v, σ)) := by
  intro v' σ' hO hw hl hs h1 h2
  cases hO
  refine ⟨⟨hw, Nat.le_refl _, Nat.le_refl _, by rw [hk]; exact hs.hd⟩, fun g hr0 H locs ls hr hS hls => ?_⟩
  obtain ⟨q1, q2⟩ := z_retQ hr hS (some (zV (eR (xE X)) (0, v))) (v := v) (by rw [hk]; rfl)
  rw [(hR g).2]
  exact W.zret (hX g).1 (hX g).2.1 (hR g).1 hv q1 q2 hd (hX g).2.2.2.2.2.2.2.2.1
theorem z_kk {rk pc' : Nat} {stk : List ZV} {F : Option (Int × ZS)} {O : Int → ZS → Option (Int × ZS)}
    (h : (∀ (v1 : Int) (σ1 : ZS), zOkR (sN σ1) rk v1 → Zj X G pc' lv (rkS rk v1 ++ st) σ1 (O v1 σ1)) → Zj X G pc lv stk σ (zb F O))
    (kk : ∀ (v1 : Int) (σ1 : ZS), zOkR (sN σ1) rk v1 → Zj X G pc' lv (rkS rk v1 ++ st) σ1 (O v1 σ1)) : Zj X G pc lv stk σ (zb F O) := h kk
/-- a field of a way of any kind is written by its maker -/
theorem z_putw (hX : G → ZOk X cc own d) {T10 T9 T3 T0 T1 T7 : u_T} (h10 : zCls 10 RX10 T10 3) (h9 : zCls 9 RX9 T9 3) (h3 : zCls 3 RX3 T3 3) (h0 : zCls 0 RX0 T0 3) (h1 : zCls 1 RX1 T1 3) (h7 : zCls 7 RX7 T7 3) (k : Nat) (hk : k < 3) {idx : Nat} {ref n ds : String} (hl : Cond.fieldLink own idx ref n ds ∈ zT)
    (e10 : ((T10 k).1, (T10 k).2.1, (T10 k).2.2.1) = (ref, n, ds)) (e9 : ((T9 k).1, (T9 k).2.1, (T9 k).2.2.1) = (ref, n, ds)) (e3 : ((T3 k).1, (T3 k).2.1, (T3 k).2.2.1) = (ref, n, ds)) (e0 : ((T0 k).1, (T0 k).2.1, (T0 k).2.2.1) = (ref, n, ds)) (e1 : ((T1 k).1, (T1 k).2.1, (T1 k).2.2.1) = (ref, n, ds)) (e7 : ((T7 k).1, (T7 k).2.1, (T7 k).2.2.1) = (ref, n, ds))
    (hin : G → (xM X).name = "<init>") (hown : ref = own) {t : Nat} (ht : ztag (zoty 10 k) = t) (y9 : zoty 9 k = zoty 10 k) (y3 : zoty 3 k = zoty 10 k) (y0 : zoty 0 k = zoty 10 k) (y1 : zoty 1 k = zoty 10 k) (y7 : zoty 7 k = zoty 10 k) {ki : Int} (hki : ((k : Nat) : Int) = ki) {a v : Int}
    (hn : ∀ r, narrow (zoty 10 k) (zV r (t, v)) = zV r (t, v)) (hfit : ∀ r, fits (zoty 10 k) (zV r (t, v)) = true) (hd : decode cc pc = .ok (.putfield idx, 3)) {O : ZS → Option (Int × ZS)}
    (kk : Zj X G (pc + 3) lv st (upM σ a ki v) (O (upM σ a ki v))) : Zj X G pc lv ((t, v) :: (2, a) :: st) σ ((zpw σ a ki v).bind O) := by
  have key : ∀ (c : Int) (C : String) (T : u_T), zCls c C T 3 → ((T k).1, (T k).2.1, (T k).2.2.1) = (ref, n, ds) → zoty c k = zoty 10 k → sK σ a = c → 3 ≤ a → Zj X G pc lv ((t, v) :: (2, a) :: st) σ (O (upM σ a ki v)) := by
    intro c C T hc e hy hka ha
    injection e with e1 e2
    injection e2 with e2 e3
    have := z_put (t := t) hX hc k hk (by rw [e1, e2, e3]; exact hl) (Or.inr ⟨hin, e1.trans hown⟩) (by rw [hy]; exact ht) hki (a := a) (v := v) (by rw [hy]; exact hn) (by rw [hy]; exact hfit) hd (O := O) kk
    unfold zp at this
    rw [if_pos ⟨hka, ha⟩] at this
    exact this
  unfold zpw
  split
  · rename_i h
    obtain ⟨h, ha⟩ := h
    rcases h with h | h | h | h | h | h
    · exact key 10 _ _ h10 e10 rfl h ha
    · exact key 9 _ _ h9 e9 y9 h ha
    · exact key 3 _ _ h3 e3 y3 h ha
    · exact key 0 _ _ h0 e0 y0 h ha
    · exact key 1 _ _ h1 e1 y1 h ha
    · exact key 7 _ _ h7 e7 y7 h ha
  · exact z_none
end ZY
