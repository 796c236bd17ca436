/-! small facts for the walks -/
theorem zn0 {v : Int} : ¬ ((0, v) : ZV).1 = 1 := by show ¬ (0 : Nat) = 1; decide
theorem zn2 {v : Int} : ¬ ((2, v) : ZV).1 = 1 := by show ¬ (2 : Nat) = 1; decide
theorem zn3 {v : Int} : ¬ ((3, v) : ZV).1 = 1 := by show ¬ (3 : Nat) = 1; decide
/-! the same rows, with the next state named -/
section ZQ
variable {X : ZX} {G : Prop} {cc : ByteArray} {own : String} {d pc : Nat} {lv lv' : List (Nat × ZV)} {st : List ZV} {σ : ZS}
theorem z_putA (hX : G → ZOk X cc own d) {c : Int} {C : String} {T : u_T} {N : Nat} (hc : zCls c C T N) (k : Nat) (hk : k < N) {idx : Nat} (hl : Cond.fieldLink own idx (T k).1 (T k).2.1 (T k).2.2.1 ∈ zT) (hf : (T k).2.2.2 = false ∨ ((G → (xM X).name = "<init>") ∧ (T k).1 = own)) {t : Nat} (ht : ztag (zoty c k) = t) {ki : Int} (hki : ((k : Nat) : Int) = ki) {a v : Int} (hn : ∀ r, narrow (zoty c k) (zV r (t, v)) = zV r (t, v)) (hfit : ∀ r, fits (zoty c k) (zV r (t, v)) = true) (hd : decode cc pc = .ok (.putfield idx, 3)) {O : ZS → Option (Int × ZS)}
    (kk : ∀ τ : ZS, Zj X G (pc + 3) lv st τ (O τ)) : Zj X G pc lv ((t, v) :: (2, a) :: st) σ ((zp σ c a ki v).bind O) := z_put hX hc k hk hl hf ht hki hn hfit hd (kk _)
theorem z_iastA (hX : G → ZOk X cc own d) (hd : decode cc pc = .ok (.iastore, 1)) {a i v : Int} {O : ZS → Option (Int × ZS)}
    (kk : ∀ τ : ZS, Zj X G (pc + 1) lv st τ (O τ)) : Zj X G pc lv ((0, v) :: (0, i) :: (2, a) :: st) σ ((zas σ 100 a i v).bind O) := z_iast hX hd (kk _)
theorem z_lastA (hX : G → ZOk X cc own d) (hd : decode cc pc = .ok (.lastore, 1)) {a i v : Int} {O : ZS → Option (Int × ZS)}
    (kk : ∀ τ : ZS, Zj X G (pc + 1) lv st τ (O τ)) : Zj X G pc lv ((1, v) :: (0, i) :: (2, a) :: st) σ ((zas σ 101 a i v).bind O) := z_last hX hd (kk _)
theorem z_aastA (hX : G → ZOk X cc own d) (t : Nat) (c : Int) (CN : String) (hc : 103 ≤ c) (ht : (zTys (xE X))[t]? = some (eC (xE X) c, zaty c)) (hz : zaty c = .object CN) (ok : Int → Bool)
    (hok : ∀ k : Int, ok k = true → ∃ (C : String) (T : u_T) (N : Nat), zCls k C T N ∧ (C = CN ∨ (C, CN) ∈ zCast))
    (hd : decode cc pc = .ok (.aastore, 1)) {a i v : Int} {O : ZS → Option (Int × ZS)}
    (kk : ∀ τ : ZS, Zj X G (pc + 1) lv st τ (O τ)) : Zj X G pc lv ((2, v) :: (0, i) :: (2, a) :: st) σ ((zar σ c a i ok v).bind O) := z_aast hX t c CN hc ht hz ok hok hd (kk _)
theorem z_putwA (hX : G → ZOk X cc own d) {T10 T9 T3 T0 T1 T7 : u_T} (h10 : zCls 10 RX10 T10 3) (h9 : zCls 9 RX9 T9 3) (h3 : zCls 3 RX3 T3 3) (h0 : zCls 0 RX0 T0 3) (h1 : zCls 1 RX1 T1 3) (h7 : zCls 7 RX7 T7 3) (k : Nat) (hk : k < 3) {idx : Nat} {ref n ds : String} (hl : Cond.fieldLink own idx ref n ds ∈ zT)
    (e10 : ((T10 k).1, (T10 k).2.1, (T10 k).2.2.1) = (ref, n, ds)) (e9 : ((T9 k).1, (T9 k).2.1, (T9 k).2.2.1) = (ref, n, ds)) (e3 : ((T3 k).1, (T3 k).2.1, (T3 k).2.2.1) = (ref, n, ds)) (e0 : ((T0 k).1, (T0 k).2.1, (T0 k).2.2.1) = (ref, n, ds)) (e1 : ((T1 k).1, (T1 k).2.1, (T1 k).2.2.1) = (ref, n, ds)) (e7 : ((T7 k).1, (T7 k).2.1, (T7 k).2.2.1) = (ref, n, ds))
    (hin : G → (xM X).name = "<init>") (hown : ref = own) {t : Nat} (ht : ztag (zoty 10 k) = t) (y9 : zoty 9 k = zoty 10 k) (y3 : zoty 3 k = zoty 10 k) (y0 : zoty 0 k = zoty 10 k) (y1 : zoty 1 k = zoty 10 k) (y7 : zoty 7 k = zoty 10 k) {ki : Int} (hki : ((k : Nat) : Int) = ki) {a v : Int}
    (hn : ∀ r, narrow (zoty 10 k) (zV r (t, v)) = zV r (t, v)) (hfit : ∀ r, fits (zoty 10 k) (zV r (t, v)) = true) (hd : decode cc pc = .ok (.putfield idx, 3)) {O : ZS → Option (Int × ZS)}
    (kk : ∀ τ : ZS, Zj X G (pc + 3) lv st τ (O τ)) : Zj X G pc lv ((t, v) :: (2, a) :: st) σ ((zpw σ a ki v).bind O) := z_putw hX h10 h9 h3 h0 h1 h7 k hk hl e10 e9 e3 e0 e1 e7 hin hown ht y9 y3 y0 y1 y7 hki hn hfit hd (kk _)
theorem z_newIA (hX : G → ZOk X cc own d) (hd : decode cc pc = .ok (.newarray .int, 2)) (hw : Cond.arrayClass .int ∈ zT) {n : Int} {O : ZS → Option (Int × ZS)}
    (kk : ∀ τ : ZS, Zj X G (pc + 2) lv ((2, (sN σ : Int)) :: st) τ (O τ)) : Zj X G pc lv ((0, n) :: st) σ ((zna σ 100 n).bind O) := z_newI hX hd hw (fun _ => kk _)
theorem z_newLA (hX : G → ZOk X cc own d) (hd : decode cc pc = .ok (.newarray .long, 2)) (hw : Cond.arrayClass .long ∈ zT) {n : Int} {O : ZS → Option (Int × ZS)}
    (kk : ∀ τ : ZS, Zj X G (pc + 2) lv ((2, (sN σ : Int)) :: st) τ (O τ)) : Zj X G pc lv ((0, n) :: st) σ ((zna σ 101 n).bind O) := z_newL hX hd hw (fun _ => kk _)
theorem z_newAA (hX : G → ZOk X cc own d) (t : Nat) (c : Int) {C : String} (hc : 103 ≤ c) (hc5 : c ≤ 105) (ht : (zTys (xE X))[t]? = some (eC (xE X) c, zaty c)) (hz : zaty c = .object C) {idx : Nat} (hd : decode cc pc = .ok (.anewarray idx, 3)) (hl : Cond.classLink own idx C ∈ zT) (hover : G → va_AO C (xs X)) {n : Int} {O : ZS → Option (Int × ZS)}
    (kk : ∀ τ : ZS, Zj X G (pc + 3) lv ((2, (sN σ : Int)) :: st) τ (O τ)) : Zj X G pc lv ((0, n) :: st) σ ((zna σ c n).bind O) := z_newA hX t c hc hc5 ht hz hd hl hover (fun _ => kk _)
end ZQ
/-! the greater and the lesser of two ints -/
def imax (x y : Int) : Int := if x < y then y else x
def imin (x y : Int) : Int := if y < x then y else x
section ZMM
variable {X : ZX} {G : Prop} {cc : ByteArray} {own : String} {d pc : Nat} {lv lv' : List (Nat × ZV)} {st : List ZV} {σ : ZS} {O : Option (Int × ZS)}
theorem z_max (hX : G → ZOk X cc own d) (hd1 : 1 ≤ d) {idx : Nat} (hl : Cond.methodLink own idx Lib.Math.max.name ∈ zT) (hst : Cond.static Lib.Math.max.name ∈ zT) (hini : Cond.initialized "java/lang/Math" ∈ zT) (hco : Cond.code Lib.Math.max.name Lib.Math.max.code 2 (some .int) ∈ zT) (hsl : zsl st ≤ 8) (hd : decode cc pc = .ok (.invokestatic idx, 3)) {x y : Int}
    (kk : Zj X G (pc + 3) lv ((0, imax x y) :: st) σ O) : Zj X G pc lv ((0, y) :: (0, x) :: st) σ O := by
  intro v σ' hO hw hl' hs h1 h2
  have hm : zInR (imax x y) := by
    unfold imax
    split
    · exact hs.hd
    · exact hs.tl.hd
  obtain ⟨⟨q1, q3, q4, q5⟩, q2⟩ := kk v σ' hO hw hl' (hs.tl.tl.c0 hm) h1 h2
  refine ⟨⟨q1, q3, q4, q5⟩, fun g hR H locs ls hr hS hls => ?_⟩
  have hX := hX g
  have hts := hX.2.2.2.2.1
  have f1 := hX.2.2.2.2.2.2.2.2.2.1
  have f2 := hX.2.2.2.2.2.2.2.2.2.2.1
  have hy : zInR y := hs.hd
  have hx : zInR x := hs.tl.hd
  refine va_mmax hX.1 hX.2.1 (by rw [hX.2.2.1]; exact hls.1.symm) hX.2.2.2.1 (hts _ hl) (hts _ hst) (hts _ hini) (hts _ hco) (by omega) (by have := zcat_sum (eR (xE X)) st; unfold zvs at this; omega) (by omega) (by omega) (x := Int32.ofInt x) (y := Int32.ofInt y) hd ?_
  have e : (if Int32.ofInt x < Int32.ofInt y then Int32.ofInt y else Int32.ofInt x) = Int32.ofInt (imax x y) := by
    unfold imax
    by_cases h : x < y
    · rw [if_pos h, if_pos ((z_lt hx hy).mpr h)]
    · rw [if_neg h, if_neg (fun q => h ((z_lt hx hy).mp q))]
  rw [e]
  exact q2 g hR H locs ls hr hS hls
theorem z_min (hX : G → ZOk X cc own d) (hd1 : 1 ≤ d) {idx : Nat} (hl : Cond.methodLink own idx Lib.Math.min.name ∈ zT) (hst : Cond.static Lib.Math.min.name ∈ zT) (hini : Cond.initialized "java/lang/Math" ∈ zT) (hco : Cond.code Lib.Math.min.name Lib.Math.min.code 2 (some .int) ∈ zT) (hsl : zsl st ≤ 8) (hd : decode cc pc = .ok (.invokestatic idx, 3)) {x y : Int}
    (kk : Zj X G (pc + 3) lv ((0, imin x y) :: st) σ O) : Zj X G pc lv ((0, y) :: (0, x) :: st) σ O := by
  intro v σ' hO hw hl' hs h1 h2
  have hm : zInR (imin x y) := by
    unfold imin
    split
    · exact hs.hd
    · exact hs.tl.hd
  obtain ⟨⟨q1, q3, q4, q5⟩, q2⟩ := kk v σ' hO hw hl' (hs.tl.tl.c0 hm) h1 h2
  refine ⟨⟨q1, q3, q4, q5⟩, fun g hR H locs ls hr hS hls => ?_⟩
  have hX := hX g
  have hts := hX.2.2.2.2.1
  have f1 := hX.2.2.2.2.2.2.2.2.2.1
  have f2 := hX.2.2.2.2.2.2.2.2.2.2.1
  have hy : zInR y := hs.hd
  have hx : zInR x := hs.tl.hd
  refine va_mmin hX.1 hX.2.1 (by rw [hX.2.2.1]; exact hls.1.symm) hX.2.2.2.1 (hts _ hl) (hts _ hst) (hts _ hini) (hts _ hco) (by omega) (by have := zcat_sum (eR (xE X)) st; unfold zvs at this; omega) (by omega) (by omega) (x := Int32.ofInt x) (y := Int32.ofInt y) hd ?_
  have e : (if Int32.ofInt y < Int32.ofInt x then Int32.ofInt y else Int32.ofInt x) = Int32.ofInt (imin x y) := by
    unfold imin
    by_cases h : y < x
    · rw [if_pos h, if_pos ((z_lt hy hx).mpr h)]
    · rw [if_neg h, if_neg (fun q => h ((z_lt hy hx).mp q))]
  rw [e]
  exact q2 g hR H locs ls hr hS hls
end ZMM
theorem Ct.none {E : ZE} {l : Launch} {y : MethodName} {cc : ByteArray} {nL : Nat} {ret : Option FieldType} {d : Nat} {av : List ZV} {rk : Nat} {σ : ZS} : Ct E l y cc nL ret d av rk σ none := fun _ _ h => by cases h
theorem zslF {E : ZE} (hE : zOkE E) (l : List ZV) {n : Nat} (h : zsl l + 1 ≤ n) : zsl (l ++ [eF E]) ≤ n := by
  have e : zsl (l ++ [eF E]) = zsl l + 1 := by
    unfold zsl
    rw [List.map_append, List.sum_append]
    rcases hE.2.2.2.2 with h | ⟨t, h⟩ <;> rw [h] <;> rfl
  omega
