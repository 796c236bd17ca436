/-! numbers -/
def wrap (x : Int) : Int := (x + 2147483648) % 4294967296 - 2147483648
def wrapL (x : Int) : Int := (x + 9223372036854775808) % 18446744073709551616 - 9223372036854775808
theorem wrap_in (x : Int) : zInR (wrap x) := by unfold zInR wrap; omega
theorem wrapL_in (x : Int) : zInL (wrapL x) := by unfold zInL wrapL; omega
theorem wrap_id {x : Int} (h : zInR x) : wrap x = x := by unfold zInR at h; unfold wrap; omega
theorem wrapL_id {x : Int} (h : zInL x) : wrapL x = x := by unfold zInL at h; unfold wrapL; omega
theorem z_toInt {x : Int} (h : zInR x) : (Int32.ofInt x).toInt = x := Int32.toInt_ofInt_of_le h.1 h.2
theorem z_toIntL {x : Int} (h : zInL x) : (Int64.ofInt x).toInt = x := Int64.toInt_ofInt_of_le h.1 h.2
theorem z_ofToInt (x : Int32) : Int32.ofInt x.toInt = x := Int32.ofInt_toInt x
theorem z_ofToIntL (x : Int64) : Int64.ofInt x.toInt = x := Int64.ofInt_toInt x
theorem z_inR (x : Int32) : zInR x.toInt := ⟨Int32.le_toInt x, Int32.toInt_lt x⟩
theorem z_inL (x : Int64) : zInL x.toInt := ⟨Int64.le_toInt x, Int64.toInt_lt x⟩
theorem z_toWrap (x : Int) : (Int32.ofInt x).toInt = wrap x := by
  rw [Int32.toInt_ofInt]
  unfold wrap Int.bmod
  simp only [Int32.size]
  omega
theorem z_toWrapL (x : Int) : (Int64.ofInt x).toInt = wrapL x := by
  rw [Int64.toInt_ofInt]
  unfold wrapL Int.bmod
  simp only [Int64.size]
  omega
theorem z_ofWrap (x : Int) : Int32.ofInt (wrap x) = Int32.ofInt x := by rw [← z_toWrap, z_ofToInt]
theorem z_ofWrapL (x : Int) : Int64.ofInt (wrapL x) = Int64.ofInt x := by rw [← z_toWrapL, z_ofToIntL]
theorem z_add (a b : Int) : Int32.ofInt a + Int32.ofInt b = Int32.ofInt (wrap (a + b)) := by rw [z_ofWrap, Int32.ofInt_add]
theorem z_sub (a b : Int) : Int32.ofInt a - Int32.ofInt b = Int32.ofInt (wrap (a - b)) := by rw [z_ofWrap, Int32.ofInt_sub]
theorem z_mul (a b : Int) : Int32.ofInt a * Int32.ofInt b = Int32.ofInt (wrap (a * b)) := by rw [z_ofWrap, Int32.ofInt_mul]
theorem z_neg (a : Int) : - Int32.ofInt a = Int32.ofInt (wrap (-a)) := by rw [z_ofWrap, Int32.ofInt_neg]
theorem z_addL (a b : Int) : Int64.ofInt a + Int64.ofInt b = Int64.ofInt (wrapL (a + b)) := by rw [z_ofWrapL, Int64.ofInt_add]
theorem z_subL (a b : Int) : Int64.ofInt a - Int64.ofInt b = Int64.ofInt (wrapL (a - b)) := by rw [z_ofWrapL, Int64.ofInt_sub]
theorem z_mulL (a b : Int) : Int64.ofInt a * Int64.ofInt b = Int64.ofInt (wrapL (a * b)) := by rw [z_ofWrapL, Int64.ofInt_mul]
theorem z_negL (a : Int) : - Int64.ofInt a = Int64.ofInt (wrapL (-a)) := by rw [z_ofWrapL, Int64.ofInt_neg]
theorem z_lt {a b : Int} (ha : zInR a) (hb : zInR b) : Int32.ofInt a < Int32.ofInt b ↔ a < b := by rw [Int32.lt_iff_toInt_lt, z_toInt ha, z_toInt hb]
theorem z_le {a b : Int} (ha : zInR a) (hb : zInR b) : Int32.ofInt a ≤ Int32.ofInt b ↔ a ≤ b := by rw [Int32.le_iff_toInt_le, z_toInt ha, z_toInt hb]
theorem z_eqI {a b : Int} (ha : zInR a) (hb : zInR b) : Int32.ofInt a = Int32.ofInt b ↔ a = b := by rw [← Int32.toInt_inj, z_toInt ha, z_toInt hb]
theorem z_ltL {a b : Int} (ha : zInL a) (hb : zInL b) : Int64.ofInt a < Int64.ofInt b ↔ a < b := by rw [Int64.lt_iff_toInt_lt, z_toIntL ha, z_toIntL hb]
theorem z_eqL {a b : Int} (ha : zInL a) (hb : zInL b) : Int64.ofInt a = Int64.ofInt b ↔ a = b := by rw [← Int64.toInt_inj, z_toIntL ha, z_toIntL hb]
/-- Java's quotient and rest -/
theorem z_div {a b : Int} (ha : zInR a) (hb : zInR b) : Int32.ofInt a / Int32.ofInt b = Int32.ofInt (wrap (a.tdiv b)) := by
  apply Int32.toInt_inj.mp
  rw [Int32.toInt_div, z_toInt ha, z_toInt hb, z_ofWrap, Int32.toInt_ofInt]
theorem z_tmodB (a b : Int) : (0 ≤ a → 0 ≤ a.tmod b ∧ a.tmod b ≤ a) ∧ (a < 0 → a ≤ a.tmod b ∧ a.tmod b ≤ 0) := by
  have h1 : (a.tmod b).natAbs ≤ a.natAbs := by rw [Int.natAbs_tmod]; exact Nat.mod_le _ _
  refine ⟨fun h => ?_, fun h => ?_⟩
  · have h2 := Int.tmod_nonneg b h
    omega
  · have h2 : 0 ≤ (-a).tmod b := Int.tmod_nonneg b (by omega)
    rw [Int.neg_tmod] at h2
    omega
theorem z_tmodIn {a b : Int} (ha : zInR a) : zInR (a.tmod b) := by
  unfold zInR at ha ⊢
  obtain ⟨h1, h2⟩ := z_tmodB a b
  rcases (by omega : a < 0 ∨ 0 ≤ a) with h | h
  · have := h2 h; omega
  · have := h1 h; omega
theorem z_tmodInL {a b : Int} (ha : zInL a) : zInL (a.tmod b) := by
  unfold zInL at ha ⊢
  obtain ⟨h1, h2⟩ := z_tmodB a b
  rcases (by omega : a < 0 ∨ 0 ≤ a) with h | h
  · have := h2 h; omega
  · have := h1 h; omega
theorem z_rem {a b : Int} (ha : zInR a) (hb : zInR b) : Int32.ofInt a - Int32.ofInt a / Int32.ofInt b * Int32.ofInt b = Int32.ofInt (a.tmod b) := by
  apply Int32.toInt_inj.mp
  rw [rem_toInt, z_toInt ha, z_toInt hb, z_toInt (z_tmodIn ha)]
theorem z_divL {a b : Int} (ha : zInL a) (hb : zInL b) : Int64.ofInt a / Int64.ofInt b = Int64.ofInt (wrapL (a.tdiv b)) := by
  apply Int64.toInt_inj.mp
  rw [Int64.toInt_div, z_toIntL ha, z_toIntL hb, z_ofWrapL, Int64.toInt_ofInt]
theorem z_remL {a b : Int} (ha : zInL a) (hb : zInL b) : Int64.ofInt a - Int64.ofInt a / Int64.ofInt b * Int64.ofInt b = Int64.ofInt (a.tmod b) := by
  have e : ∀ x y : Int64, x - x / y * y = x % y := fun x y => by
    apply Int64.toInt_inj.mp
    have h1 := Int64.le_toInt (x % y)
    have h2 := Int64.toInt_lt (x % y)
    rw [Int64.toInt_sub, Int64.toInt_mul, Int64.toInt_div, Int.bmod_mul_bmod, Int.sub_bmod_bmod, Int.mul_comm (x.toInt.tdiv y.toInt), ← Int.tmod_def, ← Int64.toInt_mod]
    exact Int.bmod_eq_of_le_mul_two (by omega) (by omega)
  rw [e]
  apply Int64.toInt_inj.mp
  rw [Int64.toInt_mod, z_toIntL ha, z_toIntL hb, z_toIntL (z_tmodInL ha)]
theorem z_i2l {a : Int} (ha : zInR a) : (Int32.ofInt a).toInt64 = Int64.ofInt a := by
  apply Int64.toInt_inj.mp
  rw [Int32.toInt_toInt64, z_toInt ha, z_toIntL]
  unfold zInR at ha; unfold zInL; omega
theorem z_l2i (a : Int) : (Int64.ofInt a).toInt32 = Int32.ofInt (wrap a) := by
  rw [z_ofWrap]
  first | exact Int64.toInt32_ofInt a | simp
def iAnd (a b : Int) : Int := (Int32.ofInt a &&& Int32.ofInt b).toInt
def iOr (a b : Int) : Int := (Int32.ofInt a ||| Int32.ofInt b).toInt
def iShl (a b : Int) : Int := (Int32.ofInt a <<< (Int32.ofInt b &&& 31)).toInt
def lAnd (a b : Int) : Int := (Int64.ofInt a &&& Int64.ofInt b).toInt
def lOr (a b : Int) : Int := (Int64.ofInt a ||| Int64.ofInt b).toInt
def lShl (a b : Int) : Int := (Int64.ofInt a <<< ((Int32.ofInt b).toInt64 &&& 63)).toInt
def lShr (a b : Int) : Int := (Int64.ofInt a >>> ((Int32.ofInt b).toInt64 &&& 63)).toInt
def iB (a : Int) : Int := (Int32.ofInt a).toInt8.toInt32.toInt
def iS (a : Int) : Int := (Int32.ofInt a).toInt16.toInt32.toInt
def iC (a : Int) : Int := ((Int32.ofInt a).toUInt32 % 65536).toInt32.toInt
def lCmp (a b : Int) : Int := if b < a then 1 else if a = b then 0 else -1
theorem lCmp_in (a b : Int) : zInR (lCmp a b) := by unfold lCmp zInR; split <;> (try split) <;> omega
