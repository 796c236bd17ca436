/-! bits: masks of sixteen, their lowest bit, how many they are -/
theorem bi_toInt {x : Int32} {n : Nat} (h : x.toBitVec.toNat = n) (hn : n < 2147483648) : x.toInt = (n : Int) := by
  show x.toBitVec.toInt = (n : Int)
  rw [BitVec.toInt_eq_toNat_bmod, h]
  exact Int.bmod_eq_of_le_mul_two (by omega) (by omega)
theorem bi_ofInt (a : Int) : (Int32.ofInt a).toBitVec.toNat = (a % 4294967296).toNat := by
  show (BitVec.ofInt 32 a).toNat = _
  rw [BitVec.toNat_ofInt]
  rfl
theorem bi_ofNat {a : Nat} (h : a < 4294967296) : (Int32.ofInt (a : Int)).toBitVec.toNat = a := by
  rw [bi_ofInt]; omega
theorem iAnd_n {a b : Nat} (ha : a < 2147483648) (hb : b < 2147483648) : iAnd (a : Int) (b : Int) = ((a &&& b : Nat) : Int) := by
  unfold iAnd
  refine bi_toInt ?_ (Nat.lt_of_le_of_lt Nat.and_le_left ha)
  rw [Int32.toBitVec_and, BitVec.toNat_and, bi_ofNat (by omega), bi_ofNat (by omega)]
theorem iOr_n {a b : Nat} (ha : a < 65536) (hb : b < 65536) : iOr (a : Int) (b : Int) = ((a ||| b : Nat) : Int) := by
  unfold iOr
  have h : a ||| b < 2 ^ 16 := Nat.or_lt_two_pow ha hb
  refine bi_toInt ?_ (by omega)
  rw [Int32.toBitVec_or, BitVec.toNat_or, bi_ofNat (by omega), bi_ofNat (by omega)]
theorem iAnd_neg {m : Nat} (h0 : 0 < m) (h : m < 65536) : iAnd (m : Int) (wrap (-(m : Int))) = ((m &&& (4294967296 - m) : Nat) : Int) := by
  unfold iAnd
  refine bi_toInt ?_ (Nat.lt_of_le_of_lt Nat.and_le_left (by omega))
  rw [Int32.toBitVec_and, BitVec.toNat_and, bi_ofNat (by omega), bi_ofInt]
  congr 1
  unfold wrap
  omega
theorem iAnd_pred {m : Nat} (h : m < 65536) : iAnd (m : Int) (wrap ((m : Int) - 1)) = ((m &&& (m - 1) : Nat) : Int) := by
  rcases Nat.eq_zero_or_pos m with rfl | h0
  · decide +kernel
  have e : wrap ((m : Int) - 1) = ((m - 1 : Nat) : Int) := by rw [wrap_id ⟨by omega, by omega⟩]; omega
  rw [e]
  exact iAnd_n (by omega) (by omega)
theorem iShl_one : ∀ r : Nat, r < 17 → iShl 1 (r : Int) = ((2 ^ r : Nat) : Int) := by decide +kernel
theorem bi_ushr : ∀ k : Nat, k < 32 → (((Int32.ofInt (k : Int)).toUInt32 &&& Int32.toUInt32 31).toBitVec % 32).toNat = k := by decide +kernel
theorem iUshr_n {a k : Nat} (ha : a < 2147483648) (hk : k < 32) : iUshr (a : Int) (k : Int) = ((a >>> k : Nat) : Int) := by
  unfold iUshr
  have hle : a >>> k ≤ a := Nat.shiftRight_le a k
  refine bi_toInt ?_ (by omega)
  rw [pk_ushr _ _ k (bi_ushr k hk), bi_ofNat (by omega), Nat.shiftRight_eq_div_pow]
def low : Nat → Nat → Nat
  | 0, _ => 0
  | k + 1, m => if m % 2 = 1 then 0 else low k (m / 2) + 1
def popc : Nat → Nat → Nat
  | 0, _ => 0
  | k + 1, m => m % 2 + popc k (m / 2)
def swar1 (n : Nat) : Nat := n - ((n >>> 1) &&& 1431655765)
def swar2 (n : Nat) : Nat := (n &&& 858993459) + ((n >>> 2) &&& 858993459)
def swar3 (n : Nat) : Nat := (n + (n >>> 4)) &&& 252645135
def swar4 (n : Nat) : Nat := n + (n >>> 8)
def swar5 (n : Nat) : Nat := (n + (n >>> 16)) &&& 63
def swar (n : Nat) : Nat := swar5 (swar4 (swar3 (swar2 (swar1 n))))
def allB (f : Nat → Bool) : Nat → Bool
  | 0 => true
  | n + 1 => f n && allB f n
theorem allB_spec {f : Nat → Bool} : ∀ {n : Nat}, allB f n = true → ∀ k, k < n → f k = true
  | 0, _, k, hk => absurd hk (Nat.not_lt_zero k)
  | n + 1, h, k, hk => by
    have h : (f n && allB f n) = true := h
    rw [Bool.and_eq_true] at h
    rcases Nat.lt_or_eq_of_le (Nat.le_of_lt_succ hk) with h1 | h1
    · exact allB_spec h.2 k h1
    · rw [h1]; exact h.1
def bck (m : Nat) : Bool := Nat.beq (swar m) (popc 16 m) && (Nat.beq m 0 || (Nat.blt (low 16 m) 16 && (Nat.beq (m &&& (4294967296 - m)) (2 ^ low 16 m) && (Nat.beq (m &&& (m - 1)) (m ^^^ (2 ^ low 16 m)) && (Nat.beq (m % 2 ^ low 16 m) 0 && Nat.testBit m (low 16 m))))))
theorem bck_0 : allB (fun a => allB (fun b => bck (256 * (0 + a) + b)) 256) 16 = true := by decide +kernel
theorem bck_1 : allB (fun a => allB (fun b => bck (256 * (16 + a) + b)) 256) 16 = true := by decide +kernel
theorem bck_2 : allB (fun a => allB (fun b => bck (256 * (32 + a) + b)) 256) 16 = true := by decide +kernel
theorem bck_3 : allB (fun a => allB (fun b => bck (256 * (48 + a) + b)) 256) 16 = true := by decide +kernel
theorem bck_4 : allB (fun a => allB (fun b => bck (256 * (64 + a) + b)) 256) 16 = true := by decide +kernel
theorem bck_5 : allB (fun a => allB (fun b => bck (256 * (80 + a) + b)) 256) 16 = true := by decide +kernel
theorem bck_6 : allB (fun a => allB (fun b => bck (256 * (96 + a) + b)) 256) 16 = true := by decide +kernel
theorem bck_7 : allB (fun a => allB (fun b => bck (256 * (112 + a) + b)) 256) 16 = true := by decide +kernel
theorem bck_8 : allB (fun a => allB (fun b => bck (256 * (128 + a) + b)) 256) 16 = true := by decide +kernel
theorem bck_9 : allB (fun a => allB (fun b => bck (256 * (144 + a) + b)) 256) 16 = true := by decide +kernel
theorem bck_10 : allB (fun a => allB (fun b => bck (256 * (160 + a) + b)) 256) 16 = true := by decide +kernel
theorem bck_11 : allB (fun a => allB (fun b => bck (256 * (176 + a) + b)) 256) 16 = true := by decide +kernel
theorem bck_12 : allB (fun a => allB (fun b => bck (256 * (192 + a) + b)) 256) 16 = true := by decide +kernel
theorem bck_13 : allB (fun a => allB (fun b => bck (256 * (208 + a) + b)) 256) 16 = true := by decide +kernel
theorem bck_14 : allB (fun a => allB (fun b => bck (256 * (224 + a) + b)) 256) 16 = true := by decide +kernel
theorem bck_15 : allB (fun a => allB (fun b => bck (256 * (240 + a) + b)) 256) 16 = true := by decide +kernel
theorem bck_at {m : Nat} (h : m < 65536) : bck m = true := by
  have hb : m % 256 < 256 := by omega
  by_cases h0 : m / 256 < 16
  · have := allB_spec (allB_spec bck_0 (m / 256 - 0) (by omega)) (m % 256) hb
    rwa [show 256 * (0 + (m / 256 - 0)) + m % 256 = m by omega] at this
  by_cases h1 : m / 256 < 32
  · have := allB_spec (allB_spec bck_1 (m / 256 - 16) (by omega)) (m % 256) hb
    rwa [show 256 * (16 + (m / 256 - 16)) + m % 256 = m by omega] at this
  by_cases h2 : m / 256 < 48
  · have := allB_spec (allB_spec bck_2 (m / 256 - 32) (by omega)) (m % 256) hb
    rwa [show 256 * (32 + (m / 256 - 32)) + m % 256 = m by omega] at this
  by_cases h3 : m / 256 < 64
  · have := allB_spec (allB_spec bck_3 (m / 256 - 48) (by omega)) (m % 256) hb
    rwa [show 256 * (48 + (m / 256 - 48)) + m % 256 = m by omega] at this
  by_cases h4 : m / 256 < 80
  · have := allB_spec (allB_spec bck_4 (m / 256 - 64) (by omega)) (m % 256) hb
    rwa [show 256 * (64 + (m / 256 - 64)) + m % 256 = m by omega] at this
  by_cases h5 : m / 256 < 96
  · have := allB_spec (allB_spec bck_5 (m / 256 - 80) (by omega)) (m % 256) hb
    rwa [show 256 * (80 + (m / 256 - 80)) + m % 256 = m by omega] at this
  by_cases h6 : m / 256 < 112
  · have := allB_spec (allB_spec bck_6 (m / 256 - 96) (by omega)) (m % 256) hb
    rwa [show 256 * (96 + (m / 256 - 96)) + m % 256 = m by omega] at this
  by_cases h7 : m / 256 < 128
  · have := allB_spec (allB_spec bck_7 (m / 256 - 112) (by omega)) (m % 256) hb
    rwa [show 256 * (112 + (m / 256 - 112)) + m % 256 = m by omega] at this
  by_cases h8 : m / 256 < 144
  · have := allB_spec (allB_spec bck_8 (m / 256 - 128) (by omega)) (m % 256) hb
    rwa [show 256 * (128 + (m / 256 - 128)) + m % 256 = m by omega] at this
  by_cases h9 : m / 256 < 160
  · have := allB_spec (allB_spec bck_9 (m / 256 - 144) (by omega)) (m % 256) hb
    rwa [show 256 * (144 + (m / 256 - 144)) + m % 256 = m by omega] at this
  by_cases h10 : m / 256 < 176
  · have := allB_spec (allB_spec bck_10 (m / 256 - 160) (by omega)) (m % 256) hb
    rwa [show 256 * (160 + (m / 256 - 160)) + m % 256 = m by omega] at this
  by_cases h11 : m / 256 < 192
  · have := allB_spec (allB_spec bck_11 (m / 256 - 176) (by omega)) (m % 256) hb
    rwa [show 256 * (176 + (m / 256 - 176)) + m % 256 = m by omega] at this
  by_cases h12 : m / 256 < 208
  · have := allB_spec (allB_spec bck_12 (m / 256 - 192) (by omega)) (m % 256) hb
    rwa [show 256 * (192 + (m / 256 - 192)) + m % 256 = m by omega] at this
  by_cases h13 : m / 256 < 224
  · have := allB_spec (allB_spec bck_13 (m / 256 - 208) (by omega)) (m % 256) hb
    rwa [show 256 * (208 + (m / 256 - 208)) + m % 256 = m by omega] at this
  by_cases h14 : m / 256 < 240
  · have := allB_spec (allB_spec bck_14 (m / 256 - 224) (by omega)) (m % 256) hb
    rwa [show 256 * (224 + (m / 256 - 224)) + m % 256 = m by omega] at this
  by_cases h15 : m / 256 < 256
  · have := allB_spec (allB_spec bck_15 (m / 256 - 240) (by omega)) (m % 256) hb
    rwa [show 256 * (240 + (m / 256 - 240)) + m % 256 = m by omega] at this
  omega
theorem swar_eq {m : Nat} (h : m < 65536) : swar m = popc 16 m := by
  have := bck_at h
  unfold bck at this
  rw [Bool.and_eq_true] at this
  exact Nat.eq_of_beq_eq_true this.1
theorem low_facts {m : Nat} (h : m < 65536) (h0 : m ≠ 0) : low 16 m < 16 ∧ m &&& (4294967296 - m) = 2 ^ low 16 m ∧ m &&& (m - 1) = m ^^^ (2 ^ low 16 m) ∧ m % 2 ^ low 16 m = 0 ∧ m.testBit (low 16 m) = true := by
  have := bck_at h
  unfold bck at this
  simp only [Bool.and_eq_true, Bool.or_eq_true, Nat.beq_eq] at this
  rcases this.2 with h1 | ⟨h1, h2, h3, h4, h5⟩
  · exact absurd h1 h0
  · exact ⟨Nat.le_of_ble_eq_true h1, h2, h3, h4, h5⟩
