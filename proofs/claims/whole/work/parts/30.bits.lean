/-! lists of a mask's bits, bitCount -/
/-- the places of a mask's bits, from the lowest -/
def bitsL (m : Nat) : List Nat := (List.range 16).filter (fun r => m.testBit r)
theorem popc_len : ∀ (k m : Nat), popc k m = ((List.range k).filter (fun r => m.testBit r)).length
  | 0, m => rfl
  | k + 1, m => by
    rw [List.range_succ_eq_map, List.filter_cons]
    have e : ((List.map Nat.succ (List.range k)).filter (fun r => m.testBit r)).length = popc k (m / 2) := by
      rw [popc_len k (m / 2), List.filter_map, List.length_map]
      congr 1
      apply List.filter_congr
      intro r _
      simp only [Function.comp, Nat.succ_eq_add_one, Nat.testBit_succ]
    show m % 2 + popc k (m / 2) = _
    rw [← e]
    have hz : m.testBit 0 = decide (m % 2 = 1) := Nat.testBit_zero m
    rcases Nat.mod_two_eq_zero_or_one m with h | h
    · have : m.testBit 0 = false := by rw [hz, h]; rfl
      rw [this, h]; simp
    · have : m.testBit 0 = true := by rw [hz, h]; rfl
      rw [this, h]; simp [Nat.add_comm]
theorem bitsL_nil : bitsL 0 = [] := by
  unfold bitsL
  rw [List.filter_eq_nil_iff]
  intro r _
  simp
theorem bitsL_mem {m r : Nat} : r ∈ bitsL m ↔ r < 16 ∧ m.testBit r = true := by
  unfold bitsL
  rw [List.mem_filter, List.mem_range]
theorem range_split (f : Nat → Bool) {l n : Nat} (hl : l < n) (h0 : ∀ r, r < l → f r = false) (h1 : f l = true) : (List.range n).filter f = l :: (List.range n).filter (fun r => f r && !decide (r = l)) := by
  obtain ⟨k, rfl⟩ : ∃ k, n = l + (1 + k) := ⟨n - l - 1, by omega⟩
  rw [List.range_add, List.filter_append, List.filter_append]
  have e1 : (List.range l).filter f = [] := List.filter_eq_nil_iff.mpr fun r hr => by rw [h0 r (List.mem_range.mp hr)]; decide
  have e2 : (List.range l).filter (fun r => f r && !decide (r = l)) = [] := List.filter_eq_nil_iff.mpr fun r hr => by simp [h0 r (List.mem_range.mp hr)]
  rw [e1, e2, List.nil_append, List.nil_append, Nat.add_comm 1 k, List.range_succ_eq_map, List.map_cons, List.filter_cons, List.filter_cons, Nat.add_zero, h1, if_pos rfl, if_neg (by simp)]
  congr 1
  apply List.filter_congr
  intro r hr
  obtain ⟨q, hq, rfl⟩ := List.mem_map.mp hr
  obtain ⟨q', -, rfl⟩ := List.mem_map.mp hq
  have : ¬ (l + (q' + 1) = l) := by omega
  simp [this]
theorem bitsL_cons {m : Nat} (h : m < 65536) (h0 : m ≠ 0) : bitsL m = low 16 m :: bitsL (m &&& (m - 1)) := by
  obtain ⟨a1, a2, a3, a4, a5⟩ := low_facts h h0
  unfold bitsL
  rw [range_split (fun r => m.testBit r) a1 (fun r hr => ?_) a5]
  · congr 1
    apply List.filter_congr
    intro r _
    rw [a3, Nat.testBit_xor, Nat.testBit_two_pow]
    by_cases e : low 16 m = r
    · subst e; simp [a5]
    · have e' : ¬ r = low 16 m := fun q => e q.symm
      simp [e, e']
  · have := Nat.testBit_mod_two_pow m (low 16 m) r
    rw [a4] at this
    simpa [hr] using this.symm
theorem and_pred_lt {m : Nat} (h : m < 65536) : m &&& (m - 1) < 65536 := Nat.lt_of_le_of_lt Nat.and_le_left h
theorem popc_bits (m : Nat) : popc 16 m = (bitsL m).length := popc_len 16 m
theorem bitsL_ne {m : Nat} (h : m < 65536) : bitsL m = [] ↔ m = 0 := by
  constructor
  · intro e
    by_cases h0 : m = 0
    · exact h0
    · rw [bitsL_cons h h0] at e; cases e
  · rintro rfl; exact bitsL_nil
/-- the mask of what a predicate says of the first sixteen -/
theorem testBit_lt16 {m : Nat} (h : m < 65536) {r : Nat} (hr : 16 ≤ r) : m.testBit r = false := by
  apply Nat.testBit_lt_two_pow
  calc m < 2 ^ 16 := h
    _ ≤ 2 ^ r := Nat.pow_le_pow_right (by decide) hr
theorem mask_ext {m n : Nat} (hm : m < 65536) (hn : n < 65536) (h : ∀ r, r < 16 → m.testBit r = n.testBit r) : m = n := by
  apply Nat.eq_of_testBit_eq
  intro r
  by_cases hr : r < 16
  · exact h r hr
  · rw [testBit_lt16 hm (by omega), testBit_lt16 hn (by omega)]
theorem swar_le {n : Nat} (h : n < 65536) : swar1 n < 65536 ∧ swar2 (swar1 n) < 1717986919 ∧ swar3 (swar2 (swar1 n)) < 252645136 := by
  refine ⟨by unfold swar1; omega, ?_, ?_⟩
  · unfold swar2
    have h1 : swar1 n &&& 858993459 ≤ 858993459 := Nat.and_le_right
    have h2 : (swar1 n >>> 2) &&& 858993459 ≤ 858993459 := Nat.and_le_right
    omega
  · unfold swar3
    have h1 : (swar2 (swar1 n) + swar2 (swar1 n) >>> 4) &&& 252645135 ≤ 252645135 := Nat.and_le_right
    omega
theorem f_bitCount (σ : ZS) {m : Nat} (h : m < 65536) : fJ6_bitCount_0f7a4 σ (m : Int) = some (((bitsL m).length : Int), σ) := by
  have hs := swar_le h
  have e1 : wrap ((m : Int) - iAnd (iUshr (m : Int) 1) 1431655765) = ((swar1 m : Nat) : Int) := by
    rw [show (1 : Int) = ((1 : Nat) : Int) from rfl, iUshr_n (by omega) (by decide), show (1431655765 : Int) = ((1431655765 : Nat) : Int) from rfl]
    have hle : m >>> 1 ≤ m := Nat.shiftRight_le m 1
    rw [iAnd_n (by omega) (by decide)]
    have h3 : (m >>> 1) &&& 1431655765 ≤ m >>> 1 := Nat.and_le_left
    unfold swar1
    rw [wrap_id ⟨by omega, by omega⟩]
    omega
  have e2 : ∀ q : Nat, q < 65536 → wrap (iAnd (q : Int) 858993459 + iAnd (iUshr (q : Int) 2) 858993459) = ((swar2 q : Nat) : Int) := by
    intro q hq
    rw [show (2 : Int) = ((2 : Nat) : Int) from rfl, iUshr_n (by omega) (by decide), show (858993459 : Int) = ((858993459 : Nat) : Int) from rfl]
    have hle : q >>> 2 ≤ q := Nat.shiftRight_le q 2
    rw [iAnd_n (by omega) (by decide), iAnd_n (by omega) (by decide)]
    have h1 : q &&& 858993459 ≤ 858993459 := Nat.and_le_right
    have h2 : (q >>> 2) &&& 858993459 ≤ 858993459 := Nat.and_le_right
    unfold swar2
    rw [wrap_id ⟨by omega, by omega⟩]
    omega
  have e3 : ∀ q : Nat, q < 1717986919 → iAnd (wrap ((q : Int) + iUshr (q : Int) 4)) 252645135 = ((swar3 q : Nat) : Int) := by
    intro q hq
    rw [show (4 : Int) = ((4 : Nat) : Int) from rfl, iUshr_n (by omega) (by decide), show (252645135 : Int) = ((252645135 : Nat) : Int) from rfl]
    have hle : q >>> 4 = q / 16 := Nat.shiftRight_eq_div_pow q 4
    have e : wrap ((q : Int) + ((q >>> 4 : Nat) : Int)) = ((q + q >>> 4 : Nat) : Int) := by
      rw [wrap_id ⟨by omega, by omega⟩]; omega
    rw [e, iAnd_n (by omega) (by decide)]
    rfl
  have e4 : ∀ q : Nat, q < 252645136 → wrap ((q : Int) + iUshr (q : Int) 8) = ((swar4 q : Nat) : Int) := by
    intro q hq
    rw [show (8 : Int) = ((8 : Nat) : Int) from rfl, iUshr_n (by omega) (by decide)]
    have hle : q >>> 8 ≤ q := Nat.shiftRight_le q 8
    unfold swar4
    rw [wrap_id ⟨by omega, by omega⟩]; omega
  have e5 : ∀ q : Nat, q < 505290272 → iAnd (wrap ((q : Int) + iUshr (q : Int) 16)) 63 = ((swar5 q : Nat) : Int) := by
    intro q hq
    rw [show (16 : Int) = ((16 : Nat) : Int) from rfl, iUshr_n (by omega) (by decide), show (63 : Int) = ((63 : Nat) : Int) from rfl]
    have hle : q >>> 16 ≤ q := Nat.shiftRight_le q 16
    have e : wrap ((q : Int) + ((q >>> 16 : Nat) : Int)) = ((q + q >>> 16 : Nat) : Int) := by
      rw [wrap_id ⟨by omega, by omega⟩]; omega
    rw [e, iAnd_n (by omega) (by decide)]
    rfl
  have hs4 : swar4 (swar3 (swar2 (swar1 m))) < 505290272 := by
    have hle : swar3 (swar2 (swar1 m)) >>> 8 ≤ swar3 (swar2 (swar1 m)) := Nat.shiftRight_le _ 8
    unfold swar4
    omega
  unfold fJ6_bitCount_0f7a4
  rw [e1, e2 _ hs.1, e3 _ hs.2.1, e4 _ hs.2.2, e5 _ hs4]
  show some ((((swar m : Nat)) : Int), σ) = _
  rw [swar_eq h, popc_bits]
