/-! the start: what the tables and the given statics say -/
theorem tb {w : Cond} (i : Nat) (h : tables_1[i]? = some w) : w ∈ lw_tbl := List.mem_append_right _ (List.mem_of_getElem? h)
section ST
variable {s : State} {b : Nat}
theorem st_cls (hts : ∀ w ∈ lw_tbl, w.before #[Value.ref b] s = true) : ∃ D : va_G, ∀ (c : Nat) (q : vw_C), vwCl[c]? = some q → u_Kn s q.1 q.2.1 q.2.2 (D.1 c) (D.2 c) := by
  obtain ⟨c0, i0, h0⟩ := u_known (C := RX0) (T := TX0) (N := 3) (n := 3) hts (fun w hw => zT_tbl (zc0.2.2.2.1 w hw)) (hts (.instantiable RX0 3) (tb 581 (by decide +kernel)))
  obtain ⟨c1, i1, h1⟩ := u_known (C := RX1) (T := TX1) (N := 3) (n := 3) hts (fun w hw => zT_tbl (zc1.2.2.2.1 w hw)) (hts (.instantiable RX1 3) (tb 591 (by decide +kernel)))
  obtain ⟨c2, i2, h2⟩ := u_known (C := RX2) (T := TX2) (N := 11) (n := 11) hts (fun w hw => zT_tbl (zc2.2.2.2.1 w hw)) (hts (.instantiable RX2 11) (tb 32 (by decide +kernel)))
  obtain ⟨c3, i3, h3⟩ := u_known (C := RX3) (T := TX3) (N := 3) (n := 3) hts (fun w hw => zT_tbl (zc3.2.2.2.1 w hw)) (hts (.instantiable RX3 3) (tb 571 (by decide +kernel)))
  obtain ⟨c4, i4, h4⟩ := u_known (C := RX4) (T := TX4) (N := 9) (n := 9) hts (fun w hw => zT_tbl (zc4.2.2.2.1 w hw)) (hts (.instantiable RX4 9) (tb 133 (by decide +kernel)))
  obtain ⟨c5, i5, h5⟩ := u_known (C := RX5) (T := TX5) (N := 9) (n := 9) hts (fun w hw => zT_tbl (zc5.2.2.2.1 w hw)) (hts (.instantiable RX5 9) (tb 38 (by decide +kernel)))
  obtain ⟨c6, i6, h6⟩ := u_known (C := RX6) (T := TX6) (N := 3) (n := 3) hts (fun w hw => zT_tbl (zc6.2.2.2.1 w hw)) (hts (.instantiable RX6 3) (tb 192 (by decide +kernel)))
  obtain ⟨c7, i7, h7⟩ := u_known (C := RX7) (T := TX7) (N := 3) (n := 3) hts (fun w hw => zT_tbl (zc7.2.2.2.1 w hw)) (hts (.instantiable RX7 3) (tb 601 (by decide +kernel)))
  obtain ⟨c8, i8, h8⟩ := u_known (C := RX8) (T := TX8) (N := 2) (n := 2) hts (fun w hw => zT_tbl (zc8.2.2.2.1 w hw)) (hts (.instantiable RX8 2) (tb 174 (by decide +kernel)))
  obtain ⟨c9, i9, h9⟩ := u_known (C := RX9) (T := TX9) (N := 3) (n := 3) hts (fun w hw => zT_tbl (zc9.2.2.2.1 w hw)) (hts (.instantiable RX9 3) (tb 547 (by decide +kernel)))
  obtain ⟨c10, i10, h10⟩ := u_known (C := RX10) (T := TX10) (N := 3) (n := 3) hts (fun w hw => zT_tbl (zc10.2.2.2.1 w hw)) (hts (.instantiable RX10 3) (tb 610 (by decide +kernel)))
  obtain ⟨c11, i11, h11⟩ := u_known (C := RX11) (T := TX11) (N := 17) (n := 17) hts (fun w hw => zT_tbl (zc11.2.2.2.1 w hw)) (hts (.instantiable RX11 17) (tb 24 (by decide +kernel)))
  obtain ⟨c12, i12, h12⟩ := u_known (C := RX12) (T := TX12) (N := 49) (n := 49) hts (fun w hw => zT_tbl (zc12.2.2.2.1 w hw)) (hts (.instantiable RX12 49) (tb 935 (by decide +kernel)))
  refine ⟨(fun c => [c0, c1, c2, c3, c4, c5, c6, c7, c8, c9, c10, c11, c12].getD c c0, fun c => [i0, i1, i2, i3, i4, i5, i6, i7, i8, i9, i10, i11, i12].getD c i0), fun c q hq => ?_⟩
  match c, hq with
  | 0, hq => cases hq; exact h0
  | 1, hq => cases hq; exact h1
  | 2, hq => cases hq; exact h2
  | 3, hq => cases hq; exact h3
  | 4, hq => cases hq; exact h4
  | 5, hq => cases hq; exact h5
  | 6, hq => cases hq; exact h6
  | 7, hq => cases hq; exact h7
  | 8, hq => cases hq; exact h8
  | 9, hq => cases hq; exact h9
  | 10, hq => cases hq; exact h10
  | 11, hq => cases hq; exact h11
  | 12, hq => cases hq; exact h12
  | k + 13, hq => simp [vwCl] at hq
theorem st_arr {t : FieldType} (h : (Cond.arrayClass t).before #[Value.ref b] s = true) : ∃ cA : ClassId, ArrOfT s cA t ∧ s.vm.findClass ("[" ++ t.toString) = some cA := by
  obtain ⟨c, k, comp, h1, h2, h3⟩ := Cond.arrayClass_spec h
  exact ⟨c, fun N z => ⟨(fun k h => by cases h), k, h2, comp, h3⟩, h1⟩
theorem st_arrA {t : FieldType} (h : (Cond.arrayOver (.array t)).before #[Value.ref b] s = true) : ∃ cA : ClassId, ArrOfT s cA (.array t) ∧ va_RA s cA (.array t) := by
  obtain ⟨comp, c, k, h1, h2, h3, h4⟩ := Cond.arrayOver_specA h
  exact ⟨c, fun N z => ⟨(fun k h => by cases h), k, h2, comp, h3⟩, h4⟩
theorem st_arrO {C : String} (h : (Cond.arrayOver (.object C)).before #[Value.ref b] s = true) : ∃ cA : ClassId, ArrOfT s cA (.object C) ∧ va_RA s cA (.object C) := by
  obtain ⟨comp, c, k, h1, -, h3, h4, h5⟩ := Cond.arrayOver_spec h
  exact ⟨c, fun N z => ⟨(fun k h => by cases h), k, h3, comp, h4⟩, k, comp, h3, h4, h1, h5⟩
theorem st_flat (hgv : (Jvm.Cond.and given_1 narrow_1).before #[Value.ref b] s = true) : ∀ w ∈ flatC (Jvm.Cond.and given_1 narrow_1), w.before #[Value.ref b] s = true := flat_of_before _ hgv
theorem m_cost : ∀ j : Nat, j < 11 → Cond.eq (.elem (.static "GateRoad$Text" "FIRST_COST" "[I") (.int (Int32.ofNat j))) (.int (Int32.ofInt (r0 (j : Int)))) ∈ flatC (Jvm.Cond.and given_1 narrow_1) := by decide +kernel
theorem m_lost : ∀ j : Nat, j < 1 → Cond.eq (.elem (.static "GateRoad$Text" "FIRST_LOST" "[I") (.int (Int32.ofNat j))) (.int (Int32.ofInt (r1 (j : Int)))) ∈ flatC (Jvm.Cond.and given_1 narrow_1) := by decide +kernel
def stm (i : Nat) : Term := if i = 0 then .string "GateRoad$Reader" 116 else .string "GateRoad$Reader" 109
theorem m_ex : ∀ i : Nat, i < 2 → Cond.exactly (stm i) "java/lang/String" ∈ flatC (Jvm.Cond.and given_1 narrow_1) := by decide +kernel
theorem m_co : ∀ i : Nat, i < 2 → Cond.eq (.field (stm i) "java/lang/String" "coder" "B") (.int 0) ∈ flatC (Jvm.Cond.and given_1 narrow_1) := by decide +kernel
theorem m_ar : ∀ i : Nat, i < 2 → Cond.arrayOf (.field (stm i) "java/lang/String" "value" "[B") .byte ∈ flatC (Jvm.Cond.and given_1 narrow_1) := by decide +kernel
theorem m_le : ∀ i : Nat, i < 2 → Cond.eq (.length (.field (stm i) "java/lang/String" "value" "[B")) (.int (Int32.ofNat (zLen.getD i 0))) ∈ flatC (Jvm.Cond.and given_1 narrow_1) := by decide +kernel
theorem m_el : ∀ i : Nat, i < 2 → ∀ j : Nat, j < zLen.getD i 0 → Cond.eq (.elem (.field (stm i) "java/lang/String" "value" "[B") (.int (Int32.ofNat j))) (.int ((zByt.getD i []).getD j 0)) ∈ flatC (Jvm.Cond.and given_1 narrow_1) := by decide +kernel
theorem m_ne : Cond.not (Cond.eq (stm 0) (stm 1)) ∈ flatC (Jvm.Cond.and given_1 narrow_1) := by decide +kernel
theorem m_not : ∀ q ∈ zNot, Cond.not (.castable q.1 q.2) ∈ flatC (Jvm.Cond.and given_1 narrow_1) := by decide +kernel
theorem m_cast : ∀ q ∈ zCast, Cond.castable q.1 q.2 ∈ lw_tbl := by
  intro q hq
  have k : ∀ q ∈ zCast, Cond.castable q.1 q.2 ∈ tables_1.drop 1380 := by decide +kernel
  exact List.mem_append_right _ (List.mem_of_mem_drop (k q hq))
/-- the script's ints -/
def scf (xs : Nat → Int32) (L : Nat) (i : Int) : Int := if 0 ≤ i ∧ i < (L : Int) then (xs i.toNat).toInt else 0
theorem scf_in (xs : Nat → Int32) (L : Nat) (i : Int) : zInR (scf xs L i) := by
  unfold scf
  split
  · exact z_inR _
  · exact ⟨by omega, by omega⟩
theorem r0_in (i : Int) : zInR (r0 i) := by
  have k : ∀ n : Nat, n < 11 → -2147483648 ≤ ([10000, 2, 10008, 10001, 10006, 10002, 3, 10008, 10006, 10005, 10006] : List Int).getD n 0 ∧ ([10000, 2, 10008, 10001, 10006, 10002, 3, 10008, 10006, 10005, 10006] : List Int).getD n 0 < 2147483648 := by decide
  unfold r0
  split
  · exact ⟨by omega, by omega⟩
  · rcases Nat.lt_or_ge i.toNat 11 with h | h
    · exact k _ h
    · have e : ([10000, 2, 10008, 10001, 10006, 10002, 3, 10008, 10006, 10005, 10006] : List Int)[i.toNat]? = none := List.getElem?_eq_none h
      rw [List.getD_eq_getElem?_getD, e]
      exact ⟨by decide, by decide⟩
theorem r1_in (i : Int) : zInR (r1 i) := by
  unfold r1
  split <;> exact ⟨by omega, by omega⟩
theorem z0_wt (xs : Nat → Int32) {L : Nat} (hL : L ≤ 384) : zWT (z0 (scf xs L) (L : Int)) := by
  refine ⟨fun a h => ?_, fun a => ?_, fun a i => ?_, Nat.le_refl _⟩
  · have h' : (if 0 ≤ a ∧ a < 3 then (100 : Int) else -1) ≠ -1 := h
    by_cases q : 0 ≤ a ∧ a < 3
    · exact q
    · rw [if_neg q] at h'; exact absurd rfl h'
  · show 0 ≤ (if a = 0 then (11 : Int) else if a = 1 then 1 else if a = 2 then (L : Int) else 0) ∧ (if a = 0 then (11 : Int) else if a = 1 then 1 else if a = 2 then (L : Int) else 0) < 2147483648
    split
    · omega
    · split
      · omega
      · split <;> omega
  · have hz : zst (sK (z0 (scf xs L) (L : Int)) a) i = 0 := by
      show zst (if 0 ≤ a ∧ a < 3 then (100 : Int) else -1) i = 0
      split
      · rfl
      · rfl
    rw [hz]
    show zInR (if a = 0 then r0 i else if a = 1 then r1 i else if a = 2 then scf xs L i else 0)
    split
    · exact r0_in i
    · split
      · exact r1_in i
      · split
        · exact scf_in xs L i
        · exact ⟨by omega, by omega⟩
/-- the addresses, the classes -/
def stR (s : State) (t0 t1 b : Nat) (k : Nat) : Nat := if k = 0 then t0 else if k = 1 then t1 else if k = 2 then b else s.heap.size + (k - 3)
def stC (l : List ClassId) (k : Int) : ClassId := l.getD (if k < 200 then (k - 100).toNat else (k - 194).toNat) (l.getD 0 0)
theorem st_of {cell : Cell} (h : s.isArrayOf cell .int) : ∃ (k : Class) (comp : ClassId), s.vm.classes[cell.cls]? = some k ∧ k.kind = .array comp .int := by
  obtain ⟨-, k, h1, comp, h2⟩ := h
  exact ⟨k, comp, h1, h2⟩
theorem st_ctx (hts : ∀ w ∈ lw_tbl, w.before #[Value.ref b] s = true) (hgv : (Jvm.Cond.and given_1 narrow_1).before #[Value.ref b] s = true) {L : Nat} {xs : Nat → Int32} (hX : va_X b L xs s s.heap) (hbl : b < s.heap.size) : ∃ E : ZE, zOkE E ∧ eB E = s.heap.size ∧ eR E 2 = b ∧ zK E s ∧ zK2 E s ∧ zRep E (z0 (scf xs L) (L : Int)) s.heap := by
  have hs := st_flat hgv
  have hA : ∀ a : Nat, a < s.heap.size → ¬ (fun q : Nat => s.heap.size ≤ q) a := fun a h => Nat.not_le.mpr h
  obtain ⟨D, hD⟩ := st_cls hts
  obtain ⟨k0, a0, n0⟩ := st_arr (hts (.arrayClass .int) (tb 89 (by decide +kernel)))
  obtain ⟨k1, a1, n1⟩ := st_arr (hts (.arrayClass .long) (tb 1105 (by decide +kernel)))
  have o2 := hts (.arrayOver (.array .int)) (tb 44 (by decide +kernel))
  have o3 := hts (.arrayOver (.object "GateRoad$Way")) (tb 131 (by decide +kernel))
  have o4 := hts (.arrayOver (.object "GateRoad$Text")) (tb 169 (by decide +kernel))
  have o5 := hts (.arrayOver (.object "GateRoad$Sheet")) (tb 171 (by decide +kernel))
  obtain ⟨k2, a2, n2⟩ := st_arrA o2
  obtain ⟨k3, a3, n3⟩ := st_arrO o3
  obtain ⟨k4, a4, n4⟩ := st_arrO o4
  obtain ⟨k5, a5, n5⟩ := st_arrO o5
  obtain ⟨t0, ev0, g0, gc0, go0, gu0, gn0, gz0, gl0, -⟩ := va_Tof (tm := .static "GateRoad$Text" "FIRST_COST" "[I") (ty := .int) (N := 11) (f := fun j => .int (Int32.ofInt (r0 (j : Int)))) (by decide) (hs (.arrayOf (.static "GateRoad$Text" "FIRST_COST" "[I") .int) (by decide +kernel)) (va_eqt (hs (.eq (.length (.static "GateRoad$Text" "FIRST_COST" "[I")) (.int (Int32.ofNat 11))) (by decide +kernel))) (fun j hj => va_eqt (hs _ (m_cost j hj))) hA
  obtain ⟨t1, ev1, g1, gc1, go1, gu1, gn1, gz1, gl1, -⟩ := va_Tof (tm := .static "GateRoad$Text" "FIRST_LOST" "[I") (ty := .int) (N := 1) (f := fun j => .int (Int32.ofInt (r1 (j : Int)))) (by decide) (hs (.arrayOf (.static "GateRoad$Text" "FIRST_LOST" "[I") .int) (by decide +kernel)) (va_eqt (hs (.eq (.length (.static "GateRoad$Text" "FIRST_LOST" "[I")) (.int (Int32.ofNat 1))) (by decide +kernel))) (fun j hj => va_eqt (hs _ (m_lost j hj))) hA
  obtain ⟨g2, gc2, go2, gu2, gn2, gl2⟩ := hX
  obtain ⟨adK, adV, hV, hev⟩ := vk_Sof (N := 2) (tm := stm) (len := zLen) (byt := zByt) (by decide) (fun i hi => hs _ (m_ex i hi)) (fun i hi => hs _ (m_co i hi)) (fun i hi => hs _ (m_ar i hi)) (fun i hi => hs _ (m_le i hi)) (fun i hi j hj => hs _ (m_el i hi j hj)) (fun i j hi hj hij => by
    rcases (by omega : (i = 0 ∧ j = 1) ∨ (i = 1 ∧ j = 0)) with ⟨rfl, rfl⟩ | ⟨rfl, rfl⟩
    · exact Or.inl (hs _ m_ne)
    · exact Or.inr (hs _ m_ne)) hA
  have iT := hts (.initialized "GateRoad$Text") (tb 5 (by decide +kernel))
  have iS := hts (.initialized "java/lang/String") (tb 8 (by decide +kernel))
  have iP := hts (.initialized "jdk/internal/util/Preconditions") (tb 10 (by decide +kernel))
  have z0c := va_Zof (hts (.laysStatic "GateRoad$Text" "FIRST_COST" "[I") (tb 176 (by decide +kernel))) iT ev0 hA
  have z1c := va_Zof (hts (.laysStatic "GateRoad$Text" "FIRST_LOST" "[I") (tb 178 (by decide +kernel))) iT ev1 hA
  have zc := va_Zof (hts (.laysStatic "java/lang/String" "COMPACT_STRINGS" "Z") (tb 340 (by decide +kernel))) iS (va_eqt (hs (.eq (.static "java/lang/String" "COMPACT_STRINGS" "Z") (.int 1)) (by decide +kernel))) hA
  have zf := va_Zqof (hts (.laysStatic "jdk/internal/util/Preconditions" "SIOOBE_FORMATTER" "Ljava/util/function/BiFunction;") (tb 356 (by decide +kernel))) iP (hs (.isRef (.static "jdk/internal/util/Preconditions" "SIOOBE_FORMATTER" "Ljava/util/function/BiFunction;")) (by decide +kernel)) hA
  obtain ⟨q, hq, hzf⟩ : ∃ q : ZV, (q = (2, -1) ∨ ∃ t : Nat, q = (3, (t : Int))) ∧ va_Z "jdk/internal/util/Preconditions" "SIOOBE_FORMATTER" "Ljava/util/function/BiFunction;" (zV (stR s t0 t1 b) q) (fun q : Nat => s.heap.size ≤ q) s s.heap := by
    rcases zf with h | ⟨t, h⟩
    · exact ⟨(2, -1), Or.inl rfl, h⟩
    · exact ⟨(3, (t : Int)), Or.inr ⟨t, rfl⟩, h⟩
  refine ⟨(stR s t0 t1 b, s.heap.size, D, stC [k0, k1, k2, k3, k4, k5, g0.cls, g1.cls, g2.cls], adK, adV, q), ⟨fun k => by
    show stR s t0 t1 b (k + 3) = s.heap.size + k
    unfold stR
    rw [if_neg (by omega), if_neg (by omega), if_neg (by omega)]
    omega, (Array.getElem?_eq_some_iff.mp gc0).1, (Array.getElem?_eq_some_iff.mp gc1).1, hbl, hq⟩, rfl, rfl, ⟨hD, fun k x hx => ?_⟩, ⟨⟨o2, o3, o4, o5⟩, fun x hx => va_Nw.of rfl (hts _ (m_cast x hx)), fun x hx => va_Nc.of (hs _ (m_not x hx)), ⟨?_, ?_, ?_⟩, ⟨?_, ?_⟩, hV, zc, hzf, z0c, z1c, fun i hi => ?_⟩, rfl, fun a ha => ?_⟩
  · match k, hx with
    | 0, hx => cases hx; exact ⟨a0, n0⟩
    | 1, hx => cases hx; exact ⟨a1, n1⟩
    | 2, hx => cases hx; exact ⟨a2, n2⟩
    | 3, hx => cases hx; exact ⟨a3, n3⟩
    | 4, hx => cases hx; exact ⟨a4, n4⟩
    | 5, hx => cases hx; exact ⟨a5, n5⟩
    | k + 6, hx => simp [zTys] at hx
  · exact va_Nw.of (w := .methodLinkNest RX11 9 yX2_init "GateRoad") rfl (hts _ (tb 33 (by decide +kernel)))
  · exact va_Nw.of (w := .methodLinkNest RX11 33 yX4_init "GateRoad") rfl (hts _ (tb 134 (by decide +kernel)))
  · exact va_Nw.of (w := .methodLinkNest RX11 94 yX6_init "GateRoad") rfl (hts _ (tb 193 (by decide +kernel)))
  · exact vk_R.of (A := #[Value.ref b]) (hts (.stringRef RX4 116 zWordsT) (tb 330 (by decide +kernel))) (hev 0 (by decide))
  · exact vk_R.of (A := #[Value.ref b]) (hts (.stringRef RX4 109 zSignsT) (tb 391 (by decide +kernel))) (hev 1 (by decide))
  · rcases (by omega : i = 0 ∨ i = 1 ∨ i = 2) with rfl | rfl | rfl
    · exact st_of go0
    · exact st_of go1
    · exact st_of go2
  · have ha3 : a < 3 := ha
    refine Or.inl ?_
    rcases (by omega : a = 0 ∨ a = 1 ∨ a = 2) with rfl | rfl | rfl
    · exact ⟨(show (100 : Int) ≤ 100 by decide), (show (100 : Int) ≤ 105 by decide), g0, gc0, fun h => absurd h (by decide), fun _ => ⟨rfl, rfl, gu0, go0.1, gn0, gz0, gl0⟩⟩
    · exact ⟨(show (100 : Int) ≤ 100 by decide), (show (100 : Int) ≤ 105 by decide), g1, gc1, fun h => absurd h (by decide), fun _ => ⟨rfl, rfl, gu1, go1.1, gn1, gz1, gl1⟩⟩
    · refine ⟨(show (100 : Int) ≤ 100 by decide), (show (100 : Int) ≤ 105 by decide), g2, gc2, fun h => absurd h (by decide), fun _ => ⟨rfl, rfl, gu2, go2.1, ?_⟩⟩
      have hLn : (sL (z0 (scf xs L) (L : Int)) ((2 : Nat) : Int)).toNat = L := Int.toNat_natCast L
      rw [hLn]
      refine ⟨by rw [gn2]; exact Nat.le_refl _, by rw [gn2], fun j hj => ?_⟩
      rw [gl2 j hj]
      show some (Value.int (xs j)) = some (Value.int (Int32.ofInt (scf xs L (j : Int))))
      unfold scf
      rw [if_pos ⟨by omega, by omega⟩, Int.toNat_natCast, z_ofToInt]
end ST
theorem law_runs {f : Int → Int} {L : Int} (hf : ∀ i, zInR (f i)) (h0 : 0 ≤ L) (h1 : L ≤ 384) : ∃ ρ, fL_law (z0 f L) 2 = some (1, ρ) ∧ sN ρ ≤ 300 ∧ sT ρ ≤ 40000 := by
  obtain ⟨v, σ, w, ρ, e1, e2, e3, hR, n5, t5⟩ := made hf h0 h1
  obtain ⟨x, τ, g1, g2, g3, g4⟩ := lw_loop 1000 ρ 0 hR (by omega) (by omega) (by omega)
  refine ⟨τ, ?_, by omega, by omega⟩
  have hN : (sN (z0 f L) : Int) = 3 := rfl
  have h64 : (sN σ : Int) = 64 := by omega
  unfold fL_law
  rw [hN, if_neg (show ¬ ((3 : Int) < 0) by decide), e1, zb_some, h64, if_neg (show ¬ ((64 : Int) < 0) by decide), e3, zb_some, g1, g2]
