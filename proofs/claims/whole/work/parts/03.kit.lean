/-! THE Z KIT: a small state (numbers alone), what a heap must hold for it, and a judgement 'Zj' whose rows speak of numbers -/
abbrev ZV : Type := Nat × Int
/-- memory (object, place), kinds, lengths, how many cells, how many fields and elements -/
abbrev ZS : Type := (Int → Int → Int) × (Int → Int) × (Int → Int) × Nat × Nat
def sM (σ : ZS) : Int → Int → Int := σ.1
def sK (σ : ZS) : Int → Int := σ.2.1
def sL (σ : ZS) : Int → Int := σ.2.2.1
def sN (σ : ZS) : Nat := σ.2.2.2.1
def sT (σ : ZS) : Nat := σ.2.2.2.2
/-- addresses, the base, the classes, the arrays' classes, the two texts -/
abbrev ZE : Type := (Nat → Nat) × Nat × va_G × (Int → ClassId) × (Nat → Nat) × (Nat → Nat) × ZV
abbrev eR (E : ZE) : Nat → Nat := E.1
abbrev eB (E : ZE) : Nat := E.2.1
abbrev eD (E : ZE) : va_G := E.2.2.1
abbrev eC (E : ZE) : Int → ClassId := E.2.2.2.1
abbrev eS (E : ZE) : Nat → Nat := E.2.2.2.2.1
abbrev eV (E : ZE) : Nat → Nat := E.2.2.2.2.2.1
abbrev eF (E : ZE) : ZV := E.2.2.2.2.2.2
def zInR (x : Int) : Prop := -2147483648 ≤ x ∧ x < 2147483648
def zInL (x : Int) : Prop := -9223372036854775808 ≤ x ∧ x < 9223372036854775808
def zOk (N : Nat) : ZV → Prop
  | (0, v) => zInR v
  | (1, v) => zInL v
  | (2, v) => -1 ≤ v ∧ v < (N : Int)
  | (_, v) => 0 ≤ v
def zV (r : Nat → Nat) : ZV → Value
  | (0, v) => .int (Int32.ofInt v)
  | (1, v) => .long (Int64.ofInt v)
  | (2, v) => if v < 0 then .null else .ref (r v.toNat)
  | (_, v) => .ref v.toNat
def ztag : FieldType → Nat
  | .int => 0
  | .boolean => 0
  | .long => 1
  | _ => 2
def zat (k : Int) : Nat := if k = 100 then 0 else if k = 101 then 1 else 2
def zaty (k : Int) : FieldType := if k = 100 then .int else if k = 101 then .long else if k = 102 then .array .int else if k = 103 then .object "GateRoad$Way" else if k = 104 then .object "GateRoad$Text" else .object "GateRoad$Sheet"
def zoty (k : Int) (i : Nat) : FieldType := match k.toNat with
  | 0 => tyX0 i
  | 1 => tyX1 i
  | 2 => tyX2 i
  | 3 => tyX3 i
  | 4 => tyX4 i
  | 5 => tyX5 i
  | 6 => tyX6 i
  | 7 => tyX7 i
  | 8 => tyX8 i
  | 9 => tyX9 i
  | 10 => tyX10 i
  | 11 => tyX11 i
  | _ => tyX12 i
def zst (k i : Int) : Nat := if k < 0 then 0 else if 100 ≤ k then zat k else ztag (zoty k i.toNat)
def zWT (σ : ZS) : Prop := (∀ a : Int, sK σ a ≠ -1 → 0 ≤ a ∧ a < (sN σ : Int)) ∧ (∀ a : Int, 0 ≤ sL σ a ∧ sL σ a < 2147483648) ∧ (∀ a i : Int, zOk (sN σ) (zst (sK σ a) i, sM σ a i)) ∧ 3 ≤ sN σ
/-- a cell's elements, as far as they are told -/
def zLike (cell : Cell) (n : Nat) (f : Nat → Value) : Prop := n ≤ cell.slots.size ∧ cell.slots.size.toInt32 = Int32.ofNat n ∧ ∀ j : Nat, j < n → cell.slots[j]? = some (f j)
/-- the cells 0, 1, 2 are given: arrays of ints of whatever class, kept in whatever way; all others were made here -/
def zCell (E : ZE) (σ : ZS) (a : Nat) (H : Heap) : Prop :=
  (100 ≤ sK σ a ∧ sK σ a ≤ 105 ∧ ∃ cell : Cell, H[eR E a]? = some cell ∧ (3 ≤ a → cell = arrV (eC E (sK σ a)) (sL σ a).toNat (fun j => zV (eR E) (zat (sK σ a), sM σ a j))) ∧ (a < 3 → sK σ a = 100 ∧ cell.cls = eC E (200 + (a : Int)) ∧ cell.vm ≠ .unknown ∧ (∀ k, cell.vm ≠ .statics k) ∧ zLike cell (sL σ a).toNat (fun j => zV (eR E) (zat (sK σ a), sM σ a j)))) ∨
  (0 ≤ sK σ a ∧ sK σ a ≤ 12 ∧ ∃ r : vw_C, vwCl[(sK σ a).toNat]? = some r ∧ t_OB (eR E a) ((eD E).1 (sK σ a).toNat) r.2.2 ((eD E).2 (sK σ a).toNat) H (fun j => zV (eR E) (zst (sK σ a) j, sM σ a j)))
def zRep (E : ZE) (σ : ZS) (H : Heap) : Prop := H.size + 3 = eB E + sN σ ∧ ∀ a : Nat, a < sN σ → zCell E σ a H
abbrev zA (E : ZE) : Nat → Prop := fun q => eB E ≤ q
def zOkE (E : ZE) : Prop := (∀ k : Nat, eR E (k + 3) = eB E + k) ∧ eR E 0 < eB E ∧ eR E 1 < eB E ∧ eR E 2 < eB E ∧ (eF E = (2, -1) ∨ ∃ t : Nat, eF E = (3, (t : Int)))
/-- the words that every contract asks -/
def zT : List Cond := lw_tbl.filter goodWord
theorem zT_in {w : Cond} (h : w ∈ lw_tbl) (hg : goodWord w = true) : w ∈ zT := List.mem_filter.mpr ⟨h, hg⟩
theorem zT_tbl {w : Cond} (h : w ∈ zT) : w ∈ lw_tbl := (List.mem_filter.mp h).1
theorem zT_good {w : Cond} (h : w ∈ zT) : goodWord w = true := (List.mem_filter.mp h).2
abbrev zTys (E : ZE) : List (ClassId × FieldType) := [(eC E 100, zaty 100), (eC E 101, zaty 101), (eC E 102, zaty 102), (eC E 103, zaty 103), (eC E 104, zaty 104), (eC E 105, zaty 105)]
/-- who is one of which class, and who is none -/
def zCast : List (String × String) := [("GateRoad$Tolled", "GateRoad$Way"), ("GateRoad$Numbered", "GateRoad$Way"), ("GateRoad$Drawn", "GateRoad$Way"), ("GateRoad$Last", "GateRoad$Way"), ("GateRoad$Sorted", "GateRoad$Way"), ("GateRoad$Sorted", "GateRoad$Tolled"), ("GateRoad$Drawn", "GateRoad$Numbered")]
def zNot : List (String × String) := [("GateRoad$Way", "GateRoad$Tolled"), ("GateRoad$Way", "GateRoad$Numbered"), ("GateRoad$Way", "GateRoad$Drawn"), ("GateRoad$Way", "GateRoad$Last"), ("GateRoad$Way", "GateRoad$Sorted"), ("GateRoad$Tolled", "GateRoad$Numbered"), ("GateRoad$Tolled", "GateRoad$Drawn"), ("GateRoad$Tolled", "GateRoad$Last"), ("GateRoad$Tolled", "GateRoad$Sorted"), ("GateRoad$Numbered", "GateRoad$Tolled"), ("GateRoad$Numbered", "GateRoad$Drawn"), ("GateRoad$Numbered", "GateRoad$Last"), ("GateRoad$Numbered", "GateRoad$Sorted"), ("GateRoad$Drawn", "GateRoad$Tolled"), ("GateRoad$Drawn", "GateRoad$Last"), ("GateRoad$Drawn", "GateRoad$Sorted"), ("GateRoad$Last", "GateRoad$Tolled"), ("GateRoad$Last", "GateRoad$Numbered"), ("GateRoad$Last", "GateRoad$Drawn"), ("GateRoad$Last", "GateRoad$Sorted"), ("GateRoad$Sorted", "GateRoad$Numbered"), ("GateRoad$Sorted", "GateRoad$Drawn"), ("GateRoad$Sorted", "GateRoad$Last")]
def zWordsT : String := "wait early late minute sort toll cost lost and or not"
def zSignsT : String := "();+-*<="
/-- the two texts: words (0), signs (1) -/
def zLen : List Nat := [53, 8]
def zByt : List (List Int32) := [[119, 97, 105, 116, 32, 101, 97, 114, 108, 121, 32, 108, 97, 116, 101, 32, 109, 105, 110, 117, 116, 101, 32, 115, 111, 114, 116, 32, 116, 111, 108, 108, 32, 99, 111, 115, 116, 32, 108, 111, 115, 116, 32, 97, 110, 100, 32, 111, 114, 32, 110, 111, 116], [40, 41, 59, 43, 45, 42, 60, 61]]
def zAO (t : FieldType) (U : State) : Prop := (Cond.arrayOver t).before #[] U = true
/-- what else the tables say, and what the heap says that nobody writes -/
def zGiv (E : ZE) (U : State) : Prop := ∀ i : Nat, i < 3 → ∃ (k : Class) (comp : ClassId), U.vm.classes[eC E (200 + (i : Int))]? = some k ∧ k.kind = .array comp .int
def zK2 (E : ZE) (U : State) : Prop :=
  (zAO (.array .int) U ∧ va_AO "GateRoad$Way" U ∧ va_AO "GateRoad$Text" U ∧ va_AO "GateRoad$Sheet" U) ∧
  (∀ q ∈ zCast, va_Nw (.castable q.1 q.2) U) ∧ (∀ q ∈ zNot, va_Nc q.1 q.2 U) ∧
  (va_Nw (.methodLinkNest RX11 9 yX2_init "GateRoad") U ∧ va_Nw (.methodLinkNest RX11 33 yX4_init "GateRoad") U ∧ va_Nw (.methodLinkNest RX11 94 yX6_init "GateRoad") U) ∧
  (vk_R RX4 116 zWordsT (eS E 0) U ∧ vk_R RX4 109 zSignsT (eS E 1) U) ∧ vk_S 2 zLen zByt (eS E) (eV E) (zA E) U U.heap ∧
  va_Z "java/lang/String" "COMPACT_STRINGS" "Z" (.int 1) (zA E) U U.heap ∧ va_Z "jdk/internal/util/Preconditions" "SIOOBE_FORMATTER" "Ljava/util/function/BiFunction;" (zV (eR E) (eF E)) (zA E) U U.heap ∧
  va_Z "GateRoad$Text" "FIRST_COST" "[I" (.ref (eR E 0)) (zA E) U U.heap ∧ va_Z "GateRoad$Text" "FIRST_LOST" "[I" (.ref (eR E 1)) (zA E) U U.heap ∧ zGiv E U
/-- what the tables and the unwritten heap say: at a state whose heap holds the statics -/
def zK (E : ZE) (U : State) : Prop := va_K (eD E) vwCl (zTys E) U
/-- how the context is held -/
abbrev ZX : Type := Program × Launch × Env × Room × State × MethodId × Array Value × List Frame × Method × Code × ZE × ZS × Nat × Nat × (Int → ZS → State → Prop)
abbrev xp (X : ZX) : Program := X.1
abbrev xl (X : ZX) : Launch := X.2.1
abbrev xe (X : ZX) : Env := X.2.2.1
abbrev xR (X : ZX) : Room := X.2.2.2.1
abbrev xs (X : ZX) : State := X.2.2.2.2.1
abbrev xm (X : ZX) : MethodId := X.2.2.2.2.2.1
abbrev xa (X : ZX) : Array Value := X.2.2.2.2.2.2.1
abbrev xb (X : ZX) : List Frame := X.2.2.2.2.2.2.2.1
abbrev xM (X : ZX) : Method := X.2.2.2.2.2.2.2.2.1
abbrev xc (X : ZX) : Code := X.2.2.2.2.2.2.2.2.2.1
abbrev xE (X : ZX) : ZE := X.2.2.2.2.2.2.2.2.2.2.1
abbrev x0 (X : ZX) : ZS := X.2.2.2.2.2.2.2.2.2.2.2.1
abbrev xn (X : ZX) : Nat := X.2.2.2.2.2.2.2.2.2.2.2.2.1
abbrev xk (X : ZX) : Nat := X.2.2.2.2.2.2.2.2.2.2.2.2.2.1
abbrev xQ (X : ZX) : Int → ZS → State → Prop := X.2.2.2.2.2.2.2.2.2.2.2.2.2.2
abbrev WX (X : ZX) (H : Heap) (locs : List Loc) (cells slots : Nat) (Q : State → Prop) (pc : Nat) (ls : Array Slot) (st : List Value) : Prop :=
  W (xp X) (xl X) (xe X) (xR X) (xs X) (xm X) (xa X) (xb X) (xM X) (xc X) H locs cells slots Q (F0 (xm X) pc ls st)
def zvs (r : Nat → Nat) (st : List ZV) : List Value := st.map (zV r)
def zls (r : Nat → Nat) (lv : List (Nat × ZV)) : List (Nat × Value) := lv.map (fun q => (q.1, zV r q.2))
def zOkS (N : Nat) (st : List ZV) : Prop := ∀ q ∈ st, zOk N q
def zOkL (N : Nat) (lv : List (Nat × ZV)) : Prop := ∀ q ∈ lv, zOk N q.2
def zOkR (N : Nat) (rk : Nat) (v : Int) : Prop := match rk with
  | 0 => True
  | 1 => zInR v
  | 2 => zInL v
  | 3 => -1 ≤ v ∧ v < (N : Int)
  | 4 => v = 0 ∨ v = 1
  | _ => 0 ≤ v ∧ v < 65536
/-- from here the method comes to the answer that O tells -/
def Zj (X : ZX) (G : Prop) (pc : Nat) (lv : List (Nat × ZV)) (st : List ZV) (σ : ZS) (O : Option (Int × ZS)) : Prop :=
  ∀ (v : Int) (σ' : ZS), O = some (v, σ') → zWT σ → zOkL (sN σ) lv → zOkS (sN σ) st → sN (x0 X) ≤ sN σ → sT (x0 X) ≤ sT σ →
    (zWT σ' ∧ sN σ ≤ sN σ' ∧ sT σ ≤ sT σ' ∧ zOkR (sN σ') (xk X) v) ∧
    (G → (sN σ' - sN (x0 X) ≤ (xR X).cells ∧ sT σ' - sT (x0 X) ≤ (xR X).slots) →
      ∀ (H : Heap) (locs : List Loc) (ls : Array Slot), zRep (xE X) σ H → va_S (zA (xE X)) (xs X).heap H locs → lv_has ls (xn X) (zls (eR (xE X)) lv) →
        WX X H locs (sN σ - sN (x0 X)) (sT σ - sT (x0 X)) (xQ X v σ') pc ls (zvs (eR (xE X)) st))
def ZOk (X : ZX) (cc : ByteArray) (own : String) (d : Nat) : Prop :=
  (xp X).tables.exec = Jvm.exec ∧ (xc X).code = cc ∧ (xc X).maxLocals = xn X ∧ (xs X).vm.findClass own = some (xm X).cls ∧ (∀ w ∈ zT, w.before (xa X) (xs X) = true) ∧ zK (xE X) (xs X) ∧ zOkE (xE X) ∧ eB (xE X) ≤ (xs X).heap.size ∧ (xM X).locks = false ∧ d ≤ (xR X).frames ∧ 100 * d ≤ (xR X).locals ∧ zK2 (xE X) (xs X)
theorem z_stk {X : ZX} {G : Prop} {pc pc' : Nat} {lv : List (Nat × ZV)} {st st' : List ZV} {σ : ZS} {O : Option (Int × ZS)} (hok : zWT σ → zOkL (sN σ) lv → zOkS (sN σ) st → zOkS (sN σ) st')
    (h : G → zWT σ → zOkL (sN σ) lv → zOkS (sN σ) st → ∀ (H : Heap) (locs : List Loc) (ls : Array Slot) (cells slots : Nat) (Q : State → Prop), zRep (xE X) σ H → va_S (zA (xE X)) (xs X).heap H locs → lv_has ls (xn X) (zls (eR (xE X)) lv) → WX X H locs cells slots Q pc' ls (zvs (eR (xE X)) st') → WX X H locs cells slots Q pc ls (zvs (eR (xE X)) st))
    (k : Zj X G pc' lv st' σ O) : Zj X G pc lv st σ O := by
  intro v σ' hO hw hl hs h1 h2
  obtain ⟨a, b⟩ := k v σ' hO hw hl (hok hw hl hs) h1 h2
  exact ⟨a, fun g hR H locs ls hr hS hls => h g hw hl hs H locs ls _ _ _ hr hS hls (b g hR H locs ls hr hS hls)⟩
theorem z_none {X : ZX} {G : Prop} {pc : Nat} {lv : List (Nat × ZV)} {st : List ZV} {σ : ZS} : Zj X G pc lv st σ none := fun _ _ h => by cases h
theorem z_eq {X : ZX} {G : Prop} {pc : Nat} {lv : List (Nat × ZV)} {st : List ZV} {σ : ZS} {O O' : Option (Int × ZS)} (h : O = O') (k : Zj X G pc lv st σ O') : Zj X G pc lv st σ O := h ▸ k
