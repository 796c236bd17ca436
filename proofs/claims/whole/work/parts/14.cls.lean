/-! the classes, as the tables say them -/
theorem zc_in {C : String} {T : u_T} {N : Nat} (l : List Nat) (h : ∀ i, i < N → lw_tbl[l.getD i 0]? = some (u_lay C T i) ∧ goodWord (u_lay C T i) = true) : ∀ w ∈ u_ws C T N, w ∈ zT := by
  intro w hw
  obtain ⟨i, hi, rfl⟩ := List.mem_map.mp hw
  obtain ⟨h1, h2⟩ := h i (List.mem_range.mp hi)
  exact zT_in (List.mem_of_getElem? h1) h2
theorem zc0 : zCls 0 RX0 TX0 3 := ⟨by decide, by decide, rfl, zc_in [646, 647, 648] (by decide +kernel), tyX0_ok, nmX0⟩
theorem zc1 : zCls 1 RX1 TX1 3 := ⟨by decide, by decide, rfl, zc_in [656, 657, 658] (by decide +kernel), tyX1_ok, nmX1⟩
theorem zc2 : zCls 2 RX2 TX2 11 := ⟨by decide, by decide, rfl, zc_in [167, 169, 171, 173, 175, 177, 179, 181, 183, 185, 187] (by decide +kernel), tyX2_ok, nmX2⟩
theorem zc3 : zCls 3 RX3 TX3 3 := ⟨by decide, by decide, rfl, zc_in [636, 637, 638] (by decide +kernel), tyX3_ok, nmX3⟩
theorem zc4 : zCls 4 RX4 TX4 9 := ⟨by decide, by decide, rfl, zc_in [209, 211, 213, 215, 217, 219, 221, 223, 225] (by decide +kernel), tyX4_ok, nmX4⟩
theorem zc5 : zCls 5 RX5 TX5 9 := ⟨by decide, by decide, rfl, zc_in [130, 132, 134, 136, 138, 140, 142, 144, 146] (by decide +kernel), tyX5_ok, nmX5⟩
theorem zc6 : zCls 6 RX6 TX6 3 := ⟨by decide, by decide, rfl, zc_in [263, 265, 267] (by decide +kernel), tyX6_ok, nmX6⟩
theorem zc7 : zCls 7 RX7 TX7 3 := ⟨by decide, by decide, rfl, zc_in [666, 667, 668] (by decide +kernel), tyX7_ok, nmX7⟩
theorem zc8 : zCls 8 RX8 TX8 2 := ⟨by decide, by decide, rfl, zc_in [247, 249] (by decide +kernel), tyX8_ok, nmX8⟩
theorem zc9 : zCls 9 RX9 TX9 3 := ⟨by decide, by decide, rfl, zc_in [623, 625, 627] (by decide +kernel), tyX9_ok, nmX9⟩
theorem zc10 : zCls 10 RX10 TX10 3 := ⟨by decide, by decide, rfl, zc_in [672, 673, 674] (by decide +kernel), tyX10_ok, nmX10⟩
theorem zc11 : zCls 11 RX11 TX11 17 := ⟨by decide, by decide, rfl, zc_in [287, 289, 291, 293, 295, 297, 299, 301, 303, 305, 307, 309, 311, 313, 315, 317, 319] (by decide +kernel), tyX11_ok, nmX11⟩
theorem zc12 : zCls 12 RX12 TX12 49 := ⟨by decide, by decide, rfl, zc_in [1066, 1068, 1070, 1072, 1074, 1076, 1078, 1080, 1082, 1084, 1086, 1088, 1090, 1092, 1094, 1096, 1098, 1100, 1102, 1104, 1106, 1108, 1110, 1112, 1114, 1116, 1118, 1120, 1122, 1124, 1126, 1128, 1130, 1132, 1134, 1136, 1138, 1140, 1142, 1144, 1146, 1148, 1150, 1152, 1154, 1156, 1158, 1160, 1162] (by decide +kernel), tyX12_ok, nmX12⟩
def okW (k : Int) : Bool := decide (k = 10) || decide (k = 9) || decide (k = 3) || decide (k = 0) || decide (k = 1) || decide (k = 7)
theorem okW_or {k : Int} (h : okW k = true) : k = 10 ∨ k = 9 ∨ k = 3 ∨ k = 0 ∨ k = 1 ∨ k = 7 := by
  simpa only [okW, Bool.or_eq_true, decide_eq_true_eq, or_assoc] using h
theorem okW_ok : ∀ k : Int, okW k = true → ∃ (C : String) (T : u_T) (N : Nat), zCls k C T N ∧ (C = "GateRoad$Way" ∨ (C, "GateRoad$Way") ∈ zCast) := by
  intro k h
  rcases okW_or h with rfl | rfl | rfl | rfl | rfl | rfl
  · exact ⟨_, _, _, zc10, (by decide)⟩
  · exact ⟨_, _, _, zc9, (by decide)⟩
  · exact ⟨_, _, _, zc3, (by decide)⟩
  · exact ⟨_, _, _, zc0, (by decide)⟩
  · exact ⟨_, _, _, zc1, (by decide)⟩
  · exact ⟨_, _, _, zc7, (by decide)⟩
def okT (k : Int) : Bool := decide (k = 8)
theorem okT_or {k : Int} (h : okT k = true) : k = 8 := by
  simpa only [okT, Bool.or_eq_true, decide_eq_true_eq, or_assoc] using h
theorem okT_ok : ∀ k : Int, okT k = true → ∃ (C : String) (T : u_T) (N : Nat), zCls k C T N ∧ (C = "GateRoad$Text" ∨ (C, "GateRoad$Text") ∈ zCast) := by
  intro k h
  rcases okT_or h with rfl
  · exact ⟨_, _, _, zc8, (by decide)⟩
def okS (k : Int) : Bool := decide (k = 6)
theorem okS_or {k : Int} (h : okS k = true) : k = 6 := by
  simpa only [okS, Bool.or_eq_true, decide_eq_true_eq, or_assoc] using h
theorem okS_ok : ∀ k : Int, okS k = true → ∃ (C : String) (T : u_T) (N : Nat), zCls k C T N ∧ (C = "GateRoad$Sheet" ∨ (C, "GateRoad$Sheet") ∈ zCast) := by
  intro k h
  rcases okS_or h with rfl
  · exact ⟨_, _, _, zc6, (by decide)⟩
def isTolled (k : Int) : Bool := decide (k = 9) || decide (k = 7)
theorem isTolled_ok : ∀ k : Int, okW k = true → ∃ (C : String) (T : u_T) (N : Nat), zCls k C T N ∧ if isTolled k = true then (C = "GateRoad$Tolled" ∨ (C, "GateRoad$Tolled") ∈ zCast) else (C, "GateRoad$Tolled") ∈ zNot := by
  intro k h
  rcases okW_or h with rfl | rfl | rfl | rfl | rfl | rfl
  · exact ⟨_, _, _, zc10, (by decide)⟩
  · exact ⟨_, _, _, zc9, (by decide)⟩
  · exact ⟨_, _, _, zc3, (by decide)⟩
  · exact ⟨_, _, _, zc0, (by decide)⟩
  · exact ⟨_, _, _, zc1, (by decide)⟩
  · exact ⟨_, _, _, zc7, (by decide)⟩
def isNumbered (k : Int) : Bool := decide (k = 3) || decide (k = 0)
theorem isNumbered_ok : ∀ k : Int, okW k = true → ∃ (C : String) (T : u_T) (N : Nat), zCls k C T N ∧ if isNumbered k = true then (C = "GateRoad$Numbered" ∨ (C, "GateRoad$Numbered") ∈ zCast) else (C, "GateRoad$Numbered") ∈ zNot := by
  intro k h
  rcases okW_or h with rfl | rfl | rfl | rfl | rfl | rfl
  · exact ⟨_, _, _, zc10, (by decide)⟩
  · exact ⟨_, _, _, zc9, (by decide)⟩
  · exact ⟨_, _, _, zc3, (by decide)⟩
  · exact ⟨_, _, _, zc0, (by decide)⟩
  · exact ⟨_, _, _, zc1, (by decide)⟩
  · exact ⟨_, _, _, zc7, (by decide)⟩
def isDrawn (k : Int) : Bool := decide (k = 0)
theorem isDrawn_ok : ∀ k : Int, okW k = true → ∃ (C : String) (T : u_T) (N : Nat), zCls k C T N ∧ if isDrawn k = true then (C = "GateRoad$Drawn" ∨ (C, "GateRoad$Drawn") ∈ zCast) else (C, "GateRoad$Drawn") ∈ zNot := by
  intro k h
  rcases okW_or h with rfl | rfl | rfl | rfl | rfl | rfl
  · exact ⟨_, _, _, zc10, (by decide)⟩
  · exact ⟨_, _, _, zc9, (by decide)⟩
  · exact ⟨_, _, _, zc3, (by decide)⟩
  · exact ⟨_, _, _, zc0, (by decide)⟩
  · exact ⟨_, _, _, zc1, (by decide)⟩
  · exact ⟨_, _, _, zc7, (by decide)⟩
def isLast (k : Int) : Bool := decide (k = 1)
theorem isLast_ok : ∀ k : Int, okW k = true → ∃ (C : String) (T : u_T) (N : Nat), zCls k C T N ∧ if isLast k = true then (C = "GateRoad$Last" ∨ (C, "GateRoad$Last") ∈ zCast) else (C, "GateRoad$Last") ∈ zNot := by
  intro k h
  rcases okW_or h with rfl | rfl | rfl | rfl | rfl | rfl
  · exact ⟨_, _, _, zc10, (by decide)⟩
  · exact ⟨_, _, _, zc9, (by decide)⟩
  · exact ⟨_, _, _, zc3, (by decide)⟩
  · exact ⟨_, _, _, zc0, (by decide)⟩
  · exact ⟨_, _, _, zc1, (by decide)⟩
  · exact ⟨_, _, _, zc7, (by decide)⟩
def isSorted (k : Int) : Bool := decide (k = 7)
theorem isSorted_ok : ∀ k : Int, okW k = true → ∃ (C : String) (T : u_T) (N : Nat), zCls k C T N ∧ if isSorted k = true then (C = "GateRoad$Sorted" ∨ (C, "GateRoad$Sorted") ∈ zCast) else (C, "GateRoad$Sorted") ∈ zNot := by
  intro k h
  rcases okW_or h with rfl | rfl | rfl | rfl | rfl | rfl
  · exact ⟨_, _, _, zc10, (by decide)⟩
  · exact ⟨_, _, _, zc9, (by decide)⟩
  · exact ⟨_, _, _, zc3, (by decide)⟩
  · exact ⟨_, _, _, zc0, (by decide)⟩
  · exact ⟨_, _, _, zc1, (by decide)⟩
  · exact ⟨_, _, _, zc7, (by decide)⟩
