/-! the makers on numbers: what stands then -/
def alv (τ : ZS) (q : Int × Nat × Int) : Bool := (List.range q.2.1).all fun i : Nat => decide (sM τ q.1 (i : Int) = q.2.2)
theorem alv_at {τ : ZS} {q : Int × Nat × Int} (h : alv τ q = true) : ∀ i : Int, 0 ≤ i → i < (q.2.1 : Int) → sM τ q.1 i = q.2.2 := by
  intro i h0 h1
  obtain ⟨n, rfl⟩ := Int.eq_ofNat_of_zero_le h0
  have := List.all_eq_true.mp h n (List.mem_range.mpr (by omega))
  exact of_decide_eq_true this
def rowsL : List (Int × Nat × Int) := [(7, 24, 1), (8, 24, 1), (10, 24, 0), (11, 24, 0), (65, 48, 1), (66, 48, 0), (13, 4, 0), (14, 4, 0), (15, 4, 0), (16, 4, 0), (17, 16, 0), (67, 4, 0), (68, 4, 0), (69, 8, 0), (70, 16, 0), (57, 40, 0), (59, 40, 0), (61, 40, 0), (63, 40, 0), (81, 4, -1), (82, 4, 0), (83, 160, 0)]
def onesL : List (Int × Int × Int) := [(5, 5, 0), (64, 2, 0), (5, 8, 0), (5, 7, 0), (64, 6, 0), (3, 3, 0), (64, 8, 0), (34, 1, 0), (64, 13, 0), (3, 6, 1), (64, 16, 1), (39, 0, 55), (55, 0, 0), (55, 1, 1), (76, 0, 0), (76, 1, 11), (76, 2, 12), (3, 7, 0), (64, 17, 0), (3, 10, 0), (64, 18, 0), (56, 1, -1), (58, 1, -1), (60, 1, -1), (62, 1, -1), (56, 2, 0), (58, 2, 0), (60, 2, 0), (62, 2, 0), (0, 0, 10000), (1, 0, 10000), (0, 1, 2), (0, 2, 10008), (0, 3, 10001), (0, 4, 10006), (0, 5, 10002), (0, 6, 3), (0, 7, 10008), (0, 8, 10006), (0, 9, 10005), (0, 10, 10006), (75, 0, 0), (75, 1, 100002), (75, 2, 18), (75, 3, 1), (75, 4, 16), (75, 5, 2), (75, 6, 100003), (75, 7, 18), (75, 8, 16), (75, 9, 5), (75, 10, 16), (75, 11, 0)]
def chK (τ : ZS) : Bool := (List.range 93).all fun a : Nat => decide (sK τ (a : Int) = fK a) && (decide (a = 2) || decide (sL τ (a : Int) = fL a))
def chM (τ : ZS) : Bool := finl.all fun q => decide (sM τ q.1 q.2.1 = q.2.2)
def chO (τ : ZS) : Bool := onesL.all fun q => decide (sM τ q.1 q.2.1 = q.2.2)
def chR (τ : ZS) : Bool := rowsL.all fun q => alv τ q
def chN (τ : ZS) : Bool := decide (sN τ = 93) && decide (sT τ ≤ 5000)
def mrun (g : ZS → Bool) : Bool := match fX11_init (znew (z0 (fun _ => 0) 0) 11 17) 3 with
  | some (_, τ) => decide (sN τ = 64) && (match fX12_init (znew τ 12 49) 64 with
    | some (_, ρ) => g ρ
    | none => false)
  | none => false
theorem mr_n : mrun chN = true := by decide +kernel
theorem mr_k : mrun chK = true := by decide +kernel
theorem mr_m : mrun chM = true := by decide +kernel
theorem mr_o : mrun chO = true := by decide +kernel
theorem mr_r : mrun chR = true := by decide +kernel
