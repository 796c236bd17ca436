/-! instanceof, with its answer known to be 0 or 1 -/
section ZIA
variable {X : ZX} {G : Prop} {cc : ByteArray} {own : String} {d pc : Nat} {lv lv' : List (Nat × ZV)} {st : List ZV} {σ : ZS}
theorem z_instA (hX : G → ZOk X cc own d) {idx : Nat} {nm : String} (yes known : Int → Bool) (hl : Cond.classLink own idx nm ∈ zT)
    (hyes : ∀ k : Int, known k = true → ∃ (C : String) (T : u_T) (N : Nat), zCls k C T N ∧ if yes k = true then (C = nm ∨ (C, nm) ∈ zCast) else (C, nm) ∈ zNot)
    (hd : decode cc pc = .ok (.instanceof idx, 3)) {a : Int} {O : Int → Option (Int × ZS)} (kk : ∀ w : Int, (w = 0 ∨ w = 1) → Zj X G (pc + 3) lv ((0, w) :: st) σ (O w)) : Zj X G pc lv ((2, a) :: st) σ ((zio σ a yes known).bind O) := by
  have e : (zio σ a yes known).bind O = (zio σ a yes known).bind (fun w => if w = 0 ∨ w = 1 then O w else none) := by
    unfold zio
    split
    · rfl
    · split
      · split <;> rfl
      · rfl
  rw [e]
  refine z_inst hX yes known hl hyes hd (fun w => ?_)
  by_cases h : w = 0 ∨ w = 1
  · rw [if_pos h]; exact kk w h
  · rw [if_neg h]; exact z_none
end ZIA
