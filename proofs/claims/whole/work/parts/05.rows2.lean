/-! rows: the stack, the locals, numbers, branches -/
theorem zOkS.cons {N : Nat} {q : ZV} {st : List ZV} (h : zOk N q) (hs : zOkS N st) : zOkS N (q :: st) := fun x hx => (List.mem_cons.mp hx).elim (fun e => e ▸ h) (hs x)
theorem zOkS.hd {N : Nat} {q : ZV} {st : List ZV} (hs : zOkS N (q :: st)) : zOk N q := hs q List.mem_cons_self
theorem zOkS.tl {N : Nat} {q : ZV} {st : List ZV} (hs : zOkS N (q :: st)) : zOkS N st := fun x hx => hs x (List.mem_cons_of_mem _ hx)
theorem zOkS.c0 {N : Nat} {v : Int} {st : List ZV} (hs : zOkS N st) (h : zInR v) : zOkS N ((0, v) :: st) := zOkS.cons (q := (0, v)) h hs
theorem zOkS.c1 {N : Nat} {v : Int} {st : List ZV} (hs : zOkS N st) (h : zInL v) : zOkS N ((1, v) :: st) := zOkS.cons (q := (1, v)) h hs
theorem zOkS.c2 {N : Nat} {v : Int} {st : List ZV} (hs : zOkS N st) (h : -1 ≤ v ∧ v < (N : Int)) : zOkS N ((2, v) :: st) := zOkS.cons (q := (2, v)) h hs
theorem zOkL.at {N : Nat} {lv : List (Nat × ZV)} (h : zOkL N lv) {k i : Nat} {q : ZV} (hk : lv[k]? = some (i, q)) : zOk N q := h (i, q) (List.mem_of_getElem? hk)
theorem zls_at {r : Nat → Nat} {lv : List (Nat × ZV)} {k i : Nat} {q : ZV} (hk : lv[k]? = some (i, q)) : (zls r lv)[k]? = some (i, zV r q) := by
  unfold zls
  rw [List.getElem?_map, hk]
  rfl
theorem zV_cat (r : Nat → Nat) (q : ZV) : (zV r q).category = if q.1 = 1 then 2 else 1 := by
  obtain ⟨t, v⟩ := q
  match t with
  | 0 => rfl
  | 1 => rfl
  | 2 =>
    show (if v < 0 then Value.null else Value.ref (r v.toNat)).category = _
    split <;> rfl
  | t + 3 =>
    show (Value.ref v.toNat).category = _
    rw [if_neg (by show ¬ t + 3 = 1; omega)]
    rfl
def zset1 (lv : List (Nat × ZV)) (i : Nat) (q : ZV) : List (Nat × ZV) := (i, q) :: lv.filter (fun p => !(p.1 == i) && !(p.1 + 1 == i && p.2.1 == 1))
def zset2 (lv : List (Nat × ZV)) (i : Nat) (q : ZV) : List (Nat × ZV) := (i, q) :: lv.filter (fun p => !(p.1 == i) && (!(p.1 == i + 1) && !(p.1 + 1 == i && p.2.1 == 1)))
theorem zcat_beq (r : Nat → Nat) (q : ZV) : ((zV r q).category == 2) = (q.1 == 1) := by
  rw [zV_cat]
  by_cases h : q.1 = 1
  · rw [if_pos h, h]; rfl
  · rw [if_neg h]
    have : (q.1 == 1) = false := by simpa using h
    rw [this]; rfl
theorem zset1_map (r : Nat → Nat) (lv : List (Nat × ZV)) (i : Nat) (q : ZV) : (i, zV r q) :: (zls r lv).filter (fun p => !(p.1 == i) && !(p.1 + 1 == i && p.2.category == 2)) = zls r (zset1 lv i q) := by
  unfold zset1 zls
  rw [List.map_cons, List.filter_map]
  congr 2
  apply List.filter_congr
  intro p _
  simp only [Function.comp]
  rw [zcat_beq]
theorem zset2_map (r : Nat → Nat) (lv : List (Nat × ZV)) (i : Nat) (q : ZV) : (i, zV r q) :: (zls r lv).filter (fun p => !(p.1 == i) && (!(p.1 == i + 1) && !(p.1 + 1 == i && p.2.category == 2))) = zls r (zset2 lv i q) := by
  unfold zset2 zls
  rw [List.map_cons, List.filter_map]
  congr 2
  apply List.filter_congr
  intro p _
  simp only [Function.comp]
  rw [zcat_beq]
theorem zOkL.set1 {N : Nat} {lv : List (Nat × ZV)} {i : Nat} {q : ZV} (h : zOkL N lv) (hq : zOk N q) : zOkL N (zset1 lv i q) := fun x hx => (List.mem_cons.mp hx).elim (fun e => by rw [e]; exact hq) (fun hm => h x (List.mem_filter.mp hm).1)
theorem zOkL.set2 {N : Nat} {lv : List (Nat × ZV)} {i : Nat} {q : ZV} (h : zOkL N lv) (hq : zOk N q) : zOkL N (zset2 lv i q) := fun x hx => (List.mem_cons.mp hx).elim (fun e => by rw [e]; exact hq) (fun hm => h x (List.mem_filter.mp hm).1)
section ZR
variable {X : ZX} {G : Prop} {cc : ByteArray} {own : String} {d pc : Nat} {lv lv' : List (Nat × ZV)} {st : List ZV} {σ : ZS} {O O1 O2 : Option (Int × ZS)}
/-- storing a local -/
theorem z_lcl {pc' : Nat} {st' : List ZV} (hok : zWT σ → zOkL (sN σ) lv → zOkS (sN σ) st → zOkS (sN σ) st' ∧ zOkL (sN σ) lv')
    (h : G → zWT σ → zOkL (sN σ) lv → zOkS (sN σ) st → ∀ (H : Heap) (locs : List Loc) (ls : Array Slot) (cells slots : Nat) (Q : State → Prop), lv_has ls (xn X) (zls (eR (xE X)) lv) → (∀ ls' : Array Slot, lv_has ls' (xn X) (zls (eR (xE X)) lv') → WX X H locs cells slots Q pc' ls' (zvs (eR (xE X)) st')) → WX X H locs cells slots Q pc ls (zvs (eR (xE X)) st))
    (k : Zj X G pc' lv' st' σ O) : Zj X G pc lv st σ O := by
  intro v σ' hO hw hl hs h1 h2
  obtain ⟨a, b⟩ := k v σ' hO hw (hok hw hl hs).2 (hok hw hl hs).1 h1 h2
  exact ⟨a, fun g hR H locs ls hr hS hls => h g hw hl hs H locs ls _ _ _ hls (fun ls' h' => b g hR H locs ls' hr hS h')⟩
theorem z_pick (ks : List Nat) (hl : ks.filterMap (fun k => lv[k]?) = lv') (k : Zj X G pc lv' st σ O) : Zj X G pc lv st σ O := by
  intro v σ' hO hw hl0 hs h1 h2
  obtain ⟨a, b⟩ := k v σ' hO hw (fun q hq => by rw [← hl] at hq; obtain ⟨j, -, hj⟩ := List.mem_filterMap.mp hq; exact hl0 q (List.mem_of_getElem? hj)) hs h1 h2
  refine ⟨a, fun g hR H locs ls hr hS hls => b g hR H locs ls hr hS (lv_sub hls ks ?_)⟩
  unfold lv_pick
  rw [← hl]
  unfold zls
  rw [List.map_filterMap]
  congr 1
  funext j
  rw [List.getElem?_map]
theorem z_iconst (hX : G → ZOk X cc own d) {n : Int} (hd : decode cc pc = .ok (.iconst n, 1)) (k : Zj X G (pc + 1) lv ((0, n) :: st) σ O) (hn : zInR n := by exact ⟨by decide, by decide⟩) : Zj X G pc lv st σ O :=
  z_stk (fun _ _ hs => hs.c0 hn) (fun g _ _ _ _ _ _ _ _ _ _ _ _ w => lv_iconst (hX g).1 (hX g).2.1 hd rfl w) k
theorem z_bipush (hX : G → ZOk X cc own d) {n : Int} (hd : decode cc pc = .ok (.bipush n, 2)) (k : Zj X G (pc + 2) lv ((0, n) :: st) σ O) (hn : zInR n := by exact ⟨by decide, by decide⟩) (hv : (Int8.ofInt n).toInt32 = Int32.ofInt n := by decide) : Zj X G pc lv st σ O :=
  z_stk (fun _ _ hs => hs.c0 hn) (fun g _ _ _ _ _ _ _ _ _ _ _ _ w => lv_bipush (hX g).1 (hX g).2.1 hd hv w) k
theorem z_sipush (hX : G → ZOk X cc own d) {n : Int} (hd : decode cc pc = .ok (.sipush n, 3)) (k : Zj X G (pc + 3) lv ((0, n) :: st) σ O) (hn : zInR n := by exact ⟨by decide, by decide⟩) (hv : (Int16.ofInt n).toInt32 = Int32.ofInt n := by decide) : Zj X G pc lv st σ O :=
  z_stk (fun _ _ hs => hs.c0 hn) (fun g _ _ _ _ _ _ _ _ _ _ _ _ w => lv_sipush (hX g).1 (hX g).2.1 hd hv w) k
theorem z_lconst (hX : G → ZOk X cc own d) {n : Fin 2} {m : Int} (hd : decode cc pc = .ok (.lconst n, 1)) (hm : ((n : Nat) : Int) = m) (k : Zj X G (pc + 1) lv ((1, m) :: st) σ O) : Zj X G pc lv st σ O :=
  z_stk (fun _ _ hs => hs.c1 (by show zInL m; unfold zInL; have := n.isLt; omega)) (fun g _ _ _ _ _ _ _ _ _ _ _ _ w => lv_lconst (hX g).1 (hX g).2.1 hd (by rw [← hm]; exact (Int64.ofInt_eq_ofNat ▸ rfl)) w) k
theorem z_ldc (hX : G → ZOk X cc own d) {i : Nat} {n : Int} {v : Int32} (hd : decode cc pc = .ok (.ldc i, 2)) (hw : Cond.constant own i v ∈ zT) (hv : v = Int32.ofInt n) (k : Zj X G (pc + 2) lv ((0, n) :: st) σ O) (hn : zInR n := by exact ⟨by decide, by decide⟩) : Zj X G pc lv st σ O :=
  z_stk (fun _ _ hs => hs.c0 hn) (fun g _ _ _ _ _ _ _ _ _ _ _ _ w => W.ldc (hX g).1 (hX g).2.1 (hX g).2.2.2.1 ((hX g).2.2.2.2.1 _ hw) rfl hd (by rw [hv]; exact w)) k
theorem z_ldc2 (hX : G → ZOk X cc own d) {i : Nat} {n : Int} {v : Int64} (hd : decode cc pc = .ok (.ldc2_w i, 3)) (hw : Cond.constantLong own i v ∈ zT) (hv : v = Int64.ofInt n) (k : Zj X G (pc + 3) lv ((1, n) :: st) σ O) (hn : zInL n := by exact ⟨by decide, by decide⟩) : Zj X G pc lv st σ O :=
  z_stk (fun _ _ hs => hs.c1 hn) (fun g _ _ _ _ _ _ _ _ _ _ _ _ w => W.ldc2 (hX g).1 (hX g).2.1 (hX g).2.2.2.1 ((hX g).2.2.2.2.1 _ hw) rfl hd (by rw [hv]; exact w)) k

theorem z_iload_n (hX : G → ZOk X cc own d) (k : Nat) {i : Fin 4} {j : Nat} {x : Int} (hd : decode cc pc = .ok (.iload_n i, 1)) (hl : lv[k]? = some (j, (0, x))) (hi : (i : Nat) = j) (kk : Zj X G (pc + 1) lv ((0, x) :: st) σ O) : Zj X G pc lv st σ O :=
  z_stk (fun _ h hs => zOkS.cons (h.at hl) hs) (fun g _ _ _ _ _ _ _ _ _ _ _ hls w => lv_iload_n (hX g).1 (hX g).2.1 hd hi (lv_at hls k (zls_at hl)) w) kk
theorem z_iload (hX : G → ZOk X cc own d) (k : Nat) {j : Nat} {x : Int} (hd : decode cc pc = .ok (.iload j, 2)) (hl : lv[k]? = some (j, (0, x))) (kk : Zj X G (pc + 2) lv ((0, x) :: st) σ O) : Zj X G pc lv st σ O :=
  z_stk (fun _ h hs => zOkS.cons (h.at hl) hs) (fun g _ _ _ _ _ _ _ _ _ _ _ hls w => lv_iload (hX g).1 (hX g).2.1 hd (lv_at hls k (zls_at hl)) w) kk

theorem z_lload_n (hX : G → ZOk X cc own d) (k : Nat) {i : Fin 4} {j : Nat} {x : Int} (hd : decode cc pc = .ok (.lload_n i, 1)) (hl : lv[k]? = some (j, (1, x))) (hi : (i : Nat) = j) (kk : Zj X G (pc + 1) lv ((1, x) :: st) σ O) : Zj X G pc lv st σ O :=
  z_stk (fun _ h hs => zOkS.cons (h.at hl) hs) (fun g _ _ _ _ _ _ _ _ _ _ _ hls w => lv_lload_n (hX g).1 (hX g).2.1 hd hi (lv_at hls k (zls_at hl)) w) kk
theorem z_lload (hX : G → ZOk X cc own d) (k : Nat) {j : Nat} {x : Int} (hd : decode cc pc = .ok (.lload j, 2)) (hl : lv[k]? = some (j, (1, x))) (kk : Zj X G (pc + 2) lv ((1, x) :: st) σ O) : Zj X G pc lv st σ O :=
  z_stk (fun _ h hs => zOkS.cons (h.at hl) hs) (fun g _ _ _ _ _ _ _ _ _ _ _ hls w => lv_lload (hX g).1 (hX g).2.1 hd (lv_at hls k (zls_at hl)) w) kk

theorem zV_ref {r : Nat → Nat} {x : Int} (h : ¬ x < 0) : zV r (2, x) = .ref (r x.toNat) := if_neg h
theorem zV_null {r : Nat → Nat} {x : Int} (h : x < 0) : zV r (2, x) = .null := if_pos h
theorem zvs_c {r : Nat → Nat} {q : ZV} {st : List ZV} : zvs r (q :: st) = zV r q :: zvs r st := rfl
theorem z_aload_n (hX : G → ZOk X cc own d) (k : Nat) {i : Fin 4} {j : Nat} {x : Int} (hd : decode cc pc = .ok (.aload_n i, 1)) (hl : lv[k]? = some (j, (2, x))) (hi : (i : Nat) = j) (kk : Zj X G (pc + 1) lv ((2, x) :: st) σ O) : Zj X G pc lv st σ O :=
  z_stk (fun _ h hs => zOkS.cons (h.at hl) hs) (fun g _ _ _ _ _ _ _ _ _ _ _ hls w => by
    have h0 := lv_at hls k (zls_at hl)
    rw [zvs_c] at w
    by_cases hx : x < 0
    · rw [zV_null hx] at h0 w
      exact lv_aload_nN (hX g).1 (hX g).2.1 hd hi h0 w
    · rw [zV_ref hx] at h0 w
      exact lv_aload_n (hX g).1 (hX g).2.1 hd hi h0 w) kk
theorem z_aload (hX : G → ZOk X cc own d) (k : Nat) {j : Nat} {x : Int} (hd : decode cc pc = .ok (.aload j, 2)) (hl : lv[k]? = some (j, (2, x))) (kk : Zj X G (pc + 2) lv ((2, x) :: st) σ O) : Zj X G pc lv st σ O :=
  z_stk (fun _ h hs => zOkS.cons (h.at hl) hs) (fun g _ _ _ _ _ _ _ _ _ _ _ hls w => by
    have h0 := lv_at hls k (zls_at hl)
    rw [zvs_c] at w
    by_cases hx : x < 0
    · rw [zV_null hx] at h0 w
      exact lv_aloadN (hX g).1 (hX g).2.1 hd h0 w
    · rw [zV_ref hx] at h0 w
      exact lv_aload (hX g).1 (hX g).2.1 hd h0 w) kk

theorem z_istore_n (hX : G → ZOk X cc own d) {i : Fin 4} {j : Nat} {x : Int} (hd : decode cc pc = .ok (.istore_n i, 1)) (hi : (i : Nat) = j) (hn : j < xn X) (hl : zset1 lv j (0, x) = lv') (kk : Zj X G (pc + 1) lv' st σ O) : Zj X G pc lv ((0, x) :: st) σ O :=
  z_lcl (fun _ h hs => ⟨hs.tl, hl ▸ h.set1 hs.hd⟩) (fun g _ _ _ _ _ _ _ _ _ hls w => lv_istore_n (lv' := zls _ lv') (hX g).1 (hX g).2.1 hd hi hls hn (by rw [← hl]; exact zset1_map (eR (xE X)) lv j (0, x)) w) kk
theorem z_istore (hX : G → ZOk X cc own d) {i : Nat} {x : Int} (hd : decode cc pc = .ok (.istore i, 2)) (hn : i < xn X) (hl : zset1 lv i (0, x) = lv') (kk : Zj X G (pc + 2) lv' st σ O) : Zj X G pc lv ((0, x) :: st) σ O :=
  z_lcl (fun _ h hs => ⟨hs.tl, hl ▸ h.set1 hs.hd⟩) (fun g _ _ _ _ _ _ _ _ _ hls w => lv_istore (lv' := zls _ lv') (hX g).1 (hX g).2.1 hd hls hn (by rw [← hl]; exact zset1_map (eR (xE X)) lv i (0, x)) w) kk

theorem z_lstore_n (hX : G → ZOk X cc own d) {i : Fin 4} {j : Nat} {x : Int} (hd : decode cc pc = .ok (.lstore_n i, 1)) (hi : (i : Nat) = j) (hn : j + 1 < xn X) (hl : zset2 lv j (1, x) = lv') (kk : Zj X G (pc + 1) lv' st σ O) : Zj X G pc lv ((1, x) :: st) σ O :=
  z_lcl (fun _ h hs => ⟨hs.tl, hl ▸ h.set2 hs.hd⟩) (fun g _ _ _ _ _ _ _ _ _ hls w => lv_lstore_n (lv' := zls _ lv') (hX g).1 (hX g).2.1 hd hi hls hn (by rw [← hl]; exact zset2_map (eR (xE X)) lv j (1, x)) w) kk
theorem z_lstore (hX : G → ZOk X cc own d) {i : Nat} {x : Int} (hd : decode cc pc = .ok (.lstore i, 2)) (hn : i + 1 < xn X) (hl : zset2 lv i (1, x) = lv') (kk : Zj X G (pc + 2) lv' st σ O) : Zj X G pc lv ((1, x) :: st) σ O :=
  z_lcl (fun _ h hs => ⟨hs.tl, hl ▸ h.set2 hs.hd⟩) (fun g _ _ _ _ _ _ _ _ _ hls w => lv_lstore (lv' := zls _ lv') (hX g).1 (hX g).2.1 hd hls hn (by rw [← hl]; exact zset2_map (eR (xE X)) lv i (1, x)) w) kk

theorem z_astore_n (hX : G → ZOk X cc own d) {i : Fin 4} {j : Nat} {x : Int} (hd : decode cc pc = .ok (.astore_n i, 1)) (hi : (i : Nat) = j) (hn : j < xn X) (hl : zset1 lv j (2, x) = lv') (kk : Zj X G (pc + 1) lv' st σ O) : Zj X G pc lv ((2, x) :: st) σ O :=
  z_lcl (fun _ h hs => ⟨hs.tl, hl ▸ h.set1 hs.hd⟩) (fun g _ _ _ _ _ _ _ _ _ hls w => by
    have h0 := zset1_map (eR (xE X)) lv j (2, x)
    rw [hl] at h0
    rw [zvs_c]
    by_cases hx : x < 0
    · rw [zV_null hx] at h0 ⊢
      exact lv_astore_nN (lv' := zls _ lv') (hX g).1 (hX g).2.1 hd hi hls hn h0 w
    · rw [zV_ref hx] at h0 ⊢
      exact lv_astore_n (lv' := zls _ lv') (hX g).1 (hX g).2.1 hd hi hls hn h0 w) kk

theorem z_astore (hX : G → ZOk X cc own d) {j : Nat} {x : Int} (hd : decode cc pc = .ok (.astore j, 2)) (hn : j < xn X) (hl : zset1 lv j (2, x) = lv') (kk : Zj X G (pc + 2) lv' st σ O) : Zj X G pc lv ((2, x) :: st) σ O :=
  z_lcl (fun _ h hs => ⟨hs.tl, hl ▸ h.set1 hs.hd⟩) (fun g _ _ _ _ _ _ _ _ _ hls w => by
    have h0 := zset1_map (eR (xE X)) lv j (2, x)
    rw [hl] at h0
    rw [zvs_c]
    by_cases hx : x < 0
    · rw [zV_null hx] at h0 ⊢
      exact lv_astoreN (lv' := zls _ lv') (hX g).1 (hX g).2.1 hd hls hn h0 w
    · rw [zV_ref hx] at h0 ⊢
      exact lv_astore (lv' := zls _ lv') (hX g).1 (hX g).2.1 hd hls hn h0 w) kk

theorem z_iinc (hX : G → ZOk X cc own d) (k : Nat) {j : Nat} {n x : Int} (hd : decode cc pc = .ok (.iinc j n, 3)) (hk : lv[k]? = some (j, (0, x))) (hn : j < xn X) (hl : zset1 lv j (0, wrap (x + n)) = lv') (kk : Zj X G (pc + 3) lv' st σ O) : Zj X G pc lv st σ O :=
  z_lcl (fun _ h hs => ⟨hs, hl ▸ h.set1 (wrap_in _)⟩) (fun g _ _ _ _ _ _ _ _ _ hls w => lv_iinc (lv' := zls _ lv') (hX g).1 (hX g).2.1 hd hls (zls_at hk) (z_add x n) hn (by rw [← hl]; exact zset1_map (eR (xE X)) lv j (0, wrap (x + n))) w) kk
theorem z_goto (hX : G → ZOk X cc own d) {off : Int} (tgt : Nat) (hd : decode cc pc = .ok (.goto off, 3)) (ht : (pc : Int) + off = (tgt : Int)) (k : Zj X G tgt lv st σ O) : Zj X G pc lv st σ O :=
  z_stk (fun _ _ hs => hs) (fun g _ _ _ _ _ _ _ _ _ _ _ _ w => lv_goto (hX g).1 (hX g).2.1 hd ht w) k

theorem z_iadd (hX : G → ZOk X cc own d) {x y : Int} (hd : decode cc pc = .ok (.iadd, 1)) (k : Zj X G (pc + 1) lv ((0, wrap (x + y)) :: st) σ O) : Zj X G pc lv ((0, y) :: (0, x) :: st) σ O :=
  z_stk (fun _ _ hs => hs.tl.tl.c0 (wrap_in _)) (fun g _ _ _ _ _ _ _ _ _ _ _ _ w => lv_iadd (hX g).1 (hX g).2.1 hd (by
    have e := z_add x y
    rw [e]; exact w)) k

theorem z_isub (hX : G → ZOk X cc own d) {x y : Int} (hd : decode cc pc = .ok (.isub, 1)) (k : Zj X G (pc + 1) lv ((0, wrap (x - y)) :: st) σ O) : Zj X G pc lv ((0, y) :: (0, x) :: st) σ O :=
  z_stk (fun _ _ hs => hs.tl.tl.c0 (wrap_in _)) (fun g _ _ _ _ _ _ _ _ _ _ _ _ w => lv_isub (hX g).1 (hX g).2.1 hd (by
    have e := z_sub x y
    rw [e]; exact w)) k

theorem z_imul (hX : G → ZOk X cc own d) {x y : Int} (hd : decode cc pc = .ok (.imul, 1)) (k : Zj X G (pc + 1) lv ((0, wrap (x * y)) :: st) σ O) : Zj X G pc lv ((0, y) :: (0, x) :: st) σ O :=
  z_stk (fun _ _ hs => hs.tl.tl.c0 (wrap_in _)) (fun g _ _ _ _ _ _ _ _ _ _ _ _ w => lv_imul (hX g).1 (hX g).2.1 hd (by
    have e := z_mul x y
    rw [e]; exact w)) k

theorem z_iand (hX : G → ZOk X cc own d) {x y : Int} (hd : decode cc pc = .ok (.iand, 1)) (k : Zj X G (pc + 1) lv ((0, iAnd x y) :: st) σ O) : Zj X G pc lv ((0, y) :: (0, x) :: st) σ O :=
  z_stk (fun _ _ hs => hs.tl.tl.c0 (z_inR _)) (fun g _ _ _ _ _ _ _ _ _ _ _ _ w => lv_iand (hX g).1 (hX g).2.1 hd (by
    have e : Int32.ofInt x &&& Int32.ofInt y = Int32.ofInt (iAnd x y) := (z_ofToInt _).symm
    rw [e]; exact w)) k

theorem z_ior (hX : G → ZOk X cc own d) {x y : Int} (hd : decode cc pc = .ok (.ior, 1)) (k : Zj X G (pc + 1) lv ((0, iOr x y) :: st) σ O) : Zj X G pc lv ((0, y) :: (0, x) :: st) σ O :=
  z_stk (fun _ _ hs => hs.tl.tl.c0 (z_inR _)) (fun g _ _ _ _ _ _ _ _ _ _ _ _ w => lv_ior (hX g).1 (hX g).2.1 hd (by
    have e : Int32.ofInt x ||| Int32.ofInt y = Int32.ofInt (iOr x y) := (z_ofToInt _).symm
    rw [e]; exact w)) k

theorem z_ishl (hX : G → ZOk X cc own d) {x y : Int} (hd : decode cc pc = .ok (.ishl, 1)) (k : Zj X G (pc + 1) lv ((0, iShl x y) :: st) σ O) : Zj X G pc lv ((0, y) :: (0, x) :: st) σ O :=
  z_stk (fun _ _ hs => hs.tl.tl.c0 (z_inR _)) (fun g _ _ _ _ _ _ _ _ _ _ _ _ w => lv_ishl (hX g).1 (hX g).2.1 hd (by
    have e : Int32.ofInt x <<< (Int32.ofInt y &&& 31) = Int32.ofInt (iShl x y) := (z_ofToInt _).symm
    rw [e]; exact w)) k
theorem z_idiv (hX : G → ZOk X cc own d) {x y : Int} (hd : decode cc pc = .ok (.idiv, 1)) (k : ¬ y = 0 → Zj X G (pc + 1) lv ((0, wrap (x.tdiv y)) :: st) σ O) : Zj X G pc lv ((0, y) :: (0, x) :: st) σ (if y = 0 then none else O) := by
  by_cases h0 : y = 0
  · rw [if_pos h0]; exact z_none
  rw [if_neg h0]
  exact z_stk (fun _ _ hs => hs.tl.tl.c0 (wrap_in _)) (fun g _ _ hs _ _ _ _ _ _ _ _ _ w => lv_idiv (hX g).1 (hX g).2.1 hd (fun h => h0 ((z_eqI hs.hd ⟨by decide, by decide⟩).mp h)) (by
    have e := z_div (a := x) (b := y) hs.tl.hd hs.hd
    rw [e]; exact w)) (k h0)
theorem z_irem (hX : G → ZOk X cc own d) {x y : Int} (hd : decode cc pc = .ok (.irem, 1)) (k : ¬ y = 0 → Zj X G (pc + 1) lv ((0, x.tmod y) :: st) σ O) : Zj X G pc lv ((0, y) :: (0, x) :: st) σ (if y = 0 then none else O) := by
  by_cases h0 : y = 0
  · rw [if_pos h0]; exact z_none
  rw [if_neg h0]
  exact z_stk (fun _ _ hs => hs.tl.tl.c0 (z_tmodIn hs.tl.hd)) (fun g _ _ hs _ _ _ _ _ _ _ _ _ w => lv_irem (hX g).1 (hX g).2.1 hd (fun h => h0 ((z_eqI hs.hd ⟨by decide, by decide⟩).mp h)) (by
    have e := z_rem (a := x) (b := y) hs.tl.hd hs.hd
    rw [e]; exact w)) (k h0)
theorem z_ldiv (hX : G → ZOk X cc own d) {x y : Int} (hd : decode cc pc = .ok (.ldiv, 1)) (k : ¬ y = 0 → Zj X G (pc + 1) lv ((1, wrapL (x.tdiv y)) :: st) σ O) : Zj X G pc lv ((1, y) :: (1, x) :: st) σ (if y = 0 then none else O) := by
  by_cases h0 : y = 0
  · rw [if_pos h0]; exact z_none
  rw [if_neg h0]
  exact z_stk (fun _ _ hs => hs.tl.tl.c1 (wrapL_in _)) (fun g _ _ hs _ _ _ _ _ _ _ _ _ w => lv_ldiv (hX g).1 (hX g).2.1 hd (fun h => h0 ((z_eqL hs.hd ⟨by decide, by decide⟩).mp h)) (by
    have e := z_divL (a := x) (b := y) hs.tl.hd hs.hd
    rw [e]; exact w)) (k h0)
theorem z_lrem (hX : G → ZOk X cc own d) {x y : Int} (hd : decode cc pc = .ok (.lrem, 1)) (k : ¬ y = 0 → Zj X G (pc + 1) lv ((1, x.tmod y) :: st) σ O) : Zj X G pc lv ((1, y) :: (1, x) :: st) σ (if y = 0 then none else O) := by
  by_cases h0 : y = 0
  · rw [if_pos h0]; exact z_none
  rw [if_neg h0]
  exact z_stk (fun _ _ hs => hs.tl.tl.c1 (z_tmodInL hs.tl.hd)) (fun g _ _ hs _ _ _ _ _ _ _ _ _ w => lv_lrem (hX g).1 (hX g).2.1 hd (fun h => h0 ((z_eqL hs.hd ⟨by decide, by decide⟩).mp h)) (by
    have e := z_remL (a := x) (b := y) hs.tl.hd hs.hd
    rw [e]; exact w)) (k h0)
theorem z_ineg (hX : G → ZOk X cc own d) {x : Int} (hd : decode cc pc = .ok (.ineg, 1)) (k : Zj X G (pc + 1) lv ((0, wrap (-x)) :: st) σ O) : Zj X G pc lv ((0, x) :: st) σ O :=
  z_stk (fun _ _ hs => hs.tl.c0 (wrap_in _)) (fun g _ _ _ _ _ _ _ _ _ _ _ _ w => lv_ineg (hX g).1 (hX g).2.1 hd (by
    have e := z_neg x
    rw [e]; exact w)) k
theorem z_lneg (hX : G → ZOk X cc own d) {x : Int} (hd : decode cc pc = .ok (.lneg, 1)) (k : Zj X G (pc + 1) lv ((1, wrapL (-x)) :: st) σ O) : Zj X G pc lv ((1, x) :: st) σ O :=
  z_stk (fun _ _ hs => hs.tl.c1 (wrapL_in _)) (fun g _ _ _ _ _ _ _ _ _ _ _ _ w => lv_lneg (hX g).1 (hX g).2.1 hd (by
    have e := z_negL x
    rw [e]; exact w)) k

theorem z_ladd (hX : G → ZOk X cc own d) {x y : Int} (hd : decode cc pc = .ok (.ladd, 1)) (k : Zj X G (pc + 1) lv ((1, wrapL (x + y)) :: st) σ O) : Zj X G pc lv ((1, y) :: (1, x) :: st) σ O :=
  z_stk (fun _ _ hs => hs.tl.tl.c1 (wrapL_in _)) (fun g _ _ _ _ _ _ _ _ _ _ _ _ w => lv_ladd (hX g).1 (hX g).2.1 hd (by
    have e := z_addL x y
    rw [e]; exact w)) k

theorem z_lsub (hX : G → ZOk X cc own d) {x y : Int} (hd : decode cc pc = .ok (.lsub, 1)) (k : Zj X G (pc + 1) lv ((1, wrapL (x - y)) :: st) σ O) : Zj X G pc lv ((1, y) :: (1, x) :: st) σ O :=
  z_stk (fun _ _ hs => hs.tl.tl.c1 (wrapL_in _)) (fun g _ _ _ _ _ _ _ _ _ _ _ _ w => lv_lsub (hX g).1 (hX g).2.1 hd (by
    have e := z_subL x y
    rw [e]; exact w)) k

theorem z_lmul (hX : G → ZOk X cc own d) {x y : Int} (hd : decode cc pc = .ok (.lmul, 1)) (k : Zj X G (pc + 1) lv ((1, wrapL (x * y)) :: st) σ O) : Zj X G pc lv ((1, y) :: (1, x) :: st) σ O :=
  z_stk (fun _ _ hs => hs.tl.tl.c1 (wrapL_in _)) (fun g _ _ _ _ _ _ _ _ _ _ _ _ w => lv_lmul (hX g).1 (hX g).2.1 hd (by
    have e := z_mulL x y
    rw [e]; exact w)) k

theorem z_land (hX : G → ZOk X cc own d) {x y : Int} (hd : decode cc pc = .ok (.land, 1)) (k : Zj X G (pc + 1) lv ((1, lAnd x y) :: st) σ O) : Zj X G pc lv ((1, y) :: (1, x) :: st) σ O :=
  z_stk (fun _ _ hs => hs.tl.tl.c1 (z_inL _)) (fun g _ _ _ _ _ _ _ _ _ _ _ _ w => lv_land (hX g).1 (hX g).2.1 hd (by
    have e : Int64.ofInt x &&& Int64.ofInt y = Int64.ofInt (lAnd x y) := (z_ofToIntL _).symm
    rw [e]; exact w)) k

theorem z_lor (hX : G → ZOk X cc own d) {x y : Int} (hd : decode cc pc = .ok (.lor, 1)) (k : Zj X G (pc + 1) lv ((1, lOr x y) :: st) σ O) : Zj X G pc lv ((1, y) :: (1, x) :: st) σ O :=
  z_stk (fun _ _ hs => hs.tl.tl.c1 (z_inL _)) (fun g _ _ _ _ _ _ _ _ _ _ _ _ w => lv_lor (hX g).1 (hX g).2.1 hd (by
    have e : Int64.ofInt x ||| Int64.ofInt y = Int64.ofInt (lOr x y) := (z_ofToIntL _).symm
    rw [e]; exact w)) k

theorem z_lshl (hX : G → ZOk X cc own d) {x y : Int} (hd : decode cc pc = .ok (.lshl, 1)) (k : Zj X G (pc + 1) lv ((1, lShl x y) :: st) σ O) : Zj X G pc lv ((0, y) :: (1, x) :: st) σ O :=
  z_stk (fun _ _ hs => hs.tl.tl.c1 (z_inL _)) (fun g _ _ _ _ _ _ _ _ _ _ _ _ w => lv_lshl (v := Int64.ofInt (lShl x y)) (hX g).1 (hX g).2.1 hd (z_ofToIntL _).symm w) k

theorem z_lshr (hX : G → ZOk X cc own d) {x y : Int} (hd : decode cc pc = .ok (.lshr, 1)) (k : Zj X G (pc + 1) lv ((1, lShr x y) :: st) σ O) : Zj X G pc lv ((0, y) :: (1, x) :: st) σ O :=
  z_stk (fun _ _ hs => hs.tl.tl.c1 (z_inL _)) (fun g _ _ _ _ _ _ _ _ _ _ _ _ w => lv_lshr (v := Int64.ofInt (lShr x y)) (hX g).1 (hX g).2.1 hd (z_ofToIntL _).symm w) k

theorem z_lcmp (hX : G → ZOk X cc own d) {x y : Int} (hd : decode cc pc = .ok (.lcmp, 1)) (k : Zj X G (pc + 1) lv ((0, lCmp x y) :: st) σ O) : Zj X G pc lv ((1, y) :: (1, x) :: st) σ O :=
  z_stk (fun _ _ hs => hs.tl.tl.c0 (lCmp_in _ _)) (fun g _ _ hs _ _ _ _ _ _ _ _ _ w => by
    have hy : zInL y := hs.hd
    have hx : zInL x := hs.tl.hd
    refine W.lcmp (x := Int64.ofInt x) (y := Int64.ofInt y) (hX g).1 (hX g).2.1 hd ?_
    have e : lg_cmp (Int64.ofInt x) (Int64.ofInt y) = Int32.ofInt (lCmp x y) := by
      unfold lg_cmp lCmp
      have h1 : Int64.ofInt x > Int64.ofInt y ↔ y < x := z_ltL hy hx
      have h2 := z_eqL hx hy
      by_cases a1 : y < x
      · rw [if_pos (h1.mpr a1), if_pos a1]; rfl
      · rw [if_neg (fun h => a1 (h1.mp h)), if_neg a1]
        by_cases a2 : x = y
        · rw [if_pos (h2.mpr a2), if_pos a2]; rfl
        · rw [if_neg (fun h => a2 (h2.mp h)), if_neg a2]; rfl
    first | (rw [e]; exact w) | (unfold lg_cmp at e; rw [e]; exact w)) k
theorem z_i2lR (hX : G → ZOk X cc own d) {x : Int} (hd : decode cc pc = .ok (.i2l, 1)) (k : Zj X G (pc + 1) lv ((1, x) :: st) σ O) : Zj X G pc lv ((0, x) :: st) σ O :=
  z_stk (fun _ _ hs => hs.tl.c1 (by have h : zInR x := hs.hd; show zInL x; unfold zInR at h; unfold zInL; omega)) (fun g _ _ hs _ _ _ _ _ _ _ _ _ w => lv_i2l (hX g).1 (hX g).2.1 hd (z_i2l hs.hd) w) k
theorem z_l2iR (hX : G → ZOk X cc own d) {x : Int} (hd : decode cc pc = .ok (.l2i, 1)) (k : Zj X G (pc + 1) lv ((0, wrap x) :: st) σ O) : Zj X G pc lv ((1, x) :: st) σ O :=
  z_stk (fun _ _ hs => hs.tl.c0 (wrap_in _)) (fun g _ _ _ _ _ _ _ _ _ _ _ _ w => lv_l2i (hX g).1 (hX g).2.1 hd (z_l2i x) w) k

theorem z_i2b (hX : G → ZOk X cc own d) {x : Int} (hd : decode cc pc = .ok (.i2b, 1)) (k : Zj X G (pc + 1) lv ((0, iB x) :: st) σ O) : Zj X G pc lv ((0, x) :: st) σ O :=
  z_stk (fun _ _ hs => hs.tl.c0 (z_inR _)) (fun g _ _ _ _ _ _ _ _ _ _ _ _ w => lv_i2b (hX g).1 (hX g).2.1 hd (z_ofToInt _).symm w) k

theorem z_i2s (hX : G → ZOk X cc own d) {x : Int} (hd : decode cc pc = .ok (.i2s, 1)) (k : Zj X G (pc + 1) lv ((0, iS x) :: st) σ O) : Zj X G pc lv ((0, x) :: st) σ O :=
  z_stk (fun _ _ hs => hs.tl.c0 (z_inR _)) (fun g _ _ _ _ _ _ _ _ _ _ _ _ w => lv_i2s (hX g).1 (hX g).2.1 hd (z_ofToInt _).symm w) k

theorem z_i2c (hX : G → ZOk X cc own d) {x : Int} (hd : decode cc pc = .ok (.i2c, 1)) (k : Zj X G (pc + 1) lv ((0, iC x) :: st) σ O) : Zj X G pc lv ((0, x) :: st) σ O :=
  z_stk (fun _ _ hs => hs.tl.c0 (z_inR _)) (fun g _ _ _ _ _ _ _ _ _ _ _ _ w => lv_i2c (hX g).1 (hX g).2.1 hd (z_ofToInt _).symm w) k

theorem z_pop (hX : G → ZOk X cc own d) {q : ZV} (hq : ¬ q.1 = 1) (hd : decode cc pc = .ok (.pop, 1)) (k : Zj X G (pc + 1) lv st σ O) : Zj X G pc lv (q :: st) σ O :=
  z_stk (fun _ _ hs => hs.tl) (fun g _ _ _ _ _ _ _ _ _ _ _ _ w => lv_pop (hX g).1 (hX g).2.1 hd (by rw [zV_cat, if_neg hq]) w) k
theorem z_dup (hX : G → ZOk X cc own d) {q : ZV} (hq : ¬ q.1 = 1) (hd : decode cc pc = .ok (.dup, 1)) (k : Zj X G (pc + 1) lv (q :: q :: st) σ O) : Zj X G pc lv (q :: st) σ O :=
  z_stk (fun _ _ hs => zOkS.cons hs.hd hs) (fun g _ _ _ _ _ _ _ _ _ _ _ _ w => lv_dup (hX g).1 (hX g).2.1 hd (by rw [zV_cat, if_neg hq]) w) k
theorem z_dup_x1 (hX : G → ZOk X cc own d) {q1 q2 : ZV} (h1 : ¬ q1.1 = 1) (h2 : ¬ q2.1 = 1) (hd : decode cc pc = .ok (.dup_x1, 1)) (k : Zj X G (pc + 1) lv (q1 :: q2 :: q1 :: st) σ O) : Zj X G pc lv (q1 :: q2 :: st) σ O :=
  z_stk (fun _ _ hs => zOkS.cons hs.hd (zOkS.cons hs.tl.hd (zOkS.cons hs.hd hs.tl.tl))) (fun g _ _ _ _ _ _ _ _ _ _ _ _ w => lv_dup_x1 (hX g).1 (hX g).2.1 hd (by rw [zV_cat, if_neg h1]) (by rw [zV_cat, if_neg h2]) w) k
theorem z_dup2 (hX : G → ZOk X cc own d) {q1 q2 : ZV} (h1 : ¬ q1.1 = 1) (h2 : ¬ q2.1 = 1) (hd : decode cc pc = .ok (.dup2, 1)) (k : Zj X G (pc + 1) lv (q1 :: q2 :: q1 :: q2 :: st) σ O) : Zj X G pc lv (q1 :: q2 :: st) σ O :=
  z_stk (fun _ _ hs => zOkS.cons hs.hd (zOkS.cons hs.tl.hd hs)) (fun g _ _ _ _ _ _ _ _ _ _ _ _ w => lv_dup2_11 (hX g).1 (hX g).2.1 hd (by rw [zV_cat, if_neg h1]) (by rw [zV_cat, if_neg h2]) w) k
theorem z_null (hX : G → ZOk X cc own d) (hd : decode cc pc = .ok (.aconst_null, 1)) (k : Zj X G (pc + 1) lv ((2, -1) :: st) σ O) : Zj X G pc lv st σ O :=
  z_stk (fun _ _ hs => hs.c2 ⟨Int.le_refl _, by omega⟩) (fun g _ _ _ _ _ _ _ _ _ _ _ _ w => lv_null (hX g).1 (hX g).2.1 hd w) k

theorem z_icmp_lt (hX : G → ZOk X cc own d) {x y : Int} {off : Int} (tgt : Nat) (hd : decode cc pc = .ok (.if_icmp .lt off, 3)) (ht : (pc : Int) + off = (tgt : Int)) (kt : x < y → Zj X G tgt lv st σ O1) (kf : ¬ x < y → Zj X G (pc + 3) lv st σ O2) : Zj X G pc lv ((0, y) :: (0, x) :: st) σ (if x < y then O1 else O2) := by
  by_cases h : x < y
  · rw [if_pos h]
    exact z_stk (fun _ _ hs => hs.tl.tl) (fun g _ _ hs _ _ _ _ _ _ _ _ _ w => lv_icmp_lt (hX g).1 (hX g).2.1 hd ht (fun _ => w) (fun h' => absurd ((z_lt hs.tl.hd hs.hd).mpr h) h')) (kt h)
  · rw [if_neg h]
    exact z_stk (fun _ _ hs => hs.tl.tl) (fun g _ _ hs _ _ _ _ _ _ _ _ _ w => lv_icmp_lt (hX g).1 (hX g).2.1 hd ht (fun h' => absurd ((z_lt hs.tl.hd hs.hd).mp h') h) (fun _ => w)) (kf h)

theorem z_if_lt (hX : G → ZOk X cc own d) {x : Int} {off : Int} (tgt : Nat) (hd : decode cc pc = .ok (.ifCond .lt off, 3)) (ht : (pc : Int) + off = (tgt : Int)) (kt : x < 0 → Zj X G tgt lv st σ O1) (kf : ¬ x < 0 → Zj X G (pc + 3) lv st σ O2) : Zj X G pc lv ((0, x) :: st) σ (if x < 0 then O1 else O2) := by
  by_cases h : x < 0
  · rw [if_pos h]
    exact z_stk (fun _ _ hs => hs.tl) (fun g _ _ hs _ _ _ _ _ _ _ _ _ w => lv_if_lt (hX g).1 (hX g).2.1 hd ht (fun _ => w) (fun h' => absurd ((z_lt hs.hd (show zInR 0 from ⟨by decide, by decide⟩)).mpr h) h')) (kt h)
  · rw [if_neg h]
    exact z_stk (fun _ _ hs => hs.tl) (fun g _ _ hs _ _ _ _ _ _ _ _ _ w => lv_if_lt (hX g).1 (hX g).2.1 hd ht (fun h' => absurd ((z_lt hs.hd (show zInR 0 from ⟨by decide, by decide⟩)).mp h') h) (fun _ => w)) (kf h)

theorem z_icmp_le (hX : G → ZOk X cc own d) {x y : Int} {off : Int} (tgt : Nat) (hd : decode cc pc = .ok (.if_icmp .le off, 3)) (ht : (pc : Int) + off = (tgt : Int)) (kt : x ≤ y → Zj X G tgt lv st σ O1) (kf : ¬ x ≤ y → Zj X G (pc + 3) lv st σ O2) : Zj X G pc lv ((0, y) :: (0, x) :: st) σ (if x ≤ y then O1 else O2) := by
  by_cases h : x ≤ y
  · rw [if_pos h]
    exact z_stk (fun _ _ hs => hs.tl.tl) (fun g _ _ hs _ _ _ _ _ _ _ _ _ w => lv_icmp_le (hX g).1 (hX g).2.1 hd ht (fun _ => w) (fun h' => absurd ((z_le hs.tl.hd hs.hd).mpr h) h')) (kt h)
  · rw [if_neg h]
    exact z_stk (fun _ _ hs => hs.tl.tl) (fun g _ _ hs _ _ _ _ _ _ _ _ _ w => lv_icmp_le (hX g).1 (hX g).2.1 hd ht (fun h' => absurd ((z_le hs.tl.hd hs.hd).mp h') h) (fun _ => w)) (kf h)

theorem z_if_le (hX : G → ZOk X cc own d) {x : Int} {off : Int} (tgt : Nat) (hd : decode cc pc = .ok (.ifCond .le off, 3)) (ht : (pc : Int) + off = (tgt : Int)) (kt : x ≤ 0 → Zj X G tgt lv st σ O1) (kf : ¬ x ≤ 0 → Zj X G (pc + 3) lv st σ O2) : Zj X G pc lv ((0, x) :: st) σ (if x ≤ 0 then O1 else O2) := by
  by_cases h : x ≤ 0
  · rw [if_pos h]
    exact z_stk (fun _ _ hs => hs.tl) (fun g _ _ hs _ _ _ _ _ _ _ _ _ w => lv_if_le (hX g).1 (hX g).2.1 hd ht (fun _ => w) (fun h' => absurd ((z_le hs.hd (show zInR 0 from ⟨by decide, by decide⟩)).mpr h) h')) (kt h)
  · rw [if_neg h]
    exact z_stk (fun _ _ hs => hs.tl) (fun g _ _ hs _ _ _ _ _ _ _ _ _ w => lv_if_le (hX g).1 (hX g).2.1 hd ht (fun h' => absurd ((z_le hs.hd (show zInR 0 from ⟨by decide, by decide⟩)).mp h') h) (fun _ => w)) (kf h)

theorem z_icmp_gt (hX : G → ZOk X cc own d) {x y : Int} {off : Int} (tgt : Nat) (hd : decode cc pc = .ok (.if_icmp .gt off, 3)) (ht : (pc : Int) + off = (tgt : Int)) (kt : y < x → Zj X G tgt lv st σ O1) (kf : ¬ y < x → Zj X G (pc + 3) lv st σ O2) : Zj X G pc lv ((0, y) :: (0, x) :: st) σ (if y < x then O1 else O2) := by
  by_cases h : y < x
  · rw [if_pos h]
    exact z_stk (fun _ _ hs => hs.tl.tl) (fun g _ _ hs _ _ _ _ _ _ _ _ _ w => lv_icmp_gt (hX g).1 (hX g).2.1 hd ht (fun _ => w) (fun h' => absurd ((z_lt hs.hd hs.tl.hd).mpr h) h')) (kt h)
  · rw [if_neg h]
    exact z_stk (fun _ _ hs => hs.tl.tl) (fun g _ _ hs _ _ _ _ _ _ _ _ _ w => lv_icmp_gt (hX g).1 (hX g).2.1 hd ht (fun h' => absurd ((z_lt hs.hd hs.tl.hd).mp h') h) (fun _ => w)) (kf h)

theorem z_if_gt (hX : G → ZOk X cc own d) {x : Int} {off : Int} (tgt : Nat) (hd : decode cc pc = .ok (.ifCond .gt off, 3)) (ht : (pc : Int) + off = (tgt : Int)) (kt : 0 < x → Zj X G tgt lv st σ O1) (kf : ¬ 0 < x → Zj X G (pc + 3) lv st σ O2) : Zj X G pc lv ((0, x) :: st) σ (if 0 < x then O1 else O2) := by
  by_cases h : 0 < x
  · rw [if_pos h]
    exact z_stk (fun _ _ hs => hs.tl) (fun g _ _ hs _ _ _ _ _ _ _ _ _ w => lv_if_gt (hX g).1 (hX g).2.1 hd ht (fun _ => w) (fun h' => absurd ((z_lt (show zInR 0 from ⟨by decide, by decide⟩) hs.hd).mpr h) h')) (kt h)
  · rw [if_neg h]
    exact z_stk (fun _ _ hs => hs.tl) (fun g _ _ hs _ _ _ _ _ _ _ _ _ w => lv_if_gt (hX g).1 (hX g).2.1 hd ht (fun h' => absurd ((z_lt (show zInR 0 from ⟨by decide, by decide⟩) hs.hd).mp h') h) (fun _ => w)) (kf h)

theorem z_icmp_ge (hX : G → ZOk X cc own d) {x y : Int} {off : Int} (tgt : Nat) (hd : decode cc pc = .ok (.if_icmp .ge off, 3)) (ht : (pc : Int) + off = (tgt : Int)) (kt : y ≤ x → Zj X G tgt lv st σ O1) (kf : ¬ y ≤ x → Zj X G (pc + 3) lv st σ O2) : Zj X G pc lv ((0, y) :: (0, x) :: st) σ (if y ≤ x then O1 else O2) := by
  by_cases h : y ≤ x
  · rw [if_pos h]
    exact z_stk (fun _ _ hs => hs.tl.tl) (fun g _ _ hs _ _ _ _ _ _ _ _ _ w => lv_icmp_ge (hX g).1 (hX g).2.1 hd ht (fun _ => w) (fun h' => absurd ((z_le hs.hd hs.tl.hd).mpr h) h')) (kt h)
  · rw [if_neg h]
    exact z_stk (fun _ _ hs => hs.tl.tl) (fun g _ _ hs _ _ _ _ _ _ _ _ _ w => lv_icmp_ge (hX g).1 (hX g).2.1 hd ht (fun h' => absurd ((z_le hs.hd hs.tl.hd).mp h') h) (fun _ => w)) (kf h)

theorem z_if_ge (hX : G → ZOk X cc own d) {x : Int} {off : Int} (tgt : Nat) (hd : decode cc pc = .ok (.ifCond .ge off, 3)) (ht : (pc : Int) + off = (tgt : Int)) (kt : 0 ≤ x → Zj X G tgt lv st σ O1) (kf : ¬ 0 ≤ x → Zj X G (pc + 3) lv st σ O2) : Zj X G pc lv ((0, x) :: st) σ (if 0 ≤ x then O1 else O2) := by
  by_cases h : 0 ≤ x
  · rw [if_pos h]
    exact z_stk (fun _ _ hs => hs.tl) (fun g _ _ hs _ _ _ _ _ _ _ _ _ w => lv_if_ge (hX g).1 (hX g).2.1 hd ht (fun _ => w) (fun h' => absurd ((z_le (show zInR 0 from ⟨by decide, by decide⟩) hs.hd).mpr h) h')) (kt h)
  · rw [if_neg h]
    exact z_stk (fun _ _ hs => hs.tl) (fun g _ _ hs _ _ _ _ _ _ _ _ _ w => lv_if_ge (hX g).1 (hX g).2.1 hd ht (fun h' => absurd ((z_le (show zInR 0 from ⟨by decide, by decide⟩) hs.hd).mp h') h) (fun _ => w)) (kf h)

theorem z_icmp_eq (hX : G → ZOk X cc own d) {x y : Int} {off : Int} (tgt : Nat) (hd : decode cc pc = .ok (.if_icmp .eq off, 3)) (ht : (pc : Int) + off = (tgt : Int)) (kt : x = y → Zj X G tgt lv st σ O1) (kf : ¬ x = y → Zj X G (pc + 3) lv st σ O2) : Zj X G pc lv ((0, y) :: (0, x) :: st) σ (if x = y then O1 else O2) := by
  by_cases h : x = y
  · rw [if_pos h]
    exact z_stk (fun _ _ hs => hs.tl.tl) (fun g _ _ hs _ _ _ _ _ _ _ _ _ w => lv_icmp_eq (hX g).1 (hX g).2.1 hd ht (fun _ => w) (fun h' => absurd ((z_eqI hs.tl.hd hs.hd).mpr h) h')) (kt h)
  · rw [if_neg h]
    exact z_stk (fun _ _ hs => hs.tl.tl) (fun g _ _ hs _ _ _ _ _ _ _ _ _ w => lv_icmp_eq (hX g).1 (hX g).2.1 hd ht (fun h' => absurd ((z_eqI hs.tl.hd hs.hd).mp h') h) (fun _ => w)) (kf h)

theorem z_if_eq (hX : G → ZOk X cc own d) {x : Int} {off : Int} (tgt : Nat) (hd : decode cc pc = .ok (.ifCond .eq off, 3)) (ht : (pc : Int) + off = (tgt : Int)) (kt : x = 0 → Zj X G tgt lv st σ O1) (kf : ¬ x = 0 → Zj X G (pc + 3) lv st σ O2) : Zj X G pc lv ((0, x) :: st) σ (if x = 0 then O1 else O2) := by
  by_cases h : x = 0
  · rw [if_pos h]
    exact z_stk (fun _ _ hs => hs.tl) (fun g _ _ hs _ _ _ _ _ _ _ _ _ w => lv_if_eq (hX g).1 (hX g).2.1 hd ht (fun _ => w) (fun h' => absurd ((z_eqI hs.hd (show zInR 0 from ⟨by decide, by decide⟩)).mpr h) h')) (kt h)
  · rw [if_neg h]
    exact z_stk (fun _ _ hs => hs.tl) (fun g _ _ hs _ _ _ _ _ _ _ _ _ w => lv_if_eq (hX g).1 (hX g).2.1 hd ht (fun h' => absurd ((z_eqI hs.hd (show zInR 0 from ⟨by decide, by decide⟩)).mp h') h) (fun _ => w)) (kf h)

theorem z_icmp_ne (hX : G → ZOk X cc own d) {x y : Int} {off : Int} (tgt : Nat) (hd : decode cc pc = .ok (.if_icmp .ne off, 3)) (ht : (pc : Int) + off = (tgt : Int)) (kt : ¬ x = y → Zj X G tgt lv st σ O1) (kf : x = y → Zj X G (pc + 3) lv st σ O2) : Zj X G pc lv ((0, y) :: (0, x) :: st) σ (if x = y then O2 else O1) := by
  by_cases h : x = y
  · rw [if_pos h]
    exact z_stk (fun _ _ hs => hs.tl.tl) (fun g _ _ hs _ _ _ _ _ _ _ _ _ w => lv_icmp_ne (hX g).1 (hX g).2.1 hd ht (fun h' => absurd ((z_eqI hs.tl.hd hs.hd).mpr h) h') (fun _ => w)) (kf h)
  · rw [if_neg h]
    exact z_stk (fun _ _ hs => hs.tl.tl) (fun g _ _ hs _ _ _ _ _ _ _ _ _ w => lv_icmp_ne (hX g).1 (hX g).2.1 hd ht (fun _ => w) (fun h' => absurd ((z_eqI hs.tl.hd hs.hd).mp h') h)) (kt h)
theorem z_if_ne (hX : G → ZOk X cc own d) {x : Int} {off : Int} (tgt : Nat) (hd : decode cc pc = .ok (.ifCond .ne off, 3)) (ht : (pc : Int) + off = (tgt : Int)) (kt : ¬ x = 0 → Zj X G tgt lv st σ O1) (kf : x = 0 → Zj X G (pc + 3) lv st σ O2) : Zj X G pc lv ((0, x) :: st) σ (if x = 0 then O2 else O1) := by
  by_cases h : x = 0
  · rw [if_pos h]
    exact z_stk (fun _ _ hs => hs.tl) (fun g _ _ hs _ _ _ _ _ _ _ _ _ w => lv_if_ne (hX g).1 (hX g).2.1 hd ht (fun h' => absurd ((z_eqI hs.hd (show zInR 0 from ⟨by decide, by decide⟩)).mpr h) h') (fun _ => w)) (kf h)
  · rw [if_neg h]
    exact z_stk (fun _ _ hs => hs.tl) (fun g _ _ hs _ _ _ _ _ _ _ _ _ w => lv_if_ne (hX g).1 (hX g).2.1 hd ht (fun _ => w) (fun h' => absurd ((z_eqI hs.hd (show zInR 0 from ⟨by decide, by decide⟩)).mp h') h)) (kt h)
theorem z_ifnull (hX : G → ZOk X cc own d) {x : Int} {off : Int} (tgt : Nat) (hd : decode cc pc = .ok (.ifnull off, 3)) (ht : (pc : Int) + off = (tgt : Int)) (kt : x < 0 → Zj X G tgt lv st σ O1) (kf : ¬ x < 0 → Zj X G (pc + 3) lv st σ O2) : Zj X G pc lv ((2, x) :: st) σ (if x < 0 then O1 else O2) := by
  by_cases h : x < 0
  · rw [if_pos h]
    exact z_stk (fun _ _ hs => hs.tl) (fun g _ _ hs _ _ _ _ _ _ _ _ _ w => by rw [zvs_c, zV_null h]; exact lv_ifnullN (hX g).1 (hX g).2.1 hd ht w) (kt h)
  · rw [if_neg h]
    exact z_stk (fun _ _ hs => hs.tl) (fun g _ _ hs _ _ _ _ _ _ _ _ _ w => by rw [zvs_c, zV_ref h]; exact lv_ifnull (hX g).1 (hX g).2.1 hd w) (kf h)
theorem z_ifnonnull (hX : G → ZOk X cc own d) {x : Int} {off : Int} (tgt : Nat) (hd : decode cc pc = .ok (.ifnonnull off, 3)) (ht : (pc : Int) + off = (tgt : Int)) (kt : ¬ x < 0 → Zj X G tgt lv st σ O1) (kf : x < 0 → Zj X G (pc + 3) lv st σ O2) : Zj X G pc lv ((2, x) :: st) σ (if x < 0 then O2 else O1) := by
  by_cases h : x < 0
  · rw [if_pos h]
    exact z_stk (fun _ _ hs => hs.tl) (fun g _ _ hs _ _ _ _ _ _ _ _ _ w => by rw [zvs_c, zV_null h]; exact lv_ifnonnullN (hX g).1 (hX g).2.1 hd w) (kf h)
  · rw [if_neg h]
    exact z_stk (fun _ _ hs => hs.tl) (fun g _ _ hs _ _ _ _ _ _ _ _ _ w => by rw [zvs_c, zV_ref h]; exact lv_ifnonnull (hX g).1 (hX g).2.1 hd ht w) (kt h)
theorem z_tswIn (hX : G → ZOk X cc own d) {x c dflt lo hi : Int} {offs : Array Int} {len : Nat} {off : Int} (tgt : Nat) (hd : decode cc pc = .ok (.tableswitch dflt lo hi offs, len)) (hx : x = c) (h1 : ¬ c < lo) (h2 : ¬ hi < c) (ho : offs[(c - lo).toNat]? = some off) (ht : (pc : Int) + off = (tgt : Int)) (k : Zj X G tgt lv st σ O) : Zj X G pc lv ((0, x) :: st) σ O := by
  subst hx
  exact z_stk (fun _ _ hs => hs.tl) (fun g _ _ hs _ _ _ _ _ _ _ _ _ w => by
    have e : (Int32.ofInt x).toInt = x := z_toInt hs.hd
    exact lv_tableIn (hX g).1 (hX g).2.1 hd (by rw [e]; exact h1) (by rw [e]; exact h2) (by rw [e]; exact ho) ht w) k
theorem z_tswOut (hX : G → ZOk X cc own d) {x dflt lo hi : Int} {offs : Array Int} {len : Nat} (tgt : Nat) (hd : decode cc pc = .ok (.tableswitch dflt lo hi offs, len)) (h : x < lo ∨ hi < x) (ht : (pc : Int) + dflt = (tgt : Int)) (k : Zj X G tgt lv st σ O) : Zj X G pc lv ((0, x) :: st) σ O :=
  z_stk (fun _ _ hs => hs.tl) (fun g _ _ hs _ _ _ _ _ _ _ _ _ w => by
    have e : (Int32.ofInt x).toInt = x := z_toInt hs.hd
    exact lv_tableOut (hX g).1 (hX g).2.1 hd (by rw [e]; exact h) ht w) k
theorem z_lsw (hX : G → ZOk X cc own d) {x dflt : Int} {ps : Array (Int × Int)} {len : Nat} {off : Int} (tgt : Nat) (hd : decode cc pc = .ok (.lookupswitch dflt ps, len)) (hp : (ps.toList.zip (ps.toList.drop 1)).all (fun (a, next) => a.1 < next.1) = true) (ho : Op.lookupswitch.offset ps.toList dflt x = off) (ht : (pc : Int) + off = (tgt : Int)) (k : Zj X G tgt lv st σ O) : Zj X G pc lv ((0, x) :: st) σ O :=
  z_stk (fun _ _ hs => hs.tl) (fun g _ _ hs _ _ _ _ _ _ _ _ _ w => by
    have e : (Int32.ofInt x).toInt = x := z_toInt hs.hd
    exact lv_lookup (hX g).1 (hX g).2.1 hd hp (by rw [e]; exact ho) ht w) k
end ZR
