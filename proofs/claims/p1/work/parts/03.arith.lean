/-! small facts of numbers, and what the calls answer on a new object -/
theorem i_neg1 {x : Int32} (h : ¬ x < 0) : (-1 : Int32) < x := by
  have h1 : (0 : Int) ≤ x.toInt := by simpa using Int32.le_iff_toInt_le.mp (Int32.not_lt.mp h)
  refine Int32.lt_iff_toInt_lt.mpr ?_
  show (-1 : Int) < x.toInt
  omega
def inV (v a b : Int32) : Int32 := if a ≤ v ∧ v ≤ b then 1 else 0
theorem inV_1 {v a b : Int32} (h1 : ¬ v < a) (h2 : ¬ b < v) : (1 : Int32) = inV v a b := (if_pos ⟨Int32.not_lt.mp h1, Int32.not_lt.mp h2⟩).symm
theorem inV_0a {v a b : Int32} (h : v < a) : (0 : Int32) = inV v a b := (if_neg (fun q => absurd h (Int32.not_lt.mpr q.1))).symm
theorem inV_0b {v a b : Int32} (h : b < v) : (0 : Int32) = inV v a b := (if_neg (fun q => absurd h (Int32.not_lt.mpr q.2))).symm
theorem inV_z {v a b : Int32} (h : inV v a b = 0) : ¬ (a ≤ v ∧ v ≤ b) := fun q => by rw [inV, if_pos q] at h; exact absurd h (by decide)
theorem inV_nz {v a b : Int32} (h : ¬ inV v a b = 0) : a ≤ v ∧ v ≤ b := Decidable.byContradiction fun q => h (by rw [inV, if_neg q])
def richesV (h : Int32) : Int32 := if h = -1 then -2 else -1
def backV (n : Int32) : Int32 := if n = 0 then 0 else -1
theorem backV_p {n : Int32} (h1 : ¬ n < 0) (h2 : n ≤ 0) : (0 : Int32) - n = backV n := by
  have e : n = 0 := Int32.le_antisymm h2 (Int32.not_lt.mp h1)
  subst e; rfl
theorem backV_a {n : Int32} (h : n < 0) : (-1 : Int32) = backV n := (if_neg (fun e => by subst e; exact absurd h (by decide))).symm
theorem backV_b {n : Int32} (h : ¬ n ≤ 0) : (-1 : Int32) = backV n := (if_neg (fun e => by subst e; exact absurd (by decide) h)).symm
theorem backV_c {n : Int32} (h : 0 < n) : (-1 : Int32) = backV n := (if_neg (fun e => by subst e; exact absurd h (by decide))).symm
theorem my_upn {α : Type} {f : Nat → α} {k j : Nat} {v : α} (h : j ≠ k) : va_up f k v j = f j := if_neg h
theorem my_ups {α : Type} {f : Nat → α} {k : Nat} {v : α} : va_up f k v k = v := if_pos rfl
theorem fillstep {f : Nat → Int32} {i : Nat} {v : Int32} (h : ∀ j : Nat, j < i → f j = v) : ∀ j : Nat, j < i + 1 → upd f i v j = v := by
  intro j hj
  by_cases e : j = i
  · subst e; exact pk_us
  · rw [pk_un e]; exact h j (by omega)
def fitsV (k : Int32) : Int64 := if k = 0 then 1 else -1
theorem fitsV_n {k : Int32} (h : inV k 0 0 = 0) : (-1 : Int64) = fitsV k := (if_neg (fun e => by subst e; exact absurd h (by decide))).symm
theorem fits_0 {k : Int32} (h : ¬ inV k 0 0 = 0) : k = 0 := Int32.le_antisymm (inV_nz h).2 (inV_nz h).1
theorem rng3 {x : Int32} (h : ¬ x < 0) (h2 : x < 3) : x = 0 ∨ x = 1 ∨ x = 2 := by
  obtain ⟨j, hj, rfl⟩ := nI_of h
  have hj3 : j < 3 := (nI_ltI (b := 3) hj (by decide)).mp h2
  rcases (show j = 0 ∨ j = 1 ∨ j = 2 by omega) with rfl | rfl | rfl
  · exact Or.inl rfl
  · exact Or.inr (Or.inl rfl)
  · exact Or.inr (Or.inr rfl)
theorem holdV_a {v : Int32} (h : v < 0) : (0 : Int32) = inV v 0 2 := inV_0a h
theorem holdV_b {v : Int32} (h : ¬ v < 3) : (0 : Int32) = inV v 0 2 := inV_0b (Int32.lt_of_lt_of_le (by decide) (Int32.not_lt.mp h))
def countV (w : Int32) : Int32 := if 0 ≤ w ∧ w ≤ 11 then 0 else -1
theorem countV_lo {w : Int32} (h : w < 0) : (-1 : Int32) = countV w := (if_neg (fun q => absurd h (Int32.not_lt.mpr q.1))).symm
theorem countV_hi {w : Int32} (h : nI 12 ≤ w) : (-1 : Int32) = countV w := (if_neg (fun q => absurd (Int32.le_trans h q.2) (by decide))).symm
theorem sw_lo {x : Int32} (h : x < 0) : x.toInt < 0 := by simpa using Int32.lt_iff_toInt_lt.mp h
theorem sw_hi {n : Nat} {hi : Int} {x : Int32} (hn : hi < (nI n).toInt) (h : nI n ≤ x) : hi < x.toInt := Int.lt_of_lt_of_le hn (Int32.le_iff_toInt_le.mp h)
