/-! more small facts of numbers -/
theorem updall {f : Nat → Int32} {n k : Nat} {v : Int32} (h : ∀ j : Nat, j < n → f j = v) : ∀ j : Nat, j < n → upd f k v j = v := by
  intro j hj
  by_cases e : j = k
  · subst e; exact pk_us
  · rw [pk_un e]; exact h j hj
theorem updallZ {f : Nat → Int32} {n k : Nat} {v : Int32} (hv : vp_nar .boolean v = v) (h : ∀ j : Nat, j < n → f j = v) : ∀ j : Nat, j < n → upd f k (vp_nar .boolean v) j = v := by
  rw [hv]; exact updall h
theorem updallB {f : Nat → Int32} {n k : Nat} {v : Int32} (hv : vp_nar .byte v = v) (h : ∀ j : Nat, j < n → f j = v) : ∀ j : Nat, j < n → upd f k (vp_nar .byte v) j = v := by
  rw [hv]; exact updall h
theorem updallL {f : Nat → Int64} {n k : Nat} {v : Int64} (h : ∀ j : Nat, j < n → f j = v) : ∀ j : Nat, j < n → vp_updL f k v j = v := by
  intro j hj
  by_cases e : j = k
  · subst e; exact pk_uLs
  · rw [pk_uLn e]; exact h j hj
theorem rng3b {x : Int32} (h : ¬ inV x 0 2 = 0) : x = 0 ∨ x = 1 ∨ x = 2 :=
  rng3 (Int32.not_lt.mpr (inV_nz h).1) (Int32.lt_of_le_of_lt (inV_nz h).2 (by decide))
theorem rng3c {x : Int32} (h : ¬ x < 0) (h2 : x ≤ 2) : x = 0 ∨ x = 1 ∨ x = 2 := rng3 h (Int32.lt_of_le_of_lt h2 (by decide))
theorem rng4 {x : Int32} (h : ¬ x < 0) (h2 : x ≤ 3) : x = 0 ∨ x = 1 ∨ x = 2 ∨ x = 3 := by
  obtain ⟨j, hj, rfl⟩ := nI_of h
  have hj3 : j ≤ 3 := (nI_leI (b := 3) hj (by decide)).mp h2
  rcases (show j = 0 ∨ j = 1 ∨ j = 2 ∨ j = 3 by omega) with rfl | rfl | rfl | rfl
  · exact Or.inl rfl
  · exact Or.inr (Or.inl rfl)
  · exact Or.inr (Or.inr (Or.inl rfl))
  · exact Or.inr (Or.inr (Or.inr rfl))
theorem nn1 {x : Int32} (h : ¬ x < 1) : ¬ x < 0 := fun q => h (Int32.lt_of_lt_of_le q (by decide))
def yearV (n w : Int32) : Int32 := if (1 ≤ n ∧ n ≤ 400) ∧ (0 ≤ w ∧ w ≤ 3) then 0 else -1
theorem yearV_a {n w : Int32} (h : n < 1) : (-1 : Int32) = yearV n w := (if_neg (fun q => absurd h (Int32.not_lt.mpr q.1.1))).symm
theorem yearV_b {n w : Int32} (h : 400 < n) : (-1 : Int32) = yearV n w := (if_neg (fun q => absurd h (Int32.not_lt.mpr q.1.2))).symm
theorem yearV_c {n w : Int32} (h : w < 0) : (-1 : Int32) = yearV n w := (if_neg (fun q => absurd h (Int32.not_lt.mpr q.2.1))).symm
theorem yearV_d {n w : Int32} (h : ¬ w ≤ 3) : (-1 : Int32) = yearV n w := (if_neg (fun q => h q.2.2)).symm
theorem yearV_ok {n w : Int32} (h1 : ¬ n < 1) (h2 : ¬ 400 < n) (h3 : ¬ w < 0) (h4 : w ≤ 3) : (0 : Int32) = yearV n w := (if_pos ⟨⟨Int32.not_lt.mp h1, Int32.not_lt.mp h2⟩, Int32.not_lt.mp h3, h4⟩).symm
theorem yearV_m1 {n w : Int32} (h : inV n 1 400 = 0) : (-1 : Int32) = yearV n w := (if_neg (fun q => inV_z h q.1)).symm
theorem yearV_m2 {n w : Int32} (h : inV w 0 3 = 0) : (-1 : Int32) = yearV n w := (if_neg (fun q => inV_z h q.2)).symm
theorem yearV_mok {n w : Int32} (h1 : ¬ inV n 1 400 = 0) (h2 : ¬ inV w 0 3 = 0) : (0 : Int32) = yearV n w := (if_pos ⟨inV_nz h1, inV_nz h2⟩).symm
theorem nn400 {n : Int32} (h : ¬ inV n 1 400 = 0) : ¬ n < 0 := nn1 (Int32.not_lt.mpr (inV_nz h).1)
def restV (w : Int32) : Int32 := if 0 ≤ w ∧ w ≤ 2 then 0 else -1
theorem restV_a {w : Int32} (h : w < 0) : (-1 : Int32) = restV w := (if_neg (fun q => absurd h (Int32.not_lt.mpr q.1))).symm
theorem restV_b {w : Int32} (h : ¬ w ≤ 2) : (-1 : Int32) = restV w := (if_neg (fun q => h q.2)).symm
theorem restV_m {w : Int32} (h : inV w 0 2 = 0) : (-1 : Int32) = restV w := (if_neg (fun q => inV_z h q)).symm
