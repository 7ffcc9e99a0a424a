/-! numbers of p1: a wished room, small cases of an int -/
def jroom (w : Int32) : Nat := if w.toInt < 0 then 0 else if 400 < w.toInt then 400 else w.toInt.toNat
theorem jroom_le (w : Int32) : jroom w ≤ 400 := by
  unfold jroom
  split
  · omega
  · split <;> omega
theorem jroom_int (w : Int32) : (nI (jroom w)).toInt = if w.toInt < 0 then 0 else if 400 < w.toInt then 400 else w.toInt := by
  rw [nI_toInt (by have := jroom_le w; omega)]
  unfold jroom
  split
  · rfl
  · split <;> omega
theorem jroom_max (w : Int32) : (if (0 : Int32) < (if w < 400 then w else 400) then (if w < 400 then w else 400) else 0) = nI (jroom w) := by
  apply Int32.toInt_inj.mp
  rw [jroom_int]
  have h0 : (0 : Int32).toInt = 0 := by decide
  have h4 : (400 : Int32).toInt = 400 := by decide
  by_cases h : w < 400
  · rw [if_pos h]
    have h1 := Int32.lt_iff_toInt_lt.mp h
    by_cases g : (0 : Int32) < w
    · rw [if_pos g]
      have h2 := Int32.lt_iff_toInt_lt.mp g
      rw [if_neg (by omega), if_neg (by omega)]
    · rw [if_neg g]
      have h2 : ¬ (0 : Int32).toInt < w.toInt := fun q => g (Int32.lt_iff_toInt_lt.mpr q)
      split <;> (try split) <;> omega
  · rw [if_neg h]
    have h1 : ¬ w.toInt < (400 : Int32).toInt := fun q => h (Int32.lt_iff_toInt_lt.mpr q)
    rw [if_pos (by decide)]
    split <;> (try split) <;> omega
theorem jroom_0 {w : Int32} (h : ¬ 0 ≤ w) : (0 : Int32) = nI (jroom w) := by
  apply Int32.toInt_inj.mp
  have h1 : ¬ (0 : Int32).toInt ≤ w.toInt := fun q => h (Int32.le_iff_toInt_le.mpr q)
  have h0 : (0 : Int32).toInt = 0 := by decide
  rw [jroom_int, if_pos (by omega), h0]
theorem jroom_400 {w : Int32} (h : 0 ≤ w) (h2 : ¬ w ≤ 400) : (400 : Int32) = nI (jroom w) := by
  apply Int32.toInt_inj.mp
  have h1 := Int32.le_iff_toInt_le.mp h
  have h3 : ¬ w.toInt ≤ (400 : Int32).toInt := fun q => h2 (Int32.le_iff_toInt_le.mpr q)
  have h0 : (0 : Int32).toInt = 0 := by decide
  have h4 : (400 : Int32).toInt = 400 := by decide
  rw [jroom_int, if_neg (by omega), if_pos (by omega), h4]
theorem jroom_w {w : Int32} (h : 0 ≤ w) (h2 : w ≤ 400) : w = nI (jroom w) := by
  apply Int32.toInt_inj.mp
  have h1 := Int32.le_iff_toInt_le.mp h
  have h3 := Int32.le_iff_toInt_le.mp h2
  have h0 : (0 : Int32).toInt = 0 := by decide
  have h4 : (400 : Int32).toInt = 400 := by decide
  rw [jroom_int, if_neg (by omega), if_neg (by omega)]
/-- below n it is one of the small numbers -/
theorem j_lt {x : Int32} {n : Nat} {z : Int32} (hz : z.toInt = n) (h1 : ¬ x < 0) (h2 : ¬ z ≤ x) : ∃ k : Nat, k < n ∧ x = nI k := by
  have h3 : ¬ x.toInt < (0 : Int32).toInt := fun q => h1 (Int32.lt_iff_toInt_lt.mpr q)
  have h4 : ¬ z.toInt ≤ x.toInt := fun q => h2 (Int32.le_iff_toInt_le.mpr q)
  have h0 : (0 : Int32).toInt = 0 := by decide
  refine ⟨x.toInt.toNat, by omega, Int32.toInt_inj.mp ?_⟩
  have hb : x.toInt < 2147483648 := Int32.toInt_lt x
  rw [nI_toInt (by omega)]
  omega
theorem j_5 (x : Int32) : (x < 0 ∨ 5 ≤ x) ∨ x = 0 ∨ x = 1 ∨ x = 2 ∨ x = 3 ∨ x = 4 := by
  by_cases h1 : x < 0
  · exact Or.inl (Or.inl h1)
  · by_cases h2 : 5 ≤ x
    · exact Or.inl (Or.inr h2)
    · obtain ⟨k, hk, rfl⟩ := j_lt (n := 5) (z := 5) (by decide) h1 h2
      rcases (show k = 0 ∨ k = 1 ∨ k = 2 ∨ k = 3 ∨ k = 4 by omega) with rfl | rfl | rfl | rfl | rfl <;> decide
theorem j_le {x a b : Int32} (hab : a.toInt + 1 = b.toInt) : ¬ b ≤ x ↔ x ≤ a := by
  rw [Int32.le_iff_toInt_le, Int32.le_iff_toInt_le]; omega
theorem j_ge {x a b : Int32} (hab : a.toInt + 1 = b.toInt) : b ≤ x ↔ a < x := by
  rw [Int32.le_iff_toInt_le, Int32.lt_iff_toInt_lt]; omega
theorem j_nle {x a : Int32} (h : a < x) : ¬ x ≤ a := by
  rw [Int32.lt_iff_toInt_lt] at h
  rw [Int32.le_iff_toInt_le]
  omega
theorem j_tot {x : Int32} (h : ¬ x < 0) : 0 ≤ x := by
  rw [Int32.lt_iff_toInt_lt] at h
  rw [Int32.le_iff_toInt_le]
  omega
