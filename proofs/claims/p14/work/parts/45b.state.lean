theorem j_em (x z : Int32) : (x < 0 ∨ z ≤ x) ∨ (¬ x < 0 ∧ ¬ z ≤ x) := by
  by_cases h : x < 0 ∨ z ≤ x
  · exact Or.inl h
  · exact Or.inr ⟨fun q => h (Or.inl q), fun q => h (Or.inr q)⟩
theorem j_grp (x y : Int32) : (x < 0 ∨ (y < 0 ∨ 5 ≤ y)) ∨ (¬ x < 0 ∧ ¬ y < 0 ∧ ¬ 5 ≤ y) := by
  by_cases h : x < 0 ∨ (y < 0 ∨ 5 ≤ y)
  · exact Or.inl h
  · exact Or.inr ⟨fun q => h (Or.inl q), fun q => h (Or.inr (Or.inl q)), fun q => h (Or.inr (Or.inr q))⟩
theorem j_16 (x : Int32) : x &&& 15 = 0 ∨ x &&& 15 = 1 ∨ x &&& 15 = 2 ∨ x &&& 15 = 3 ∨ x &&& 15 = 4 ∨ x &&& 15 = 5 ∨ x &&& 15 = 6 ∨ x &&& 15 = 7 ∨ x &&& 15 = 8 ∨ x &&& 15 = 9 ∨ x &&& 15 = 10 ∨ x &&& 15 = 11 ∨ x &&& 15 = 12 ∨ x &&& 15 = 13 ∨ x &&& 15 = 14 ∨ x &&& 15 = 15 := by
  obtain ⟨j, hj, ej⟩ := pk_andE x (m := 15) 4 (by decide)
  rw [ej]
  rcases (show j = 0 ∨ j = 1 ∨ j = 2 ∨ j = 3 ∨ j = 4 ∨ j = 5 ∨ j = 6 ∨ j = 7 ∨ j = 8 ∨ j = 9 ∨ j = 10 ∨ j = 11 ∨ j = 12 ∨ j = 13 ∨ j = 14 ∨ j = 15 by omega) with rfl | rfl | rfl | rfl | rfl | rfl | rfl | rfl | rfl | rfl | rfl | rfl | rfl | rfl | rfl | rfl <;> decide
/-! the state between two calls: what holds of the class's cells and of the reference's -/
/-- twelve numbers of the reference's cursor: where it is, or where it was marked -/
def jAg (t0 t1 t2 t3 t4 t5 t6 t7 t8 t9 t10 t11 : Int32) : Prop := ∃ e0 e1 : Nat, e0 ≤ 400 ∧ e1 ≤ 400 ∧ t0 = nI e0 ∧ t1 = nI e1 ∧ (t9 = 0 ∨ (t9 = 1 ∧ t8 = 0 ∧ ∃ f1 d0 d1 r0 r1 : Nat, t3 = nI f1 ∧ t4 = nI d0 ∧ t5 = nI d1 ∧ t6 = nI r0 ∧ t7 = nI r1 ∧ f1 < d1 ∧ r0 < d0 ∧ r1 < d1 ∧ d0 ≤ 400 ∧ d1 ≤ 400) ∨ (t9 = 1 ∧ t8 = 1 ∧ ∃ d0 r0 : Nat, t4 = nI d0 ∧ t6 = nI r0 ∧ r0 < d0 ∧ d0 ≤ 400) ∨ (t9 = 1 ∧ t8 = 2 ∧ ∃ d1 r1 : Nat, t5 = nI d1 ∧ t7 = nI r1 ∧ r1 < d1 ∧ d1 ≤ 400))
theorem jAg_z : jAg 0 0 0 0 0 0 0 0 0 0 0 0 := ⟨0, 0, by omega, by omega, nI_0.symm, nI_0.symm, Or.inl rfl⟩
theorem jAg_n {e0 e1 : Nat} (h0 : e0 ≤ 400) (h1 : e1 ≤ 400) {t2 t3 t4 t5 t6 t7 t8 t10 t11 : Int32} : jAg (nI e0) (nI e1) t2 t3 t4 t5 t6 t7 t8 0 t10 t11 := ⟨e0, e1, h0, h1, rfl, rfl, Or.inl rfl⟩
theorem jAg_0 {e0 e1 f1 d0 d1 r0 r1 : Nat} (h0 : e0 ≤ 400) (h1 : e1 ≤ 400) (h2 : f1 < d1) (h3 : r0 < d0) (h4 : r1 < d1) (h5 : d0 ≤ 400) (h6 : d1 ≤ 400) {t2 t10 t11 : Int32} : jAg (nI e0) (nI e1) t2 (nI f1) (nI d0) (nI d1) (nI r0) (nI r1) 0 1 t10 t11 := ⟨e0, e1, h0, h1, rfl, rfl, Or.inr (Or.inl ⟨rfl, rfl, f1, d0, d1, r0, r1, rfl, rfl, rfl, rfl, rfl, h2, h3, h4, h5, h6⟩)⟩
theorem jAg_1 {e0 e1 d0 r0 : Nat} (h0 : e0 ≤ 400) (h1 : e1 ≤ 400) (h3 : r0 < d0) (h5 : d0 ≤ 400) {t2 t3 t5 t7 t10 t11 : Int32} : jAg (nI e0) (nI e1) t2 t3 (nI d0) t5 (nI r0) t7 1 1 t10 t11 := ⟨e0, e1, h0, h1, rfl, rfl, Or.inr (Or.inr (Or.inl ⟨rfl, rfl, d0, r0, rfl, rfl, h3, h5⟩))⟩
theorem jAg_2 {e0 e1 d1 r1 : Nat} (h0 : e0 ≤ 400) (h1 : e1 ≤ 400) (h3 : r1 < d1) (h5 : d1 ≤ 400) {t2 t3 t4 t6 t10 t11 : Int32} : jAg (nI e0) (nI e1) t2 t3 t4 (nI d1) t6 (nI r1) 2 1 t10 t11 := ⟨e0, e1, h0, h1, rfl, rfl, Or.inr (Or.inr (Or.inr ⟨rfl, rfl, d1, r1, rfl, rfl, h3, h5⟩))⟩
theorem j_cmp (x : Int64) : lg_cmp x x = 0 := by
  unfold lg_cmp
  rw [if_neg (fun h => absurd (Int64.lt_iff_toInt_lt.mp h) (Int.lt_irrefl _)), if_pos rfl]
theorem j_3 (x : Int32) : (x < 0 ∨ 3 ≤ x) ∨ x = 0 ∨ x = 1 ∨ x = 2 := by
  by_cases h1 : x < 0
  · exact Or.inl (Or.inl h1)
  · by_cases h2 : 3 ≤ x
    · exact Or.inl (Or.inr h2)
    · obtain ⟨k, hk, rfl⟩ := j_lt (n := 3) (z := 3) (by decide) h1 h2
      rcases (show k = 0 ∨ k = 1 ∨ k = 2 by omega) with rfl | rfl | rfl <;> decide
/-- one side in order: the class's places and the reference's -/
def jOrd (n b : Nat) (f o m3 m5 : Nat → Int32) : Prop := (∀ i, i < n → o i = jS f n i) ∧ (∀ i, i < n → jsh b m5 i = jS (jsh b m3) n i)
theorem j_cmpe {x y : Int64} (h : x = y) : lg_cmp x y = 0 := by
  rw [h]
  exact j_cmp y
