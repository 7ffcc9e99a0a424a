/-! pure words of the general proof, thirteenth piece: the class's cursor -/
theorem j_out {n e : Nat} (hn : n ≤ 400) (he : e ≤ 400) (h : nI e < 0 ∨ nI n ≤ nI e) : n ≤ e := by
  rcases h with h | h
  · exact absurd h (nI_pos (by omega))
  · rw [nI_leI (by omega) (by omega)] at h; exact h
theorem jra_eq {n n2 e0 e1 : Nat} (h0 : e0 ≤ n) (h1 : e1 ≤ n2) : nI n - nI e0 + nI n2 - nI e1 = nI (n - e0 + (n2 - e1)) := by
  rw [pk_sub h0, nI_add, pk_sub (by omega)]
  exact congrArg nI (by omega)
theorem jra_p {n n2 e0 e1 : Nat} (h : ¬ nI (n - e0 + (n2 - e1)) ≤ 0) : e0 < n ∨ e1 < n2 := by
  by_cases c : e0 < n
  · exact Or.inl c
  · by_cases c2 : e1 < n2
    · exact Or.inr c2
    · exact absurd (by rw [show n - e0 + (n2 - e1) = 0 by omega]; decide) h
theorem jra_0 {n n2 e0 e1 : Nat} (hn : n ≤ 400) (hn2 : n2 ≤ 400) (h : nI (n - e0 + (n2 - e1)) ≤ 0) : ¬ e0 < n ∧ ¬ e1 < n2 := by
  rw [← nI_0, nI_leI (by omega) (by omega)] at h
  omega
theorem j_enp {A B : Prop} {x4 x5 y4 y5 p4 p5 z : Int32} (h : (A ∧ x4 = p4 ∧ x5 = p5 + 1) ∨ (¬ A ∧ B ∧ x4 = p4 + 1 ∧ x5 = z)) (g : (A ∧ y4 = p4 ∧ y5 = p5 + 1) ∨ (¬ A ∧ B ∧ y4 = p4 + 1 ∧ y5 = z)) : x4 = y4 ∧ x5 = y5 := by
  rcases h with ⟨h1, h2, h3⟩ | ⟨h1, _, h2, h3⟩ <;> rcases g with ⟨g1, g2, g3⟩ | ⟨g1, _, g2, g3⟩
  · exact ⟨h2.trans g2.symm, h3.trans g3.symm⟩
  · exact absurd h1 g1
  · exact absurd g1 h1
  · exact ⟨h2.trans g2.symm, h3.trans g3.symm⟩
theorem nI_m1 {r : Nat} (h : r < 2 ^ 31) : ¬ nI r = -1 := fun e => nI_pos h (by rw [e]; decide)
section JEN
variable {r0 r1 e0 e1 f1 : Nat}
/-- which way a step goes: along the right rows, along the left rows, no further -/
theorem jen_r {p4 z : Int32} {B : Prop} (he : e1 ≤ 400) (h : r1 + 1 < e1) : ((¬ nI r1 = -1 ∧ ¬ nI e1 ≤ nI r1 + 1) ∧ p4 = p4 ∧ nI (r1 + 1) = nI r1 + 1) ∨ (¬ (¬ nI r1 = -1 ∧ ¬ nI e1 ≤ nI r1 + 1) ∧ B ∧ p4 = p4 + 1 ∧ nI (r1 + 1) = z) :=
  Or.inl ⟨⟨nI_m1 (by omega), by rw [nI_1]; exact nI_ge h (by omega)⟩, rfl, (nI_1 _).symm⟩
theorem jen_l {h0 : e0 ≤ 400} (he : e1 ≤ 400) (h : r1 + 1 = e1) (h2 : r0 + 1 < e0) (h3 : f1 < e1) : ((¬ nI r1 = -1 ∧ ¬ nI e1 ≤ nI r1 + 1) ∧ nI (r0 + 1) = nI r0 ∧ nI f1 = nI r1 + 1) ∨ (¬ (¬ nI r1 = -1 ∧ ¬ nI e1 ≤ nI r1 + 1) ∧ (¬ nI r0 = -1 ∧ ¬ nI e0 ≤ nI r0 + 1) ∧ nI (r0 + 1) = nI r0 + 1 ∧ nI f1 = if nI e1 ≤ nI f1 then -1 else nI f1) :=
  Or.inr ⟨fun q => q.2 (by rw [nI_1, h]; exact Int32.le_refl _), ⟨nI_m1 (by omega), by rw [nI_1]; exact nI_ge h2 (by omega)⟩, (nI_1 _).symm, by rw [if_neg (nI_ge h3 (by omega))]⟩
theorem jen_l1 (h0 : e0 ≤ 400) (h2 : r0 + 1 < e0) : ((¬ (-1 : Int32) = -1 ∧ ¬ nI e1 ≤ -1 + 1) ∧ nI (r0 + 1) = nI r0 ∧ (-1 : Int32) = -1 + 1) ∨ (¬ (¬ (-1 : Int32) = -1 ∧ ¬ nI e1 ≤ -1 + 1) ∧ (¬ nI r0 = -1 ∧ ¬ nI e0 ≤ nI r0 + 1) ∧ nI (r0 + 1) = nI r0 + 1 ∧ (-1 : Int32) = if nI e1 ≤ nI e1 then -1 else nI e1) :=
  Or.inr ⟨fun q => q.1 rfl, ⟨nI_m1 (by omega), by rw [nI_1]; exact nI_ge h2 (by omega)⟩, (nI_1 _).symm, by rw [if_pos (Int32.le_refl _)]⟩
theorem jno_0 {a b : Int32} : ¬ (¬ (-1 : Int32) = -1 ∧ ¬ a ≤ -1 + 1) ∧ ¬ (¬ (-1 : Int32) = -1 ∧ ¬ b ≤ -1 + 1) := ⟨fun q => q.1 rfl, fun q => q.1 rfl⟩
theorem jno_10 (h1 : r1 + 1 = e1) (h0 : ¬ r0 + 1 < e0) (hr : r0 < e0) : ¬ (¬ nI r1 = -1 ∧ ¬ nI e1 ≤ nI r1 + 1) ∧ ¬ (¬ nI r0 = -1 ∧ ¬ nI e0 ≤ nI r0 + 1) := ⟨fun q => q.2 (by rw [nI_1, h1]; exact Int32.le_refl _), fun q => q.2 (by rw [nI_1, show r0 + 1 = e0 by omega]; exact Int32.le_refl _)⟩
theorem jno_11 {a : Int32} (h0 : ¬ r0 + 1 < e0) (hr : r0 < e0) : ¬ (¬ (-1 : Int32) = -1 ∧ ¬ a ≤ -1 + 1) ∧ ¬ (¬ nI r0 = -1 ∧ ¬ nI e0 ≤ nI r0 + 1) := ⟨fun q => q.1 rfl, fun q => q.2 (by rw [nI_1, show r0 + 1 = e0 by omega]; exact Int32.le_refl _)⟩
theorem jno_12 {a : Int32} (h1 : ¬ r1 + 1 < e1) (hr : r1 < e1) : ¬ (¬ nI r1 = -1 ∧ ¬ nI e1 ≤ nI r1 + 1) ∧ ¬ (¬ (-1 : Int32) = -1 ∧ ¬ a ≤ -1 + 1) := ⟨fun q => q.2 (by rw [nI_1, show r1 + 1 = e1 by omega]; exact Int32.le_refl _), fun q => q.1 rfl⟩
end JEN
/-- the key of a pair -/
def jpk (n n2 : Nat) (gk go hk ho : Nat → Int32) (x y : Int32) : Int32 := if x < 0 ∨ nI n ≤ x then jat n2 hk ho y else jat n gk go x
theorem jpk_o {n n2 : Nat} {gk go hk ho : Nat → Int32} {x y : Int32} (h : x < 0 ∨ nI n ≤ x) : jat n2 hk ho y = jpk n n2 gk go hk ho x y := by unfold jpk; rw [if_pos h]
theorem jpk_i {n n2 : Nat} {gk go hk ho : Nat → Int32} {x y : Int32} (h1 : ¬ x < 0) (h2 : ¬ nI n ≤ x) : jat n gk go x = jpk n n2 gk go hk ho x y := by unfold jpk; rw [if_neg (fun h => h.elim h1 h2)]
theorem jat_m1 {n : Nat} {f g : Nat → Int32} : jat n f g (-1) = 0 := (jat_o (Or.inl (by decide))).symm
theorem jnum_m1 {n : Nat} {g : Nat → Int32} : jnum n g (-1) = -1 := (jnum_o (Or.inl (by decide))).symm
theorem jpk_m1 {n n2 : Nat} {gk go hk ho : Nat → Int32} {y : Int32} : jpk n n2 gk go hk ho (-1) y = jat n2 hk ho y := (jpk_o (Or.inl (by decide))).symm
theorem jpk_nI {n n2 r : Nat} {gk go hk ho : Nat → Int32} {y : Int32} (hn : n ≤ 400) (h : r < n) : jpk n n2 gk go hk ho (nI r) y = jat n gk go (nI r) := (jpk_i (nI_pos (by omega)) (nI_ge h (by omega))).symm
