/-! pure words of the general proof, third piece: an array as the list of its elements -/
def jl (l : List Int32) (j : Nat) : Int32 := l.getD j 0
theorem jl_upd {l : List Int32} {i : Int32} {k : Nat} {v : Int32} (hi : i.toNatClampNeg = k) (hk : k < l.length) : upd (jl l) i.toNatClampNeg v = jl (l.set k v) := by
  rw [hi]
  funext j
  unfold upd jl
  rw [List.getD_eq_getElem?_getD, List.getD_eq_getElem?_getD, List.getElem?_set]
  by_cases h : j = k
  · subst h
    rw [if_pos rfl, if_pos rfl, if_pos hk]
    rfl
  · rw [if_neg h, if_neg (fun q => h q.symm)]
theorem jl_new (k : Nat) : (fun _ : Nat => (0 : Int32)) = jl (List.replicate k 0) := by
  funext j
  unfold jl
  rw [List.getD_eq_getElem?_getD, List.getElem?_replicate]
  split <;> rfl
/-- the reference's order: row numbers -/
def jo5 (f : Nat → Int32) : Prop := ∀ j, j < 800 → ∃ k, k < 400 ∧ f j = nI k
theorem jo5_in {f : Nat → Int32} (h : jo5 f) {i : Nat} (hi : i < 800) : vp_in (f (nI i).toNatClampNeg) 800 := by
  rw [nI_clamp (by omega)]
  obtain ⟨k, hk, e⟩ := h i hi
  rw [e]
  exact vp_in_nI (by omega) (by omega)
theorem jo5_in0 {f : Nat → Int32} (h : jo5 f) {i : Nat} (hi : i < 800) : vp_in (0 + f (nI i).toNatClampNeg) 800 := by
  rw [nI_clamp (by omega)]
  obtain ⟨k, hk, e⟩ := h i hi
  rw [e, show (0 : Int32) + nI k = nI (0 + k) from nI_add 0 k]
  exact vp_in_nI (by omega) (by omega)
theorem jo5_in4 {f : Nat → Int32} (h : jo5 f) {i : Nat} (hi : i < 800) : vp_in (400 + f (nI i).toNatClampNeg) 800 := by
  rw [nI_clamp (by omega)]
  obtain ⟨k, hk, e⟩ := h i hi
  rw [e, show (400 : Int32) + nI k = nI (400 + k) from nI_add 400 k]
  exact vp_in_nI (by omega) (by omega)
theorem jo5_upd {f : Nat → Int32} {q k : Nat} (h : jo5 f) (hk : k < 400) : jo5 (upd f q (nI k)) := fun j hj => by
  unfold upd
  by_cases e : j = q
  · rw [if_pos e]; exact ⟨k, hk, rfl⟩
  · rw [if_neg e]; exact h j hj
theorem jo5_mv {f : Nat → Int32} {q r : Nat} (h : jo5 f) (hr : r < 800) : jo5 (upd f q (f r)) := by
  obtain ⟨k, hk, e⟩ := h r hr
  rw [e]
  exact jo5_upd h hk
theorem j_asym {x y : Int32} (h : x < y) : ¬ y < x := by
  rw [Int32.lt_iff_toInt_lt] at h ⊢
  omega
