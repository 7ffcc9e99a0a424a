/-! pure words of the general proof: reading a table by sorted places, putting a row in order -/
/-- what stands at the sorted place x of a table of n rows: f of the row's number, 0 where no row is -/
def jat (n : Nat) (f g : Nat → Int32) (x : Int32) : Int32 := if x < 0 ∨ nI n ≤ x then 0 else f (g x.toNatClampNeg).toNatClampNeg
def jnum (n : Nat) (g : Nat → Int32) (x : Int32) : Int32 := if x < 0 ∨ nI n ≤ x then -1 else g x.toNatClampNeg
/-- the sum before the place x, 0 where there is none -/
def jsum (n : Nat) (f : Nat → Int32) (x : Int32) : Int32 := if x < 0 ∨ nI n < x then 0 else f x.toNatClampNeg
theorem jat_o {n : Nat} {f g : Nat → Int32} {x : Int32} (h : x < 0 ∨ nI n ≤ x) : (0 : Int32) = jat n f g x := by unfold jat; rw [if_pos h]
theorem jat_i {n : Nat} {f g : Nat → Int32} {x : Int32} (h1 : ¬ x < 0) (h2 : ¬ nI n ≤ x) : f (g x.toNatClampNeg).toNatClampNeg = jat n f g x := by unfold jat; rw [if_neg (fun h => h.elim h1 h2)]
theorem jnum_o {n : Nat} {g : Nat → Int32} {x : Int32} (h : x < 0 ∨ nI n ≤ x) : (-1 : Int32) = jnum n g x := by unfold jnum; rw [if_pos h]
theorem jnum_i {n : Nat} {g : Nat → Int32} {x : Int32} (h1 : ¬ x < 0) (h2 : ¬ nI n ≤ x) : g x.toNatClampNeg = jnum n g x := by unfold jnum; rw [if_neg (fun h => h.elim h1 h2)]
theorem jsum_a {n : Nat} {f : Nat → Int32} {x : Int32} (h : x < 0) : (0 : Int32) = jsum n f x := by unfold jsum; rw [if_pos (Or.inl h)]
theorem jsum_b {n : Nat} {f : Nat → Int32} {x : Int32} (h : nI n < x) : (0 : Int32) = jsum n f x := by unfold jsum; rw [if_pos (Or.inr h)]
theorem jsum_i {n : Nat} {f : Nat → Int32} {x : Int32} (h1 : ¬ x < 0) (h2 : ¬ nI n < x) : f x.toNatClampNeg = jsum n f x := by unfold jsum; rw [if_neg (fun h => h.elim h1 h2)]
theorem jt_lt {x : Int32} {n : Nat} (h1 : ¬ x < 0) (h2 : ¬ nI n ≤ x) (hn : n ≤ 400) : x.toNatClampNeg < n := by
  obtain ⟨j, hj, rfl⟩ := nI_of h1
  rw [nI_leI (by omega) hj] at h2
  rw [nI_clamp hj]
  omega
theorem jt_in {x : Int32} {n a : Nat} (h1 : ¬ x < 0) (h2 : ¬ nI n ≤ x) (hn : n ≤ a) (ha : a ≤ 400) : vp_in x a := by
  have h3 := jt_lt h1 h2 (by omega)
  exact fun h => h.elim h1 (fun h => by omega)
theorem jt_in1 {x : Int32} {n a : Nat} (h1 : ¬ x < 0) (h2 : ¬ nI n < x) (hn : n ≤ a) (ha : a ≤ 400) : vp_in x (a + 1) := by
  obtain ⟨j, hj, rfl⟩ := nI_of h1
  rw [nI_ltI (by omega) hj] at h2
  exact vp_in_nI (by omega) (by omega)
theorem jt_ino {fo : Nat → Int32} {a j : Nat} (ho : ∀ j, j < a → ∃ k, k < a ∧ fo j = nI k) (hj : j < a) (ha : a ≤ 400) : vp_in (fo j) a := by
  obtain ⟨k, hk, e⟩ := ho j hj
  rw [e]
  exact vp_in_nI hk (by omega)
/-- row num is put in order, from the place q down: greater keys make way -/
def jins (fk : Nat → Int32) (num : Nat) : (Nat → Int32) → Nat → (Nat → Int32)
  | fo, 0 => upd fo 0 (nI num)
  | fo, q + 1 => if fk (fo q).toNatClampNeg ≤ fk num then upd fo (q + 1) (nI num) else jins fk num (upd fo (q + 1) (fo q)) q
theorem jins_0 {fk fo : Nat → Int32} {num : Nat} : upd fo 0 (nI num) = jins fk num fo 0 := rfl
theorem jins_le {fk fo : Nat → Int32} {num q : Nat} (h : fk (fo q).toNatClampNeg ≤ fk num) : upd fo (q + 1) (nI num) = jins fk num fo (q + 1) := by
  show _ = if _ then _ else _
  rw [if_pos h]
theorem jins_gt {fk fo : Nat → Int32} {num q : Nat} (h : ¬ fk (fo q).toNatClampNeg ≤ fk num) : jins fk num (upd fo (q + 1) (fo q)) q = jins fk num fo (q + 1) := by
  show _ = if _ then _ else _
  rw [if_neg h]
/-- the rows from .. from + d - 1 are put in order, one after another -/
def jsrt (fk fo : Nat → Int32) (from0 : Nat) : Nat → (Nat → Int32)
  | 0 => fo
  | d + 1 => jins fk (from0 + d) (jsrt fk fo from0 d) (from0 + d)
def jord (a : Nat) (fo : Nat → Int32) : Prop := ∀ j, j < a → ∃ k, k < a ∧ fo j = nI k
theorem jord_upd {a : Nat} {fo : Nat → Int32} {q k : Nat} (ho : jord a fo) (hk : k < a) : jord a (upd fo q (nI k)) := fun j hj => by
  unfold upd
  by_cases h : j = q
  · rw [if_pos h]; exact ⟨k, hk, rfl⟩
  · rw [if_neg h]; exact ho j hj
theorem jord_mv {a : Nat} {fo : Nat → Int32} {q r : Nat} (ho : jord a fo) (hr : r < a) : jord a (upd fo q (fo r)) := by
  obtain ⟨k, hk, e⟩ := ho r hr
  rw [e]
  exact jord_upd ho hk
theorem jord_ins {a : Nat} {fk : Nat → Int32} {num : Nat} (hn : num < a) : ∀ (q : Nat) (fo : Nat → Int32), q < a → jord a fo → jord a (jins fk num fo q)
  | 0, fo, _, ho => jord_upd ho hn
  | q + 1, fo, hq, ho => by
    show jord a (if _ then _ else _)
    split
    · exact jord_upd ho hn
    · exact jord_ins hn q _ (by omega) (jord_mv ho (by omega))
theorem jord_srt {a : Nat} {fk fo : Nat → Int32} {from0 : Nat} (ho : jord a fo) : ∀ d, from0 + d ≤ a → jord a (jsrt fk fo from0 d)
  | 0, _ => ho
  | d + 1, h => jord_ins (by omega) _ _ (by omega) (jord_srt ho d (by omega))
theorem jff_upd {f : Nat → Int32} {q k : Nat} (h : ∀ j, ∃ k, k ≤ 400 ∧ f j = nI k) (hk : k ≤ 400) : ∀ j, ∃ z, z ≤ 400 ∧ upd f q (nI k) j = nI z := fun j => by
  unfold upd
  by_cases e : j = q
  · rw [if_pos e]; exact ⟨k, hk, rfl⟩
  · rw [if_neg e]; exact h j
