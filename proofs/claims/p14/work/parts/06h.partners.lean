/-! pure words of the general proof, eighth piece: partners -/
theorem j_step {P : Nat → Prop} {f : Nat} (h : ∀ j, j < f → P j) (hf : P f) : ∀ j, j < f + 1 → P j := fun j hj => by
  by_cases e : j = f
  · subst e; exact hf
  · exact h j (by omega)
theorem j_le_nlt {x y : Int32} (h : ¬ x < y) : y ≤ x := by
  rw [Int32.lt_iff_toInt_lt] at h
  rw [Int32.le_iff_toInt_le]
  omega
theorem j_le_lt {x y z : Int32} (h : x ≤ y) (h2 : y < z) : x < z := by
  rw [Int32.le_iff_toInt_le] at h
  rw [Int32.lt_iff_toInt_lt] at *
  omega
theorem j_nlt_le {x y : Int32} (h : x ≤ y) : ¬ y < x := by
  rw [Int32.le_iff_toInt_le] at h
  rw [Int32.lt_iff_toInt_lt]
  omega
/-- the key at a sorted place -/
def jK (f : Nat → Int32) (n i : Nat) : Int32 := f (jS f n i).toNatClampNeg
theorem jK_mo {f : Nat → Int32} {n : Nat} (h : n ≤ 400) : jMo n (jK f n) := jMo_S n (by omega)
theorem jK_at {f o : Nat → Int32} {n : Nat} (hn : n ≤ 400) (ho : ∀ i, i < n → o i = jS f n i) : ∀ i, i < n → jat n f o (nI i) = jK f n i := fun i hi => by
  rw [← jat_i (nI_pos (by omega)) (nI_ge hi (by omega)), nI_clamp (by omega), ho i hi]
  rfl
theorem jK_congr {f f' : Nat → Int32} {n : Nat} (hn : n ≤ 400) (h : ∀ i, i < n → f i = f' i) : ∀ i, i < n → jK f n i = jK f' n i := fun i hi => by
  unfold jK
  rw [← jS_keys n (by omega) h]
  obtain ⟨k, h1, h2⟩ := jrow_S (fk := f) n i hi
  rw [h2, nI_clamp (by omega)]
  exact h k h1
theorem jlb_of {n : Nat} {K : Nat → Int32} {x : Int32} {fi : Nat} (hm : jMo n K) (h1 : fi ≤ n) (hA : ∀ j, j < fi → K j < x) (hx : n ≤ fi ∨ x ≤ K fi) : jLb n K x fi := ⟨h1, hA, fun j h2 h3 => hx.elim (fun q => absurd h3 (by omega)) (fun q => j_nlt_le (j_le_tr q (hm fi j h2 h3)))⟩
theorem jub_of {n : Nat} {K : Nat → Int32} {x : Int32} {be : Nat} (hm : jMo n K) (h1 : be ≤ n) (hB : ∀ j, j < be → K j ≤ x) (hx : n ≤ be ∨ x < K be) : jUb n K x be := ⟨h1, hB, fun j h2 h3 => hx.elim (fun q => absurd h3 (by omega)) (fun q => j_nle (j_lt_tr q (hm be j h2 h3)))⟩
/-- sums over the first places: partners in the other table, rows without one -/
def jPS (n2 : Nat) (K1 K2 : Nat → Int32) : Nat → Nat := jSm (fun i => jCt n2 K2 (K1 i))
def jLS (n2 : Nat) (K1 K2 : Nat → Int32) : Nat → Nat := jSm (fun i => if jCt n2 K2 (K1 i) = 0 then 1 else 0)
theorem jPS_le {n2 : Nat} {K1 K2 : Nat → Int32} (h : n2 ≤ 400) (i : Nat) : jPS n2 K1 K2 i ≤ i * 400 := jSm_le (fun i => Nat.le_trans jCt_le h) i
theorem jLS_le {n2 : Nat} {K1 K2 : Nat → Int32} (i : Nat) : jLS n2 K1 K2 i ≤ i := by
  have h := jSm_le (g := fun i => if jCt n2 K2 (K1 i) = 0 then 1 else 0) (c := 1) (fun i => by show (if _ then _ else _) ≤ 1; split <;> omega) i
  unfold jLS
  omega
section JF
variable {n2 i fi be : Nat} {K1 K2 fp fl ff : Nat → Int32}
theorem jfp_step (hp : ∀ k, k ≤ i → fp k = nI (jPS n2 K1 K2 k)) (hi : i < 400) (h1 : jLb n2 K2 (K1 i) fi) (h2 : jUb n2 K2 (K1 i) be) : ∀ k, k ≤ i + 1 → upd fp (nI (i + 1)).toNatClampNeg (fp (nI i).toNatClampNeg + nI be - nI fi) k = nI (jPS n2 K1 K2 k) := fun k hk => by
  have h3 := jLb_le h1 h2
  rw [nI_clamp (show i + 1 < 2 ^ 31 by omega), nI_clamp (show i < 2 ^ 31 by omega)]
  by_cases e : k = i + 1
  · subst e
    rw [pk_us, hp i (by omega), nI_add, pk_sub (by omega)]
    show nI _ = nI (jPS n2 K1 K2 i + jCt n2 K2 (K1 i))
    rw [jCt_rng h1 h2]
    exact congrArg nI (by omega)
  · rw [pk_un e]
    exact hp k (by omega)
theorem jfl_1 (hp : ∀ k, k ≤ i → fl k = nI (jLS n2 K1 K2 k)) (hi : i < 400) (hn2 : n2 ≤ 400) (h1 : jLb n2 K2 (K1 i) fi) (h2 : jUb n2 K2 (K1 i) be) (e : nI be = nI fi) : ∀ k, k ≤ i + 1 → upd fl (nI (i + 1)).toNatClampNeg (fl (nI i).toNatClampNeg + 1) k = nI (jLS n2 K1 K2 k) := fun k hk => by
  have h4 := h1.1
  have h5 := h2.1
  rw [nI_eq (by omega) (by omega)] at e
  rw [nI_clamp (show i + 1 < 2 ^ 31 by omega), nI_clamp (show i < 2 ^ 31 by omega)]
  by_cases e2 : k = i + 1
  · subst e2
    rw [pk_us, hp i (by omega), nI_1]
    show nI _ = nI (jLS n2 K1 K2 i + if jCt n2 K2 (K1 i) = 0 then 1 else 0)
    rw [jCt_rng h1 h2, if_pos (by omega)]
  · rw [pk_un e2]
    exact hp k (by omega)
theorem jfl_0 (hp : ∀ k, k ≤ i → fl k = nI (jLS n2 K1 K2 k)) (hi : i < 400) (h1 : jLb n2 K2 (K1 i) fi) (h2 : jUb n2 K2 (K1 i) be) (e : ¬ nI be = nI fi) : ∀ k, k ≤ i + 1 → upd fl (nI (i + 1)).toNatClampNeg (fl (nI i).toNatClampNeg + 0) k = nI (jLS n2 K1 K2 k) := fun k hk => by
  have h3 := jLb_le h1 h2
  have h4 : be ≠ fi := fun q => e (by rw [q])
  rw [nI_clamp (show i + 1 < 2 ^ 31 by omega), nI_clamp (show i < 2 ^ 31 by omega)]
  by_cases e2 : k = i + 1
  · subst e2
    rw [pk_us, hp i (by omega), Int32.add_zero]
    show nI _ = nI (jLS n2 K1 K2 i + if jCt n2 K2 (K1 i) = 0 then 1 else 0)
    rw [jCt_rng h1 h2, if_neg (by omega)]
    rfl
  · rw [pk_un e2]
    exact hp k (by omega)
theorem jff_step (hf : ∀ k, k < i → ∃ z, ff k = nI z ∧ jLb n2 K2 (K1 k) z) (hi : i < 400) (h1 : jLb n2 K2 (K1 i) fi) : ∀ k, k < i + 1 → ∃ z, upd ff (nI i).toNatClampNeg (nI fi) k = nI z ∧ jLb n2 K2 (K1 k) z := fun k hk => by
  rw [nI_clamp (show i < 2 ^ 31 by omega)]
  by_cases e : k = i
  · subst e; rw [pk_us]; exact ⟨fi, rfl, h1⟩
  · rw [pk_un e]; exact hf k (by omega)
end JF
theorem jf_0 {f : Nat → Int32} {g : Nat → Nat} (h : f 0 = 0) : ∀ k, k ≤ 0 → f k = nI (jSm g k) := fun k hk => by
  obtain rfl : k = 0 := by omega
  exact h.trans nI_0.symm
/-- what findPartners writes of a table -/
def jPt (n n2 : Nat) (K1 K2 fp fl ff : Nat → Int32) : Prop := (∀ k, k ≤ n → fp k = nI (jPS n2 K1 K2 k)) ∧ (∀ k, k ≤ n → fl k = nI (jLS n2 K1 K2 k)) ∧ (∀ k, k < n → ∃ z, ff k = nI z ∧ jLb n2 K2 (K1 k) z)
