/-! pure words of the general proof, fifteenth piece: sums and outermost values of a key's rows -/
def jSL (g : Nat → Int64) : Nat → Int64
  | 0 => 0
  | n + 1 => jSL g n + g n
theorem jSL_congr {g h : Nat → Int64} : ∀ n, (∀ i, i < n → g i = h i) → jSL g n = jSL h n
  | 0, _ => rfl
  | n + 1, e => by
    show jSL g n + g n = jSL h n + h n
    rw [jSL_congr n (fun i hi => e i (by omega)), e n (by omega)]
theorem jSL_0 {g : Nat → Int64} : ∀ n, (∀ i, i < n → g i = 0) → jSL g n = 0
  | 0, _ => rfl
  | n + 1, e => by
    show jSL g n + g n = 0
    rw [jSL_0 n (fun i hi => e i (by omega)), e n (by omega)]
    rfl
theorem jSL_suf {g : Nat → Int64} {i : Nat} : ∀ d, (∀ j, i ≤ j → j < i + d → g j = 0) → jSL g (i + d) = jSL g i
  | 0, _ => rfl
  | d + 1, h => by
    show jSL g (i + d) + g (i + d) = jSL g i
    rw [jSL_suf d (fun j h1 h2 => h j h1 (by omega)), h (i + d) (by omega) (by omega), Int64.add_zero]
theorem jSm_suf {g : Nat → Nat} {i : Nat} : ∀ d, (∀ j, i ≤ j → j < i + d → g j = 0) → jSm g (i + d) = jSm g i
  | 0, _ => rfl
  | d + 1, h => by
    show jSm g (i + d) + g (i + d) = jSm g i
    rw [jSm_suf d (fun j h1 h2 => h j h1 (by omega)), h (i + d) (by omega) (by omega), Nat.add_zero]
theorem jSL_ins {fk : Nat → Int32} {num : Nat} (hn : num < 2 ^ 31) (g : Nat → Int64) : ∀ (q : Nat) (fo : Nat → Int32), jSL (fun i => g (jins fk num fo q i).toNatClampNeg) (q + 1) = jSL (fun i => g (fo i).toNatClampNeg) q + g num
  | 0, fo => by
    show 0 + g (upd fo 0 (nI num) 0).toNatClampNeg = 0 + g num
    rw [pk_us, nI_clamp hn]
  | q + 1, fo => by
    have e0 : jins fk num fo (q + 1) = if fk (fo q).toNatClampNeg ≤ fk num then upd fo (q + 1) (nI num) else jins fk num (upd fo (q + 1) (fo q)) q := rfl
    rw [e0]
    split
    · show jSL (fun i => g (upd fo (q + 1) (nI num) i).toNatClampNeg) (q + 1) + g (upd fo (q + 1) (nI num) (q + 1)).toNatClampNeg = _
      rw [pk_us, nI_clamp hn, jSL_congr (q + 1) (fun i hi => by rw [pk_un (show i ≠ q + 1 by omega)])]
    · show jSL (fun i => g (jins fk num (upd fo (q + 1) (fo q)) q i).toNatClampNeg) (q + 1) + g (jins fk num (upd fo (q + 1) (fo q)) q (q + 1)).toNatClampNeg = jSL (fun i => g (fo i).toNatClampNeg) q + g (fo q).toNatClampNeg + g num
      rw [jSL_ins hn g q, jins_out q _ _ (by omega), pk_us, jSL_congr q (h := fun i => g (fo i).toNatClampNeg) (fun i hi => by rw [pk_un (show i ≠ q + 1 by omega)]), Int64.add_assoc, Int64.add_comm (g num), ← Int64.add_assoc]
theorem jSL_S {fk : Nat → Int32} (g : Nat → Int64) : ∀ n, n ≤ 2 ^ 31 → jSL (fun i => g (jS fk n i).toNatClampNeg) n = jSL g n
  | 0, _ => rfl
  | n + 1, h => by
    rw [jS_succ, jSL_ins (by omega) g n, jSL_S g n (by omega)]
    rfl
/-- every row has a place -/
theorem jS_sur {fk : Nat → Int32} {n k : Nat} (hn : n ≤ 400) (hk : k < n) : ∃ i, i < n ∧ jS fk n i = nI k := by
  have e := jSm_S (fk := fk) (fun j => if j = k then 1 else 0) n (by omega)
  have e1 : jSm (fun j => if j = k then 1 else 0) n = 1 := by
    have h := jSm_rng (g := fun j => if j = k then 1 else 0) (a := k) (b := k + 1) (by omega) n (by omega) (fun i hi => if_neg (by omega)) (fun i h1 h2 => if_pos (by omega)) (fun i h1 h2 => if_neg (by omega))
    omega
  by_cases c : ∃ i, i < n ∧ jS fk n i = nI k
  · exact c
  · rw [e1, jSm_0 n (fun i hi => if_neg (fun q => c ⟨i, hi, by
      obtain ⟨z, h1, h2⟩ := jrow_S (fk := fk) n i hi
      rw [h2, nI_clamp (by omega)] at q
      rw [h2, q]⟩))] at e
    exact absurd e (by decide)
theorem jCt_pos {n : Nat} {K : Nat → Int32} {x : Int32} (h : ¬ jCt n K x = 0) : ∃ j, j < n ∧ K j = x := by
  by_cases c : ∃ j, j < n ∧ K j = x
  · exact c
  · exact absurd (jSm_0 n (fun i hi => if_neg (fun q => c ⟨i, hi, q⟩))) h
/-- the least, the greatest of the values of a key's rows -/
def jMi (n : Nat) (K V : Nat → Int32) (x : Int32) (m : Int64) : Prop := (∀ j, j < n → K j = x → m ≤ (V j).toInt64) ∧ ∃ j, j < n ∧ K j = x ∧ m = (V j).toInt64
def jMa (n : Nat) (K V : Nat → Int32) (x : Int32) (m : Int64) : Prop := (∀ j, j < n → K j = x → (V j).toInt64 ≤ m) ∧ ∃ j, j < n ∧ K j = x ∧ m = (V j).toInt64
def jSp (n : Nat) (K V : Nat → Int32) (x : Int32) (z : Int32) (a b c : Int64) : Prop := z = nI (jCt n K x) ∧ a = jSL (fun i => if K i = x then (V i).toInt64 else 0) n ∧ jMi n K V x b ∧ jMa n K V x c
/-- on the way over the places from fr to i -/
def jSw (n : Nat) (K V : Nat → Int32) (x : Int32) (i : Nat) (z : Int32) (a b c : Int64) : Prop := z = nI (jCt i K x) ∧ a = jSL (fun i => if K i = x then (V i).toInt64 else 0) i ∧ ((∀ j, j < i → K j = x → b ≤ (V j).toInt64) ∧ ∃ j, j < n ∧ K j = x ∧ b = (V j).toInt64) ∧ ((∀ j, j < i → K j = x → (V j).toInt64 ≤ c) ∧ ∃ j, j < n ∧ K j = x ∧ c = (V j).toInt64)
theorem jl_lt_le {x y : Int64} (h : x < y) : x ≤ y := by rw [Int64.lt_iff_toInt_lt] at h; rw [Int64.le_iff_toInt_le]; omega
theorem jl_nlt {x y : Int64} (h : ¬ x < y) : y ≤ x := by rw [Int64.lt_iff_toInt_lt] at h; rw [Int64.le_iff_toInt_le]; omega
theorem jl_tr {x y z : Int64} (h : x ≤ y) (h2 : y ≤ z) : x ≤ z := by rw [Int64.le_iff_toInt_le] at *; omega
section JW
variable {n i fr : Nat} {K V : Nat → Int32} {x : Int32} {z : Int32} {a b c : Int64}
theorem j_ne {y z : Int32} (h : y < z) : ¬ y = z := fun e => by subst e; rw [Int32.lt_iff_toInt_lt] at h; omega
theorem jSw_0 (hl : jLb n K x fr) (hf : fr < n) (hx : K fr = x) : jSw n K V x fr 0 0 (V fr).toInt64 (V fr).toInt64 :=
  ⟨by rw [show jCt fr K x = 0 from jSm_0 fr (fun i hi => if_neg (j_ne (hl.2.1 i hi)))]; rfl, (jSL_0 fr (fun i hi => if_neg (j_ne (hl.2.1 i hi)))).symm, ⟨fun j hj e => absurd e (j_ne (hl.2.1 j hj)), fr, hf, hx, rfl⟩, ⟨fun j hj e => absurd e (j_ne (hl.2.1 j hj)), fr, hf, hx, rfl⟩⟩
theorem jSw_1 (h : jSw n K V x i z a b c) (hi : i < n) (hx : K i = x) : jSw n K V x (i + 1) (z + 1) (a + (V i).toInt64) (if (V i).toInt64 < b then (V i).toInt64 else b) (if (V i).toInt64 < c then c else (V i).toInt64) := by
  obtain ⟨h1, h2, ⟨h3, h4⟩, h5, h6⟩ := h
  refine ⟨?_, ?_, ⟨?_, ?_⟩, ?_, ?_⟩
  · show z + 1 = nI (jCt i K x + if K i = x then 1 else 0)
    rw [if_pos hx, h1, nI_1]
  · show _ = jSL (fun i => if K i = x then (V i).toInt64 else 0) i + (if K i = x then (V i).toInt64 else 0)
    rw [if_pos hx, h2]
  · intro j hj e
    by_cases q : j = i
    · subst q
      split
      · exact Int64.le_refl _
      · exact jl_nlt (by assumption)
    · have h7 := h3 j (by omega) e
      split
      · exact jl_tr (jl_lt_le (by assumption)) h7
      · exact h7
  · split
    · exact ⟨i, hi, hx, rfl⟩
    · exact h4
  · intro j hj e
    by_cases q : j = i
    · subst q
      split
      · exact jl_lt_le (by assumption)
      · exact Int64.le_refl _
    · have h7 := h5 j (by omega) e
      split
      · exact h7
      · exact jl_tr h7 (jl_nlt (by assumption))
  · split
    · exact h6
    · exact ⟨i, hi, hx, rfl⟩
theorem jSw_n (h : jSw n K V x i z a b c) (hi : i ≤ n) (he : ∀ j, i ≤ j → j < n → ¬ K j = x) : jSp n K V x z a b c := by
  obtain ⟨h1, h2, ⟨h3, h4⟩, h5, h6⟩ := h
  have e1 := jSm_suf (g := fun j => if K j = x then 1 else 0) (i := i) (n - i) (fun j q1 q2 => if_neg (he j q1 (by omega)))
  have e2 := jSL_suf (g := fun j => if K j = x then (V j).toInt64 else 0) (i := i) (n - i) (fun j q1 q2 => if_neg (he j q1 (by omega)))
  rw [show i + (n - i) = n by omega] at e1 e2
  refine ⟨by rw [h1]; exact congrArg nI e1.symm, by rw [h2, e2], ⟨fun j hj e => ?_, h4⟩, ⟨fun j hj e => ?_, h6⟩⟩
  · by_cases q : j < i
    · exact h3 j q e
    · exact absurd e (he j (by omega) hj)
  · by_cases q : j < i
    · exact h5 j q e
    · exact absurd e (he j (by omega) hj)
/-- behind the rows of a key its rows don't come again -/
theorem jrun_end (hw : jMo n K) (hl : jLb n K x fr) (h1 : fr ≤ i) (h2 : n ≤ i ∨ ¬ K i = x) : ∀ j, i ≤ j → j < n → ¬ K j = x := fun j h3 h4 e => by
  rcases h2 with h2 | h2
  · omega
  · have h5 := hw i j h3 h4
    have h6 := hl.2.2 i h1 (by omega)
    rw [e, Int32.le_iff_toInt_le] at h5
    rw [Int32.lt_iff_toInt_lt] at h6
    exact h2 (Int32.toInt_inj.mp (by omega))
theorem jlb_first (hw : jMo n K) (hi : i < n) (h : i = 0 ∨ ¬ K (i - 1) = K i) : jLb n K (K i) i := by
  refine ⟨by omega, fun j hj => ?_, fun j h1 h2 => j_nlt_le (hw i j h1 h2)⟩
  rcases h with h | h
  · omega
  · have h1 := hw j (i - 1) (by omega) (by omega)
    have h2 := hw (i - 1) i (by omega) hi
    rw [Int32.le_iff_toInt_le] at h1 h2
    have h3 : ¬ (K (i - 1)).toInt = (K i).toInt := fun q => h (Int32.toInt_inj.mp q)
    rw [Int32.lt_iff_toInt_lt]
    omega
theorem jlb_at (hw : jMo n K) (hl : jLb n K x fr) (hc : ¬ jCt n K x = 0) : fr < n ∧ K fr = x := by
  obtain ⟨j, hj, e⟩ := jCt_pos hc
  have h1 : ¬ j < fr := fun q => absurd e (j_ne (hl.2.1 j q))
  have h2 : fr < n := by omega
  have h3 := hw fr j (by omega) hj
  have h4 := hl.2.2 fr (Nat.le_refl _) h2
  rw [e, Int32.le_iff_toInt_le] at h3
  rw [Int32.lt_iff_toInt_lt] at h4
  exact ⟨h2, Int32.toInt_inj.mp (by omega)⟩
end JW
/-! outermost values make the outermost products -/
theorem jc_min {x x0 x1 y y0 y1 : Int} (h0 : x0 ≤ x) (h1 : x ≤ x1) (g0 : y0 ≤ y) (g1 : y ≤ y1) : x0 * y0 ≤ x * y ∨ x0 * y1 ≤ x * y ∨ x1 * y0 ≤ x * y ∨ x1 * y1 ≤ x * y := by
  rcases Int.le_total 0 y with c | c
  · have e1 : x0 * y ≤ x * y := Int.mul_le_mul_of_nonneg_right h0 c
    rcases Int.le_total 0 x0 with d | d
    · exact Or.inl (Int.le_trans (Int.mul_le_mul_of_nonneg_left g0 d) e1)
    · exact Or.inr (Or.inl (Int.le_trans (Int.mul_le_mul_of_nonpos_left d g1) e1))
  · have e1 : x1 * y ≤ x * y := Int.mul_le_mul_of_nonpos_right h1 c
    rcases Int.le_total 0 x1 with d | d
    · exact Or.inr (Or.inr (Or.inl (Int.le_trans (Int.mul_le_mul_of_nonneg_left g0 d) e1)))
    · exact Or.inr (Or.inr (Or.inr (Int.le_trans (Int.mul_le_mul_of_nonpos_left d g1) e1)))
theorem jc_max {x x0 x1 y y0 y1 : Int} (h0 : x0 ≤ x) (h1 : x ≤ x1) (g0 : y0 ≤ y) (g1 : y ≤ y1) : x * y ≤ x0 * y0 ∨ x * y ≤ x0 * y1 ∨ x * y ≤ x1 * y0 ∨ x * y ≤ x1 * y1 := by
  rcases Int.le_total 0 y with c | c
  · have e1 : x * y ≤ x1 * y := Int.mul_le_mul_of_nonneg_right h1 c
    rcases Int.le_total 0 x1 with d | d
    · exact Or.inr (Or.inr (Or.inr (Int.le_trans e1 (Int.mul_le_mul_of_nonneg_left g1 d))))
    · exact Or.inr (Or.inr (Or.inl (Int.le_trans e1 (Int.mul_le_mul_of_nonpos_left d g0))))
  · have e1 : x * y ≤ x0 * y := Int.mul_le_mul_of_nonpos_right h0 c
    rcases Int.le_total 0 x0 with d | d
    · exact Or.inr (Or.inl (Int.le_trans e1 (Int.mul_le_mul_of_nonneg_left g1 d)))
    · exact Or.inl (Int.le_trans e1 (Int.mul_le_mul_of_nonpos_left d g0))
theorem jp_int (v w : Int32) : (v.toInt64 * w.toInt64).toInt = v.toInt * w.toInt := by
  have a1 := Int32.le_toInt v
  have a2 := Int32.toInt_lt v
  have b1 := Int32.le_toInt w
  have b2 := Int32.toInt_lt w
  have l1 := jc_min (x := v.toInt) (y := w.toInt) a1 (Int.le_of_lt a2) b1 (Int.le_of_lt b2)
  have l2 := jc_max (x := v.toInt) (y := w.toInt) a1 (Int.le_of_lt a2) b1 (Int.le_of_lt b2)
  rw [Int64.toInt_mul, Int32.toInt_toInt64, Int32.toInt_toInt64]
  exact Int.bmod_eq_of_le (by omega) (by omega)
def jmin4 (p q r s : Int64) : Int64 := if (if s < r then s else r) < (if q < p then q else p) then (if s < r then s else r) else (if q < p then q else p)
def jmax4 (p q r s : Int64) : Int64 := if (if s < r then r else s) < (if q < p then p else q) then (if q < p then p else q) else (if s < r then r else s)
theorem jmin4_le (p q r s : Int64) : (jmin4 p q r s ≤ p ∧ jmin4 p q r s ≤ q ∧ jmin4 p q r s ≤ r ∧ jmin4 p q r s ≤ s) ∧ (jmin4 p q r s = p ∨ jmin4 p q r s = q ∨ jmin4 p q r s = r ∨ jmin4 p q r s = s) := by
  unfold jmin4
  simp only [Int64.lt_iff_toInt_lt, Int64.le_iff_toInt_le, ← Int64.toInt_inj]
  split <;> split <;> split <;> simp_all <;> omega
theorem jmax4_le (p q r s : Int64) : (p ≤ jmax4 p q r s ∧ q ≤ jmax4 p q r s ∧ r ≤ jmax4 p q r s ∧ s ≤ jmax4 p q r s) ∧ (jmax4 p q r s = p ∨ jmax4 p q r s = q ∨ jmax4 p q r s = r ∨ jmax4 p q r s = s) := by
  unfold jmax4
  simp only [Int64.lt_iff_toInt_lt, Int64.le_iff_toInt_le, ← Int64.toInt_inj]
  split <;> split <;> split <;> simp_all <;> omega
