/-! pure words of the general proof, seventh piece: sums, sortedness, counting by keys -/
/-- the sum of g over 0 .. n - 1 -/
def jSm (g : Nat → Nat) : Nat → Nat
  | 0 => 0
  | n + 1 => jSm g n + g n
theorem jSm_congr {g h : Nat → Nat} : ∀ n, (∀ i, i < n → g i = h i) → jSm g n = jSm h n
  | 0, _ => rfl
  | n + 1, e => by
    show jSm g n + g n = jSm h n + h n
    rw [jSm_congr n (fun i hi => e i (by omega)), e n (by omega)]
theorem jSm_le {g : Nat → Nat} {c : Nat} (hg : ∀ i, g i ≤ c) : ∀ n, jSm g n ≤ n * c
  | 0 => Nat.zero_le _
  | n + 1 => by
    have h1 := jSm_le hg n
    have h2 := hg n
    show jSm g n + g n ≤ (n + 1) * c
    rw [Nat.succ_mul]
    omega
theorem jSm_add {g h : Nat → Nat} : ∀ n, jSm (fun i => g i + h i) n = jSm g n + jSm h n
  | 0 => rfl
  | n + 1 => by
    show jSm (fun i => g i + h i) n + (g n + h n) = jSm g n + g n + (jSm h n + h n)
    rw [jSm_add n]
    omega
theorem jSm_0 {g : Nat → Nat} : ∀ n, (∀ i, i < n → g i = 0) → jSm g n = 0
  | 0, _ => rfl
  | n + 1, e => by
    show jSm g n + g n = 0
    rw [jSm_0 n (fun i hi => e i (by omega)), e n (by omega)]
theorem jSm_1 {g : Nat → Nat} : ∀ n, (∀ i, i < n → g i = 1) → jSm g n = n
  | 0, _ => rfl
  | n + 1, e => by
    show jSm g n + g n = n + 1
    rw [jSm_1 n (fun i hi => e i (by omega)), e n (by omega)]
/-- a row put in adds its own -/
theorem jSm_ins {fk : Nat → Int32} {num : Nat} (hn : num < 2 ^ 31) (g : Nat → Nat) : ∀ (q : Nat) (fo : Nat → Int32), jSm (fun i => g (jins fk num fo q i).toNatClampNeg) (q + 1) = jSm (fun i => g (fo i).toNatClampNeg) q + g num
  | 0, fo => by
    show 0 + g (upd fo 0 (nI num) 0).toNatClampNeg = 0 + g num
    rw [pk_us, nI_clamp hn]
  | q + 1, fo => by
    have e0 : jins fk num fo (q + 1) = if fk (fo q).toNatClampNeg ≤ fk num then upd fo (q + 1) (nI num) else jins fk num (upd fo (q + 1) (fo q)) q := rfl
    rw [e0]
    split
    · show jSm (fun i => g (upd fo (q + 1) (nI num) i).toNatClampNeg) (q + 1) + g (upd fo (q + 1) (nI num) (q + 1)).toNatClampNeg = _
      rw [pk_us, nI_clamp hn, jSm_congr (q + 1) (fun i hi => by rw [pk_un (show i ≠ q + 1 by omega)])]
    · show jSm (fun i => g (jins fk num (upd fo (q + 1) (fo q)) q i).toNatClampNeg) (q + 1) + g (jins fk num (upd fo (q + 1) (fo q)) q (q + 1)).toNatClampNeg = jSm (fun i => g (fo i).toNatClampNeg) q + g (fo q).toNatClampNeg + g num
      rw [jSm_ins hn g q, jins_out q _ _ (by omega), pk_us, jSm_congr q (h := fun i => g (fo i).toNatClampNeg) (fun i hi => by rw [pk_un (show i ≠ q + 1 by omega)])]
      omega
/-- the order is a permutation, as sums see it -/
theorem jSm_S {fk : Nat → Int32} (g : Nat → Nat) : ∀ n, n ≤ 2 ^ 31 → jSm (fun i => g (jS fk n i).toNatClampNeg) n = jSm g n
  | 0, _ => rfl
  | n + 1, h => by
    rw [jS_succ, jSm_ins (by omega) g n, jSm_S g n (by omega)]
    rfl
theorem j_lt_le {x y : Int32} (h : ¬ x ≤ y) : y < x := by
  rw [Int32.le_iff_toInt_le] at h
  rw [Int32.lt_iff_toInt_lt]
  omega
theorem j_le_of {x y : Int32} (h : x < y) : x ≤ y := by
  rw [Int32.lt_iff_toInt_lt] at h
  rw [Int32.le_iff_toInt_le]
  omega
theorem j_le_tr {x y z : Int32} (h : x ≤ y) (h2 : y ≤ z) : x ≤ z := by
  rw [Int32.le_iff_toInt_le] at *
  omega
theorem j_lt_tr {x y z : Int32} (h : x < y) (h2 : y ≤ z) : x < z := by
  rw [Int32.le_iff_toInt_le] at h2
  rw [Int32.lt_iff_toInt_lt] at *
  omega
/-- keys don't fall, at the first q places -/
def jMo (q : Nat) (K : Nat → Int32) : Prop := ∀ i j, i ≤ j → j < q → K i ≤ K j
theorem jMo_ins {fk : Nat → Int32} {num : Nat} (hn : num < 2 ^ 31) : ∀ (q : Nat) (fo : Nat → Int32), jMo q (fun i => fk (fo i).toNatClampNeg) → jMo (q + 1) (fun i => fk (jins fk num fo q i).toNatClampNeg) ∧ ∀ M : Int32, fk num ≤ M → (∀ i, i < q → fk (fo i).toNatClampNeg ≤ M) → ∀ i, i < q + 1 → fk (jins fk num fo q i).toNatClampNeg ≤ M
  | 0, fo, h => by
    refine ⟨fun i j hij hj => ?_, fun M hM _ i hi => ?_⟩
    · obtain rfl : i = j := by omega
      exact Int32.le_refl _
    · obtain rfl : i = 0 := by omega
      show fk (upd fo 0 (nI num) 0).toNatClampNeg ≤ M
      rw [pk_us, nI_clamp hn]
      exact hM
  | q + 1, fo, h => by
    have e0 : jins fk num fo (q + 1) = if fk (fo q).toNatClampNeg ≤ fk num then upd fo (q + 1) (nI num) else jins fk num (upd fo (q + 1) (fo q)) q := rfl
    rw [e0]
    by_cases c : fk (fo q).toNatClampNeg ≤ fk num
    · rw [if_pos c]
      refine ⟨fun i j hij hj => ?_, fun M hM hf i hi => ?_⟩
      · show fk (upd fo (q + 1) (nI num) i).toNatClampNeg ≤ fk (upd fo (q + 1) (nI num) j).toNatClampNeg
        by_cases ej : j = q + 1
        · subst ej
          rw [pk_us, nI_clamp hn]
          by_cases ei : i = q + 1
          · subst ei; rw [pk_us, nI_clamp hn]; exact Int32.le_refl _
          · rw [pk_un ei]; exact j_le_tr (h i q (by omega) (by omega)) c
        · rw [pk_un ej, pk_un (show i ≠ q + 1 by omega)]
          exact h i j hij (by omega)
      · show fk (upd fo (q + 1) (nI num) i).toNatClampNeg ≤ M
        by_cases ei : i = q + 1
        · subst ei; rw [pk_us, nI_clamp hn]; exact hM
        · rw [pk_un ei]; exact hf i (by omega)
    · rw [if_neg c]
      have hq : ∀ i, i < q + 1 → upd fo (q + 1) (fo q) i = fo i := fun i hi => pk_un (by omega)
      obtain ⟨g1, g2⟩ := jMo_ins hn q (upd fo (q + 1) (fo q)) (fun i j hij hj => by
        show fk (upd fo (q + 1) (fo q) i).toNatClampNeg ≤ fk (upd fo (q + 1) (fo q) j).toNatClampNeg
        rw [hq i (by omega), hq j (by omega)]
        exact h i j hij (by omega))
      have top : jins fk num (upd fo (q + 1) (fo q)) q (q + 1) = fo q := by rw [jins_out q _ _ (by omega), pk_us]
      have g3 := g2 (fk (fo q).toNatClampNeg) (j_le_of (j_lt_le c)) (fun i hi => by rw [hq i (by omega)]; exact h i q (by omega) (by omega))
      refine ⟨fun i j hij hj => ?_, fun M hM hf i hi => ?_⟩
      · show fk (jins fk num (upd fo (q + 1) (fo q)) q i).toNatClampNeg ≤ fk (jins fk num (upd fo (q + 1) (fo q)) q j).toNatClampNeg
        by_cases ej : j = q + 1
        · subst ej
          rw [top]
          by_cases ei : i = q + 1
          · subst ei; rw [top]; exact Int32.le_refl _
          · exact g3 i (by omega)
        · exact g1 i j hij (by omega)
      · by_cases ei : i = q + 1
        · subst ei; rw [top]; exact hf q (by omega)
        · exact g2 M hM (fun k hk => by rw [hq k (by omega)]; exact hf k (by omega)) i (by omega)
theorem jMo_S {fk : Nat → Int32} : ∀ n, n ≤ 2 ^ 31 → jMo n (fun i => fk (jS fk n i).toNatClampNeg)
  | 0, _ => fun i j _ hj => absurd hj (Nat.not_lt_zero _)
  | n + 1, h => by
    rw [jS_succ]
    exact (jMo_ins (by omega) n _ (jMo_S n (by omega))).1
/-- how many of the first n have the key x; are below x -/
def jCt (n : Nat) (K : Nat → Int32) (x : Int32) : Nat := jSm (fun j => if K j = x then 1 else 0) n
theorem jCt_le {n : Nat} {K : Nat → Int32} {x : Int32} : jCt n K x ≤ n := by
  have h := jSm_le (g := fun j => if K j = x then 1 else 0) (c := 1) (fun i => by show (if _ then _ else _) ≤ 1; split <;> omega) n
  unfold jCt
  omega
theorem jCt_S {fk : Nat → Int32} {n : Nat} (h : n ≤ 2 ^ 31) (x : Int32) : jCt n (fun i => fk (jS fk n i).toNatClampNeg) x = jCt n fk x := jSm_S (fun j => if fk j = x then 1 else 0) n h
theorem jCt_congr {n : Nat} {K K' : Nat → Int32} (h : ∀ i, i < n → K i = K' i) (x : Int32) : jCt n K x = jCt n K' x := jSm_congr n (fun i hi => by rw [h i hi])
/-- where the keys not below x begin, and those above x -/
def jLb (n : Nat) (K : Nat → Int32) (x : Int32) (fi : Nat) : Prop := fi ≤ n ∧ (∀ j, j < fi → K j < x) ∧ (∀ j, fi ≤ j → j < n → ¬ K j < x)
def jUb (n : Nat) (K : Nat → Int32) (x : Int32) (be : Nat) : Prop := be ≤ n ∧ (∀ j, j < be → K j ≤ x) ∧ (∀ j, be ≤ j → j < n → ¬ K j ≤ x)
theorem jLb_det {n : Nat} {K : Nat → Int32} {x : Int32} {a b : Nat} (h : jLb n K x a) (h2 : jLb n K x b) : a = b := by
  rcases Nat.lt_trichotomy a b with q | q | q
  · exact absurd (h2.2.1 a q) (h.2.2 a (Nat.le_refl _) (by have := h2.1; omega))
  · exact q
  · exact absurd (h.2.1 b q) (h2.2.2 b (Nat.le_refl _) (by have := h.1; omega))
theorem jLb_le {n : Nat} {K : Nat → Int32} {x : Int32} {a b : Nat} (h : jLb n K x a) (h2 : jUb n K x b) : a ≤ b := by
  rcases Nat.lt_or_ge b a with q | q
  · exact absurd (j_le_of (h.2.1 b q)) (h2.2.2 b (Nat.le_refl _) (by have := h.1; omega))
  · exact q
theorem jSm_rng {g : Nat → Nat} {a b : Nat} (hab : a ≤ b) : ∀ n, b ≤ n → (∀ i, i < a → g i = 0) → (∀ i, a ≤ i → i < b → g i = 1) → (∀ i, b ≤ i → i < n → g i = 0) → jSm g n = b - a := fun n => by
  induction n with
  | zero => intro h1 _ _ _; show 0 = b - a; omega
  | succ n ih =>
    intro h1 h2 h3 h4
    show jSm g n + g n = b - a
    by_cases e : b = n + 1
    · subst e
      by_cases e2 : a = n + 1
      · rw [jSm_0 n (fun i hi => h2 i (by omega)), h2 n (by omega)]
        omega
      · rw [h3 n (by omega) (by omega)]
        clear ih
        have e5 : ∀ k, k ≤ n → jSm g k = k - a := fun k => by
          induction k with
          | zero => intro _; show 0 = 0 - a; omega
          | succ k ik =>
            intro hk
            show jSm g k + g k = k + 1 - a
            rw [ik (by omega)]
            by_cases e6 : k < a
            · rw [h2 k e6]; omega
            · rw [h3 k (by omega) (by omega)]; omega
        rw [e5 n (by omega)]
        omega
    · rw [ih (by omega) h2 h3 (fun i hi hj => h4 i hi (by omega)), h4 n (by omega) (by omega)]
      rfl
theorem jCt_rng {n : Nat} {K : Nat → Int32} {x : Int32} {a b : Nat} (h : jLb n K x a) (h2 : jUb n K x b) : jCt n K x = b - a := by
  have hne : ∀ {y z : Int32}, y < z → ¬ y = z := fun {y z} h e => by subst e; rw [Int32.lt_iff_toInt_lt] at h; omega
  have heq : ∀ {y z : Int32}, ¬ y < z → y ≤ z → y = z := fun {y z} h1 h2 => by rw [Int32.lt_iff_toInt_lt] at h1; rw [Int32.le_iff_toInt_le] at h2; exact Int32.toInt_inj.mp (by omega)
  refine jSm_rng (jLb_le h h2) n h2.1 (fun i hi => if_neg (hne (h.2.1 i hi))) (fun i hi hj => if_pos (heq (h.2.2 i hi (by have := h2.1; omega)) (h2.2.1 i hj))) (fun i hi hj => if_neg (fun e => h2.2.2 i hi hj (by rw [e]; exact Int32.le_refl _)))
