/-! pure words of the general proof, seventeenth piece: the reference's way over the pairs of a group -/
theorem jsh0 {m : Nat → Int32} {i : Nat} (hi : i < 2 ^ 31) : m (nI i).toNatClampNeg = jsh 0 m i := by
  rw [nI_clamp hi]
  show m i = m (0 + i)
  rw [Nat.zero_add]
theorem jsh4 {m : Nat → Int32} {i : Nat} (hi : i < 1000) : m (nI (400 + i)).toNatClampNeg = jsh 400 m i := by
  rw [nI_clamp (by omega)]
  rfl
theorem jl_max (v : Int64) : v ≤ 9223372036854775807 := by
  have h : v.toInt < 2 ^ 63 := Int64.toInt_lt v
  rw [Int64.le_iff_toInt_le, show (9223372036854775807 : Int64).toInt = 9223372036854775807 by decide]
  omega
theorem jl_min (v : Int64) : (-9223372036854775808 : Int64) ≤ v := by
  have h : -2 ^ 63 ≤ v.toInt := Int64.le_toInt v
  rw [Int64.le_iff_toInt_le, show (-9223372036854775808 : Int64).toInt = -9223372036854775808 by decide]
  omega
theorem jlc_ge {p q : Int64} {z : Int32} (e : z = lg_cmp p q) (c : 0 ≤ z) : q ≤ p := by rw [e, lg_cmp_ge] at c; exact c
theorem jlc_nge {p q : Int64} {z : Int32} (e : z = lg_cmp p q) (c : ¬ 0 ≤ z) : p ≤ q := by
  rw [e, lg_cmp_ge, Int64.le_iff_toInt_le] at c
  rw [Int64.le_iff_toInt_le]
  omega
theorem jlc_le {p q : Int64} {z : Int32} (e : z = lg_cmp p q) (c : z ≤ 0) : p ≤ q := by rw [e, lg_cmp_le] at c; exact c
theorem jlc_nle {p q : Int64} {z : Int32} (e : z = lg_cmp p q) (c : ¬ z ≤ 0) : q ≤ p := by
  rw [e, lg_cmp_le, Int64.le_iff_toInt_le] at c
  rw [Int64.le_iff_toInt_le]
  omega
/-- the pairs of the key x that were met before (a, b) -/
def jpp (n2 : Nat) (F1 F2 : Nat → Int32) (x : Int32) (a b a' b' : Nat) : Prop := ((a' < a ∧ b' < n2) ∨ (a' = a ∧ b' < b)) ∧ F1 a' = x ∧ F2 b' = x
def jRw (n2 : Nat) (F1 W1 F2 W2 : Nat → Int32) (x : Int32) (a b : Nat) (sm ct ls gr : Int64) : Prop := (b = 0 ∨ F1 a = x) ∧ b ≤ n2 ∧ sm = jSL (fun i => if F1 i = x then (W1 i).toInt64 else 0) a * jSL (fun i => if F2 i = x then (W2 i).toInt64 else 0) n2 + (W1 a).toInt64 * jSL (fun i => if F2 i = x then (W2 i).toInt64 else 0) b ∧ ct = lN (jCt a F1 x * jCt n2 F2 x + jCt b F2 x) ∧ ((∀ a' b', jpp n2 F1 F2 x a b a' b' → ls ≤ (W1 a').toInt64 * (W2 b').toInt64) ∧ (ls = 9223372036854775807 ∨ ∃ a' b', jpp n2 F1 F2 x a b a' b' ∧ ls = (W1 a').toInt64 * (W2 b').toInt64)) ∧ ((∀ a' b', jpp n2 F1 F2 x a b a' b' → (W1 a').toInt64 * (W2 b').toInt64 ≤ gr) ∧ (gr = -9223372036854775808 ∨ ∃ a' b', jpp n2 F1 F2 x a b a' b' ∧ gr = (W1 a').toInt64 * (W2 b').toInt64))
section JRW
variable {n n2 a b : Nat} {F1 W1 F2 W2 : Nat → Int32} {x : Int32} {sm ct ls gr ls' gr' : Int64}
theorem jrw_0 : jRw n2 F1 W1 F2 W2 x 0 0 0 0 9223372036854775807 (-9223372036854775808) := by
  have hno : ∀ a' b', ¬ jpp n2 F1 F2 x 0 0 a' b' := fun a' b' h => by
    rcases h.1 with q | q
    · exact absurd q.1 (Nat.not_lt_zero _)
    · exact absurd q.2 (Nat.not_lt_zero _)
  refine ⟨Or.inl rfl, Nat.zero_le _, ?_, ?_, ⟨fun a' b' h => absurd h (hno a' b'), Or.inl rfl⟩, fun a' b' h => absurd h (hno a' b'), Or.inl rfl⟩
  · show (0 : Int64) = 0 * _ + _ * 0
    rw [Int64.zero_mul, Int64.mul_zero]
    rfl
  · show (0 : Int64) = lN (0 * _ + 0)
    rw [Nat.zero_mul]
    rfl
theorem jrw_skip (h : jRw n2 F1 W1 F2 W2 x a b sm ct ls gr) (hb : b < n2) (hx : F1 a = x) (hy : ¬ F2 b = x) : jRw n2 F1 W1 F2 W2 x a (b + 1) sm ct ls gr := by
  obtain ⟨h1, h2, h3, h4, ⟨h5, h6⟩, h7, h8⟩ := h
  have hp : ∀ a' b', jpp n2 F1 F2 x a (b + 1) a' b' ↔ jpp n2 F1 F2 x a b a' b' := fun a' b' => ⟨fun q => ⟨q.1.imp id (fun z => ⟨z.1, by
    by_cases e : b' = b
    · subst e; exact absurd q.2.2 hy
    · have := z.2; omega⟩), q.2⟩, fun q => ⟨q.1.imp id (fun z => ⟨z.1, by have := z.2; omega⟩), q.2⟩⟩
  refine ⟨Or.inr hx, by omega, ?_, ?_, ⟨fun a' b' q => h5 a' b' ((hp a' b').mp q), h6.imp id (fun ⟨a', b', q, e⟩ => ⟨a', b', (hp a' b').mpr q, e⟩)⟩, fun a' b' q => h7 a' b' ((hp a' b').mp q), h8.imp id (fun ⟨a', b', q, e⟩ => ⟨a', b', (hp a' b').mpr q, e⟩)⟩
  · show sm = _ + (W1 a).toInt64 * (jSL (fun i => if F2 i = x then (W2 i).toInt64 else 0) b + (if F2 b = x then (W2 b).toInt64 else 0))
    rw [if_neg hy, Int64.add_zero]
    exact h3
  · show ct = lN (_ + (jCt b F2 x + if F2 b = x then 1 else 0))
    rw [if_neg hy]
    exact h4
theorem jrw_hit (h : jRw n2 F1 W1 F2 W2 x a b sm ct ls gr) (hb : b < n2) (hx : F1 a = x) (hy : F2 b = x) (hl : (ls' = ls ∧ ls ≤ (W1 a).toInt64 * (W2 b).toInt64) ∨ (ls' = (W1 a).toInt64 * (W2 b).toInt64 ∧ (W1 a).toInt64 * (W2 b).toInt64 ≤ ls)) (hg : (gr' = gr ∧ (W1 a).toInt64 * (W2 b).toInt64 ≤ gr) ∨ (gr' = (W1 a).toInt64 * (W2 b).toInt64 ∧ gr ≤ (W1 a).toInt64 * (W2 b).toInt64)) : jRw n2 F1 W1 F2 W2 x a (b + 1) (sm + (W1 a).toInt64 * (W2 b).toInt64) (ct + 1) ls' gr' := by
  obtain ⟨h1, h2, h3, h4, ⟨h5, h6⟩, h7, h8⟩ := h
  have hup : ∀ a' b', jpp n2 F1 F2 x a b a' b' → jpp n2 F1 F2 x a (b + 1) a' b' := fun a' b' q => ⟨q.1.imp id (fun z => ⟨z.1, by have := z.2; omega⟩), q.2⟩
  have hnew : jpp n2 F1 F2 x a (b + 1) a b := ⟨Or.inr ⟨rfl, by omega⟩, hx, hy⟩
  have hp : ∀ a' b', jpp n2 F1 F2 x a (b + 1) a' b' → jpp n2 F1 F2 x a b a' b' ∨ (a' = a ∧ b' = b) := fun a' b' q => by
    rcases q.1 with z | z
    · exact Or.inl ⟨Or.inl z, q.2⟩
    · by_cases e : b' = b
      · exact Or.inr ⟨z.1, e⟩
      · exact Or.inl ⟨Or.inr ⟨z.1, by have := z.2; omega⟩, q.2⟩
  refine ⟨Or.inr hx, by omega, ?_, ?_, ⟨fun a' b' q => ?_, ?_⟩, fun a' b' q => ?_, ?_⟩
  · show _ = _ + (W1 a).toInt64 * (jSL (fun i => if F2 i = x then (W2 i).toInt64 else 0) b + (if F2 b = x then (W2 b).toInt64 else 0))
    rw [if_pos hy, Int64.mul_add, ← Int64.add_assoc, ← h3]
  · show ct + 1 = lN (_ + (jCt b F2 x + if F2 b = x then 1 else 0))
    rw [if_pos hy, h4, lN_1, Nat.add_assoc]
  · rcases hp a' b' q with z | ⟨rfl, rfl⟩
    · rcases hl with ⟨rfl, _⟩ | ⟨rfl, e⟩
      · exact h5 a' b' z
      · exact jl_tr e (h5 a' b' z)
    · rcases hl with ⟨rfl, e⟩ | ⟨rfl, e⟩
      · exact e
      · exact Int64.le_refl _
  · rcases hl with ⟨rfl, _⟩ | ⟨rfl, _⟩
    · exact h6.imp id (fun ⟨a', b', q, e⟩ => ⟨a', b', hup a' b' q, e⟩)
    · exact Or.inr ⟨a, b, hnew, rfl⟩
  · rcases hp a' b' q with z | ⟨rfl, rfl⟩
    · rcases hg with ⟨rfl, _⟩ | ⟨rfl, e⟩
      · exact h7 a' b' z
      · exact jl_tr (h7 a' b' z) e
    · rcases hg with ⟨rfl, e⟩ | ⟨rfl, e⟩
      · exact e
      · exact Int64.le_refl _
  · rcases hg with ⟨rfl, _⟩ | ⟨rfl, _⟩
    · exact h8.imp id (fun ⟨a', b', q, e⟩ => ⟨a', b', hup a' b' q, e⟩)
    · exact Or.inr ⟨a, b, hnew, rfl⟩
theorem jrw_out (h : jRw n2 F1 W1 F2 W2 x a b sm ct ls gr) (he : n2 ≤ b ∨ ¬ F1 a = x) : jRw n2 F1 W1 F2 W2 x (a + 1) 0 sm ct ls gr := by
  obtain ⟨h1, h2, h3, h4, ⟨h5, h6⟩, h7, h8⟩ := h
  have hp : ∀ a' b', jpp n2 F1 F2 x (a + 1) 0 a' b' ↔ jpp n2 F1 F2 x a b a' b' := fun a' b' => by
    refine ⟨fun q => ?_, fun q => ?_⟩
    · rcases q.1 with z | z
      · by_cases e : a' = a
        · subst e
          exact ⟨Or.inr ⟨rfl, he.elim (fun y => by omega) (fun y => absurd q.2.1 y)⟩, q.2⟩
        · exact ⟨Or.inl ⟨by omega, z.2⟩, q.2⟩
      · exact absurd z.2 (Nat.not_lt_zero _)
    · rcases q.1 with z | z
      · exact ⟨Or.inl ⟨by omega, z.2⟩, q.2⟩
      · exact ⟨Or.inl ⟨by omega, by omega⟩, q.2⟩
  refine ⟨Or.inl rfl, Nat.zero_le _, ?_, ?_, ⟨fun a' b' q => h5 a' b' ((hp a' b').mp q), h6.imp id (fun ⟨a', b', q, e⟩ => ⟨a', b', (hp a' b').mpr q, e⟩)⟩, fun a' b' q => h7 a' b' ((hp a' b').mp q), h8.imp id (fun ⟨a', b', q, e⟩ => ⟨a', b', (hp a' b').mpr q, e⟩)⟩
  · show sm = (jSL (fun i => if F1 i = x then (W1 i).toInt64 else 0) a + (if F1 a = x then (W1 a).toInt64 else 0)) * _ + _ * 0
    rw [Int64.mul_zero, Int64.add_zero, Int64.add_mul, h3]
    by_cases c : F1 a = x
    · rw [if_pos c]
      rcases he with he | he
      · rw [show b = n2 by omega]
      · exact absurd c he
    · rw [if_neg c, Int64.zero_mul]
      rcases h1 with rfl | h1
      · show _ + _ * 0 = _
        rw [Int64.mul_zero]
      · exact absurd h1 c
  · show ct = lN ((jCt a F1 x + if F1 a = x then 1 else 0) * jCt n2 F2 x + 0)
    rw [h4]
    by_cases c : F1 a = x
    · rw [if_pos c, Nat.add_mul, Nat.one_mul]
      rcases he with he | he
      · rw [show b = n2 by omega]; rfl
      · exact absurd c he
    · rw [if_neg c]
      rcases h1 with rfl | h1
      · rfl
      · exact absurd h1 c
theorem jrw_fin (h : jRw n2 F1 W1 F2 W2 x n 0 sm ct ls gr) (ha : ∃ i, i < n ∧ F1 i = x) (hb : ∃ j, j < n2 ∧ F2 j = x) : jGf n n2 F1 W1 F2 W2 x x.toInt64 ct sm ls gr := by
  obtain ⟨h1, h2, h3, h4, ⟨h5, h6⟩, h7, h8⟩ := h
  obtain ⟨i, hi, ei⟩ := ha
  obtain ⟨j, hj, ej⟩ := hb
  have hij : jpp n2 F1 F2 x n 0 i j := ⟨Or.inl ⟨hi, hj⟩, ei, ej⟩
  have hpp : ∀ a' b', jpp n2 F1 F2 x n 0 a' b' → a' < n ∧ b' < n2 := fun a' b' q => by
    rcases q.1 with z | z
    · exact z
    · exact absurd z.2 (Nat.not_lt_zero _)
  refine ⟨rfl, h4, ?_, ⟨fun a ha ka b hb kb => h5 a b ⟨Or.inl ⟨ha, hb⟩, ka, kb⟩, ?_⟩, ⟨fun a ha ka b hb kb => h7 a b ⟨Or.inl ⟨ha, hb⟩, ka, kb⟩, ?_⟩⟩
  · rw [h3]
    show _ + _ * 0 = _
    rw [Int64.mul_zero, Int64.add_zero]
  · rcases h6 with h6 | ⟨a', b', q, e⟩
    · refine ⟨i, j, hi, ei, hj, ej, Int64.le_antisymm (h5 i j hij) ?_⟩
      rw [h6]; exact jl_max _
    · exact ⟨a', b', (hpp a' b' q).1, q.2.1, (hpp a' b' q).2, q.2.2, e⟩
  · rcases h8 with h8 | ⟨a', b', q, e⟩
    · refine ⟨i, j, hi, ei, hj, ej, Int64.le_antisymm ?_ (h7 i j hij)⟩
      rw [h8]; exact jl_min _
    · exact ⟨a', b', (hpp a' b' q).1, q.2.1, (hpp a' b' q).2, q.2.2, e⟩
end JRW
theorem jro_of {n b : Nat} {f o m3 m5 : Nat → Int32} (hb : b ≤ 400) (hn : n ≤ 400) (h5' : jo5 m5) (hk : ∀ k, k < n → f k = jsh b m3 k) (ho : ∀ i, i < n → o i = jS f n i) (h5 : ∀ i, i < n → jsh b m5 i = jS (jsh b m3) n i) : ∀ i, i < n → ∃ k, k < n ∧ jsh b m3 k = jmk b m3 m5 i := fun i hi => by
  obtain ⟨k, h1, h2⟩ := jr_row ho hi
  rw [jr_num hn hk ho h5 hi] at h2
  exact ⟨k, h1, by rw [jmk_sh h5' hb (by omega), h2, nI_clamp (by omega)]⟩
