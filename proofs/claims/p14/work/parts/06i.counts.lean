/-! pure words of the general proof, ninth piece: the reference's counts -/
theorem jct_1 {b i z : Nat} {m : Nat → Int32} {x : Int32} (hb : b + i < 2 ^ 31) (hz : z = jCt i (jsh b m) x) (e : m (nI (b + i)).toNatClampNeg = x) : z + 1 = jCt (i + 1) (jsh b m) x := by
  rw [nI_clamp hb] at e
  show z + 1 = jCt i (jsh b m) x + if jsh b m i = x then 1 else 0
  rw [if_pos (show jsh b m i = x from e), hz]
theorem jct_0 {b i z : Nat} {m : Nat → Int32} {x : Int32} (hb : b + i < 2 ^ 31) (hz : z = jCt i (jsh b m) x) (e : ¬ m (nI (b + i)).toNatClampNeg = x) : z + 0 = jCt (i + 1) (jsh b m) x := by
  rw [nI_clamp hb] at e
  show z + 0 = jCt i (jsh b m) x + if jsh b m i = x then 1 else 0
  rw [if_neg (show ¬ jsh b m i = x from e), hz]
section JR
variable {n2 b i z : Nat} {m F2 : Nat → Int32}
theorem jrw_z (h : n2 ≤ 400) (c : nI (jCt n2 F2 (m (nI (b + i)).toNatClampNeg)) ≤ 0) (hb : b + i < 2 ^ 31) : jCt n2 F2 (jsh b m i) = 0 := by
  have h1 := jCt_le (n := n2) (K := F2) (x := m (nI (b + i)).toNatClampNeg)
  rw [← nI_0, nI_leI (by omega) (by omega), nI_clamp hb] at c
  exact Nat.le_zero.mp c
theorem jrw_p (h : n2 ≤ 400) (c : ¬ nI (jCt n2 F2 (m (nI (b + i)).toNatClampNeg)) ≤ 0) (hb : b + i < 2 ^ 31) : ¬ jCt n2 F2 (jsh b m i) = 0 := fun q => by
  rw [nI_clamp hb] at c
  exact c (by rw [show jCt n2 F2 (m (b + i)) = 0 from q]; decide)
/-- rows without a partner, with one -/
theorem jrl_1 (hz : z = jLS n2 (jsh b m) F2 i) (c : jCt n2 F2 (jsh b m i) = 0) : z + 1 = jLS n2 (jsh b m) F2 (i + 1) := by
  show z + 1 = jLS n2 (jsh b m) F2 i + if jCt n2 F2 (jsh b m i) = 0 then 1 else 0
  rw [if_pos c, hz]
theorem jrl_0 (hz : z = jLS n2 (jsh b m) F2 i) (c : ¬ jCt n2 F2 (jsh b m i) = 0) : z + 0 = jLS n2 (jsh b m) F2 (i + 1) := by
  show z + 0 = jLS n2 (jsh b m) F2 i + if jCt n2 F2 (jsh b m i) = 0 then 1 else 0
  rw [if_neg c, hz]
theorem jrp_1 (hz : z + jLS n2 (jsh b m) F2 i = i) (c : ¬ jCt n2 F2 (jsh b m i) = 0) : z + 1 + jLS n2 (jsh b m) F2 (i + 1) = i + 1 := by
  show z + 1 + (jLS n2 (jsh b m) F2 i + if jCt n2 F2 (jsh b m i) = 0 then 1 else 0) = i + 1
  rw [if_neg c]
  omega
theorem jrp_0 (hz : z + jLS n2 (jsh b m) F2 i = i) (c : jCt n2 F2 (jsh b m i) = 0) : z + 0 + jLS n2 (jsh b m) F2 (i + 1) = i + 1 := by
  show z + 0 + (jLS n2 (jsh b m) F2 i + if jCt n2 F2 (jsh b m i) = 0 then 1 else 0) = i + 1
  rw [if_pos c]
  omega
theorem jrp_fin {n : Nat} (hz : z + jLS n2 (jsh b m) F2 i = i) (h1 : i ≤ n) (h2 : nI n ≤ nI i) (hn : n ≤ 400) : nI z = nI (n - jLS n2 (jsh b m) F2 n) := by
  rw [nI_leI (by omega) (by omega)] at h2
  obtain rfl : i = n := by omega
  exact congrArg nI (by omega)
end JR
/-- a kind tells of rows without a partner -/
def jk4 (kd : Int32) : Prop := kd = 0 ∨ kd = 1 ∨ kd = 2 ∨ kd = 3
theorem jk4_of {x : Int32} (h1 : ¬ x < 0) (h2 : ¬ 4 ≤ x) : jk4 x := by
  obtain ⟨k, hk, rfl⟩ := j_lt (n := 4) (z := 4) (by decide) h1 h2
  rcases (show k = 0 ∨ k = 1 ∨ k = 2 ∨ k = 3 by omega) with rfl | rfl | rfl | rfl
  · exact Or.inl (by decide)
  · exact Or.inr (Or.inl (by decide))
  · exact Or.inr (Or.inr (Or.inl (by decide)))
  · exact Or.inr (Or.inr (Or.inr (by decide)))
theorem jtl_1 {kd : Int32} (h : jk4 kd) : kd >>> (0 &&& 31) &&& 1 = 1 ↔ ¬ kd &&& 1 = 0 := by
  rcases h with rfl | rfl | rfl | rfl <;> decide
theorem jtl_2 {kd : Int32} (h : jk4 kd) : kd >>> (1 &&& 31) &&& 1 = 1 ↔ ¬ kd &&& 2 = 0 := by
  rcases h with rfl | rfl | rfl | rfl <;> decide
/-- the pairs of a row of the left, of the right table -/
def jG1 (kd : Int32) (c : Nat) : Nat := if c = 0 then (if kd &&& 1 = 0 then 0 else 1) else c
def jG2 (kd : Int32) (c : Nat) : Nat := if c = 0 then (if kd &&& 2 = 0 then 0 else 1) else 0
/-- whether a key lies on the wished side of a bound -/
def jQ (below : Bool) (bd : Int64) (x : Int32) : Bool := decide (x.toInt64 < bd) == below
def jPa (G : Nat → Nat) (n2 : Nat) (F2 : Nat → Int32) (Q : Int32 → Bool) (F1 : Nat → Int32) : Nat → Nat := jSm (fun i => if Q (F1 i) = true then G (jCt n2 F2 (F1 i)) else 0)
section JPA
variable {G : Nat → Nat} {n2 i b B : Nat} {F2 m : Nat → Int32} {Q : Int32 → Bool} {v w : Int64}
theorem jpa_hit (hb : b + i < 2 ^ 31) (hv : v = lN (B + jPa G n2 F2 Q (jsh b m) i)) (hQ : Q (m (nI (b + i)).toNatClampNeg) = true) (hw : w = lN (G (jCt n2 F2 (m (nI (b + i)).toNatClampNeg)))) : v + w = lN (B + jPa G n2 F2 Q (jsh b m) (i + 1)) := by
  rw [nI_clamp hb] at hQ hw
  show v + w = lN (B + (jPa G n2 F2 Q (jsh b m) i + if Q (jsh b m i) = true then G (jCt n2 F2 (jsh b m i)) else 0))
  rw [if_pos (show Q (jsh b m i) = true from hQ), hv, hw, lN_add, Nat.add_assoc]
  rfl
theorem jpa_miss (hb : b + i < 2 ^ 31) (hv : v = lN (B + jPa G n2 F2 Q (jsh b m) i)) (hQ : ¬ Q (m (nI (b + i)).toNatClampNeg) = true) : v = lN (B + jPa G n2 F2 Q (jsh b m) (i + 1)) := by
  rw [nI_clamp hb] at hQ
  show v = lN (B + (jPa G n2 F2 Q (jsh b m) i + if Q (jsh b m i) = true then G (jCt n2 F2 (jsh b m i)) else 0))
  rw [if_neg (show ¬ Q (jsh b m i) = true from hQ), hv]
  rfl
theorem jQ_1 {bd : Int64} {x z : Int32} (e : z = lg_cmp x.toInt64 bd) (c : ¬ 0 ≤ z) : jQ true bd x = true := by
  rw [e, lg_cmp_ge] at c
  have h : x.toInt64 < bd := by rw [Int64.le_iff_toInt_le] at c; rw [Int64.lt_iff_toInt_lt]; omega
  unfold jQ
  rw [decide_eq_true h]
  rfl
theorem jQ_1n {bd : Int64} {x z : Int32} (e : z = lg_cmp x.toInt64 bd) (c : 0 ≤ z) : ¬ jQ true bd x = true := by
  rw [e, lg_cmp_ge] at c
  have h : ¬ x.toInt64 < bd := by rw [Int64.le_iff_toInt_le] at c; rw [Int64.lt_iff_toInt_lt]; omega
  unfold jQ
  rw [decide_eq_false h]
  decide
theorem jQ_0 {bd : Int64} {x z : Int32} (e : z = lg_cmp x.toInt64 bd) (c : 0 ≤ z) : jQ false bd x = true := by
  rw [e, lg_cmp_ge] at c
  have h : ¬ x.toInt64 < bd := by rw [Int64.le_iff_toInt_le] at c; rw [Int64.lt_iff_toInt_lt]; omega
  unfold jQ
  rw [decide_eq_false h]
  rfl
theorem jQ_0n {bd : Int64} {x z : Int32} (e : z = lg_cmp x.toInt64 bd) (c : ¬ 0 ≤ z) : ¬ jQ false bd x = true := by
  rw [e, lg_cmp_ge] at c
  have h : x.toInt64 < bd := by rw [Int64.le_iff_toInt_le] at c; rw [Int64.lt_iff_toInt_lt]; omega
  unfold jQ
  rw [decide_eq_true h]
  decide
theorem jG1_n {kd : Int32} {c : Nat} (hc : c ≤ 400) (h : ¬ nI c = 0) : (nI c).toInt64 = lN (jG1 kd c) := by
  have h2 : ¬ c = 0 := fun q => h (by rw [q]; exact nI_0)
  unfold jG1
  rw [if_neg h2, nI_l (by omega)]
theorem jG_0 {c : Nat} (hc : c ≤ 400) (h : nI c = 0) : c = 0 := by
  rw [← nI_0, nI_eq (by omega) (by omega)] at h
  exact h
theorem jG1_1 {kd : Int32} {c : Nat} (hc : c ≤ 400) (h : nI c = 0) (h2 : ¬ kd &&& 1 = 0) : (1 : Int64) = lN (jG1 kd c) := by
  unfold jG1
  rw [if_pos (jG_0 hc h), if_neg h2]
  rfl
theorem jG1_0 {kd : Int32} {c : Nat} (hc : c ≤ 400) (h : nI c = 0) (h2 : kd &&& 1 = 0) : (0 : Int64) = lN (jG1 kd c) := by
  unfold jG1
  rw [if_pos (jG_0 hc h), if_pos h2]
  rfl
theorem jG2_n {kd : Int32} {c : Nat} (h : ¬ nI c = 0) : (0 : Int64) = lN (jG2 kd c) := by
  have h2 : ¬ c = 0 := fun q => h (by rw [q]; exact nI_0)
  unfold jG2
  rw [if_neg h2]
  rfl
theorem jG2_1 {kd : Int32} {c : Nat} (hc : c ≤ 400) (h : nI c = 0) (h2 : ¬ kd &&& 2 = 0) : (1 : Int64) = lN (jG2 kd c) := by
  unfold jG2
  rw [if_pos (jG_0 hc h), if_neg h2]
  rfl
theorem jG2_0 {kd : Int32} {c : Nat} (hc : c ≤ 400) (h : nI c = 0) (h2 : kd &&& 2 = 0) : (0 : Int64) = lN (jG2 kd c) := by
  unfold jG2
  rw [if_pos (jG_0 hc h), if_pos h2]
  rfl
end JPA
