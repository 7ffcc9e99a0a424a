/-! pure words of the general proof, sixth piece: the reference's own sorting, a side at a time -/
section JP5
variable {b i q : Nat} {m3 o o2 o9 : Nat → Int32}
theorem jp_exit (hs : ∀ x, x < i → jsh b o x = jS (jsh b m3) i x) (hf : jins (jsh b m3) i (jsh b o2) q = jins (jsh b m3) i (jsh b o) i) (he : jsh b o9 = jins (jsh b m3) i (jsh b o2) q) : ∀ x, x < i + 1 → jsh b o9 x = jS (jsh b m3) (i + 1) x := fun x hx => by
  rw [he, hf, jS_succ]
  exact jins_agree i _ _ hs x (by omega)
theorem jp_0 (hb : b ≤ 400) : jsh b (upd o2 (nI b).toNatClampNeg (nI i)) = jins (jsh b m3) i (jsh b o2) 0 := by
  rw [nI_clamp (by omega)]
  exact (jsh_upd (k := 0)).trans jins_0
theorem jp_le (h5 : jo5 o2) (hb : b ≤ 400) (hq : b + q + 1 < 800) (hi : b + i < 800) (c : jmk b m3 o2 q ≤ m3 (nI (b + i)).toNatClampNeg) : jsh b (upd o2 (nI (b + q + 1)).toNatClampNeg (nI i)) = jins (jsh b m3) i (jsh b o2) (q + 1) := by
  rw [jmk_sh h5 hb (by omega), nI_clamp (by omega)] at c
  rw [nI_clamp (by omega), show b + q + 1 = b + (q + 1) from rfl, jsh_upd]
  exact jins_le c
theorem jp_gt (h5 : jo5 o2) (hb : b ≤ 400) (hq : b + q + 1 < 800) (hi : b + i < 800) (c : ¬ jmk b m3 o2 q ≤ m3 (nI (b + i)).toNatClampNeg) : jins (jsh b m3) i (jsh b (upd o2 (nI (b + q + 1)).toNatClampNeg (o2 (nI (b + q)).toNatClampNeg))) q = jins (jsh b m3) i (jsh b o2) (q + 1) := by
  rw [jmk_sh h5 hb (by omega), nI_clamp (by omega)] at c
  rw [nI_clamp (by omega), nI_clamp (by omega), show b + q + 1 = b + (q + 1) from rfl, jsh_upd]
  exact jins_gt c
/-- what lies on the left side stays -/
theorem jp_keep {n z : Nat} {f : Nat → Int32} {v : Int32} (hn : n ≤ 400) (hz : z < 2 ^ 31 - 400) (h : ∀ x, x < n → jsh 0 o x = f x) : ∀ x, x < n → jsh 0 (upd o (nI (400 + z)).toNatClampNeg v) x = f x := fun x hx => by
  rw [nI_clamp (by omega), ← h x hx]
  exact pk_un (by omega)
theorem jp_fin {n : Nat} (hs : ∀ x, x < i → jsh b o x = jS (jsh b m3) i x) (h1 : i ≤ n) (h2 : nI n ≤ nI i) (hn : n ≤ 400) : ∀ x, x < n → jsh b o x = jS (jsh b m3) n x := by
  rw [nI_leI (by omega) (by omega)] at h2
  obtain rfl : i = n := by omega
  exact hs
end JP5
/-! rows of the class against the rows of the reference -/
theorem jr_add {n : Nat} {f m : Nat → Int32} {b : Nat} {x : Int32} (h : ∀ k, k < n → f k = jsh b m k) : ∀ k, k < n + 1 → upd f n x k = jsh b (upd m (b + n) x) k := fun k hk => by
  rw [jsh_upd]
  by_cases e : k = n
  · subst e; rw [pk_us, pk_us]
  · rw [pk_un e, pk_un e]; exact h k (by omega)
theorem jr_left {n z : Nat} {f m : Nat → Int32} {x : Int32} (hz : z < 400) (h : ∀ k, k < n → f k = jsh 400 m k) : ∀ k, k < n → f k = jsh 400 (upd m (0 + z) x) k := fun k hk => by
  rw [h k hk]
  exact (pk_un (show ¬ 400 + k = 0 + z by omega)).symm
theorem jr_right {n z : Nat} {f m : Nat → Int32} {x : Int32} (hn : n ≤ 400) (h : ∀ k, k < n → f k = jsh 0 m k) : ∀ k, k < n → f k = jsh 0 (upd m (400 + z) x) k := fun k hk => by
  rw [h k hk]
  exact (pk_un (show ¬ 0 + k = 400 + z by omega)).symm
theorem jr_ord {n pl : Nat} {f o : Nat → Int32} {x : Int32} (hpl : pl ≤ n) (hn : n ≤ 400) (h : ∀ i, i < pl → o i = jS f pl i) : ∀ i, i < pl → o i = jS (upd f n x) pl i := fun i hi => by
  rw [h i hi, jS_keys (fk := f) (fk' := upd f n x) pl (by omega) (fun k hk => (pk_un (by omega)).symm)]
theorem jr_srt {n pl : Nat} {f o : Nat → Int32} (hpl : pl ≤ n) (h : ∀ i, i < pl → o i = jS f pl i) : ∀ i, i < n → jsrt f o pl (n - pl) i = jS f n i := fun i hi => by
  have e := jsrt_S h (n - pl) i (by omega)
  rw [show pl + (n - pl) = n by omega] at e
  exact e
/-- a sorted row's number, key or value is the same in both -/
theorem jr_num {n b : Nat} {f o m3 m5 : Nat → Int32} (hn : n ≤ 400) (hk : ∀ k, k < n → f k = jsh b m3 k) (ho : ∀ i, i < n → o i = jS f n i) (h5 : ∀ i, i < n → jsh b m5 i = jS (jsh b m3) n i) {i : Nat} (hi : i < n) : o i = jsh b m5 i := by
  rw [ho i hi, h5 i hi, jS_keys n (by omega) hk]
theorem jr_row {n : Nat} {f o : Nat → Int32} (ho : ∀ i, i < n → o i = jS f n i) {i : Nat} (hi : i < n) : ∃ k, k < n ∧ o i = nI k := by
  obtain ⟨k, h1, h2⟩ := jrow_S (fk := f) n i hi
  exact ⟨k, h1, (ho i hi).trans h2⟩
theorem jr_at {n b : Nat} {f f' o m3 m4 m5 : Nat → Int32} (hb : b ≤ 400) (hn : n ≤ 400) (h5' : jo5 m5) (hk : ∀ k, k < n → f k = jsh b m3 k) (hv : ∀ k, k < n → f' k = jsh b m4 k) (ho : ∀ i, i < n → o i = jS f n i) (h5 : ∀ i, i < n → jsh b m5 i = jS (jsh b m3) n i) {i : Nat} (hi : i < n) : jat n f' o (nI i) = jmk b m4 m5 i := by
  rw [← jat_i (nI_pos (by omega)) (nI_ge hi (by omega)), nI_clamp (by omega), jmk_sh h5' hb (by omega), ← jr_num hn hk ho h5 hi]
  obtain ⟨k, h1, h2⟩ := jr_row ho hi
  rw [h2, nI_clamp (by omega)]
  exact hv k h1
theorem jr_no {n b : Nat} {f o m3 m5 : Nat → Int32} (hb : b ≤ 400) (hn : n ≤ 400) (hk : ∀ k, k < n → f k = jsh b m3 k) (ho : ∀ i, i < n → o i = jS f n i) (h5 : ∀ i, i < n → jsh b m5 i = jS (jsh b m3) n i) {i : Nat} (hi : i < n) : jnum n o (nI i) = m5 (nI (b + i)).toNatClampNeg := by
  rw [← jnum_i (nI_pos (by omega)) (nI_ge hi (by omega)), nI_clamp (by omega), nI_clamp (by omega)]
  exact jr_num hn hk ho h5 hi
