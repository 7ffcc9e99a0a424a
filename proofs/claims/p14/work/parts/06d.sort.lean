/-! pure words of the general proof, fourth piece: the order that insertion makes -/
/-- the order of the first n rows, put in one after another -/
def jS (fk : Nat → Int32) (n : Nat) : Nat → Int32 := jsrt fk (fun _ => 0) 0 n
theorem jS_succ {fk : Nat → Int32} {n : Nat} : jS fk (n + 1) = jins fk n (jS fk n) n := by
  show jins fk (0 + n) _ (0 + n) = _
  rw [Nat.zero_add]
  rfl
theorem jins_out {fk : Nat → Int32} {num : Nat} : ∀ (q : Nat) (fo : Nat → Int32) (i : Nat), q < i → jins fk num fo q i = fo i
  | 0, fo, i, h => by
    show upd fo 0 _ i = _
    exact if_neg (by omega)
  | q + 1, fo, i, h => by
    show (if _ then _ else _ : Nat → Int32) i = _
    split
    · exact if_neg (by omega)
    · rw [jins_out q _ i (by omega)]
      exact if_neg (by omega)
theorem jins_agree {fk : Nat → Int32} {num : Nat} : ∀ (q : Nat) (fo fo' : Nat → Int32), (∀ i, i < q → fo i = fo' i) → ∀ i, i ≤ q → jins fk num fo q i = jins fk num fo' q i
  | 0, fo, fo', h, i, hi => by
    obtain rfl : i = 0 := by omega
    show upd fo 0 _ 0 = upd fo' 0 _ 0
    rw [pk_us, pk_us]
  | q + 1, fo, fo', h, i, hi => by
    show (if _ then _ else _ : Nat → Int32) i = (if _ then _ else _ : Nat → Int32) i
    rw [h q (by omega)]
    split
    · by_cases e : i = q + 1
      · subst e; rw [pk_us, pk_us]
      · rw [pk_un e, pk_un e]; exact h i (by omega)
    · by_cases e : i = q + 1
      · subst e
        rw [jins_out q _ _ (by omega), jins_out q _ _ (by omega), pk_us, pk_us]
      · exact jins_agree q _ _ (fun k hk => by rw [pk_un (by omega), pk_un (by omega)]; exact h k (by omega)) i (by omega)
/-- numbers of rows below m, at the places below q -/
def jrow (m : Nat) (fo : Nat → Int32) (q : Nat) : Prop := ∀ i, i < q → ∃ k, k < m ∧ fo i = nI k
theorem jrow_ins {fk : Nat → Int32} {num m : Nat} (hn : num < m) : ∀ (q : Nat) (fo : Nat → Int32), jrow m fo q → jrow m (jins fk num fo q) (q + 1)
  | 0, fo, h, i, hi => by
    obtain rfl : i = 0 := by omega
    refine ⟨num, hn, ?_⟩
    show upd fo 0 _ 0 = _
    rw [pk_us]
  | q + 1, fo, h, i, hi => by
    have e0 : jins fk num fo (q + 1) = if fk (fo q).toNatClampNeg ≤ fk num then upd fo (q + 1) (nI num) else jins fk num (upd fo (q + 1) (fo q)) q := rfl
    rw [e0]
    split
    · by_cases e : i = q + 1
      · subst e; exact ⟨num, hn, pk_us⟩
      · rw [pk_un e]; exact h i (by omega)
    · by_cases e : i = q + 1
      · subst e
        rw [jins_out q _ _ (by omega), pk_us]
        exact h q (by omega)
      · exact jrow_ins hn q _ (fun k hk => by rw [pk_un (by omega)]; exact h k (by omega)) i (by omega)
theorem jrow_S {fk : Nat → Int32} : ∀ n, jrow n (jS fk n) n
  | 0, i, hi => absurd hi (by omega)
  | n + 1, i, hi => by
    rw [jS_succ]
    exact jrow_ins (Nat.lt_succ_self n) n _ (fun k hk => by obtain ⟨z, h1, h2⟩ := jrow_S n k hk; exact ⟨z, by omega, h2⟩) i hi
theorem jins_keys {fk fk' : Nat → Int32} {num m : Nat} (hm : m < 2 ^ 31) (hn : num < m) (hk : ∀ k, k < m → fk k = fk' k) : ∀ (q : Nat) (fo : Nat → Int32), jrow m fo q → jins fk num fo q = jins fk' num fo q
  | 0, fo, _ => rfl
  | q + 1, fo, h => by
    show (if _ then _ else _ : Nat → Int32) = (if _ then _ else _ : Nat → Int32)
    obtain ⟨z, h1, h2⟩ := h q (by omega)
    rw [h2, nI_clamp (by omega), hk z h1, hk num hn]
    split
    · rfl
    · exact jins_keys hm hn hk q _ (fun i hi => by rw [pk_un (by omega)]; exact h i (by omega))
theorem jS_keys {fk fk' : Nat → Int32} : ∀ n, n < 2 ^ 31 → (∀ k, k < n → fk k = fk' k) → jS fk n = jS fk' n
  | 0, _, _ => rfl
  | n + 1, hn, hk => by
    rw [jS_succ, jS_succ, ← jS_keys n (by omega) (fun k h => hk k (by omega))]
    exact jins_keys hn (Nat.lt_succ_self n) hk n _ (fun i hi => by obtain ⟨z, h1, h2⟩ := jrow_S (fk := fk) n i hi; exact ⟨z, by omega, h2⟩)
/-- putting in the rest: the same as from the start -/
theorem jsrt_S {fk fo : Nat → Int32} {pl : Nat} (h : ∀ i, i < pl → fo i = jS fk pl i) : ∀ d i, i < pl + d → jsrt fk fo pl d i = jS fk (pl + d) i
  | 0, i, hi => h i hi
  | d + 1, i, hi => by
    show jins fk (pl + d) (jsrt fk fo pl d) (pl + d) i = jS fk (pl + d + 1) i
    rw [jS_succ]
    exact jins_agree (pl + d) _ _ (jsrt_S h d) i (by omega)
