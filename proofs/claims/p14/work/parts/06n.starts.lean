/-! pure words of the general proof, fourteenth piece: where groups begin -/
/-- a group begins at the sorted place i -/
def jGb (n2 : Nat) (K1 K2 : Nat → Int32) (i : Nat) : Bool := decide ((i = 0 ∨ ¬ K1 (i - 1) = K1 i) ∧ ¬ jCt n2 K2 (K1 i) = 0)
/-- how many begin before i -/
def jGn (n2 : Nat) (K1 K2 : Nat → Int32) : Nat → Nat := jSm (fun i => if jGb n2 K1 K2 i = true then 1 else 0)
section JGB
variable {n n2 : Nat} {K1 K2 gk go gp gl gf : Nat → Int32}
theorem jGn_1 {i z : Nat} (h : jGb n2 K1 K2 i = true) (hz : z = jGn n2 K1 K2 i) : z + 1 = jGn n2 K1 K2 (i + 1) := by
  show _ = jGn n2 K1 K2 i + (if _ then _ else _)
  rw [if_pos h, hz]
theorem jGn_0 {i z : Nat} (h : jGb n2 K1 K2 i = false) (hz : z = jGn n2 K1 K2 i) : z = jGn n2 K1 K2 (i + 1) := by
  show _ = jGn n2 K1 K2 i + (if _ then _ else _)
  rw [if_neg (by rw [h]; decide), hz]
  rfl
theorem jGn_le : ∀ i, jGn n2 K1 K2 i ≤ i
  | 0 => Nat.le_refl _
  | i + 1 => by
    have := jGn_le i
    show jGn n2 K1 K2 i + (if _ then _ else _) ≤ _
    split <;> omega
theorem jGn_mono {i : Nat} : ∀ d, jGn n2 K1 K2 i ≤ jGn n2 K1 K2 (i + d)
  | 0 => Nat.le_refl _
  | d + 1 => Nat.le_trans (jGn_mono d) (Nat.le_add_right _ _)
theorem jgs_mono {i : Nat} : ∀ d, jgs n gk go gp i ≤ jgs n gk go gp (i + d)
  | 0 => Nat.le_refl _
  | d + 1 => Nat.le_trans (jgs_mono d) (Nat.le_add_right _ _)
theorem jst_eq {i : Nat} (hn : n ≤ 400) (hn2 : n2 ≤ 400) (hk : ∀ i, i < n → jat n gk go (nI i) = K1 i) (h1 : ∀ k, k ≤ n → gp k = nI (jPS n2 K1 K2 k)) (hi : i < n) : jst n gk go gp (nI i) = jGb n2 K1 K2 i := by
  have e1 : jsum n gp (nI i + 1) = nI (jPS n2 K1 K2 i + jCt n2 K2 (K1 i)) := by rw [nI_1, jsum_at (by omega) hn, h1 (i + 1) (by omega)]; rfl
  have e2 : jsum n gp (nI i) = nI (jPS n2 K1 K2 i) := by rw [jsum_at (by omega) hn, h1 i (by omega)]
  have b1 := jPS_le (K1 := K1) (K2 := K2) hn2 i
  have b2 := jCt_le (n := n2) (K := K2) (x := K1 i)
  have e3 : (¬ jsum n gp (nI i + 1) ≤ jsum n gp (nI i)) ↔ ¬ jCt n2 K2 (K1 i) = 0 := by
    rw [e1, e2, nI_leI (by omega) (by omega)]
    omega
  have e4 : (nI i = 0 ∨ jat n gk go (nI i - 1) ≠ jat n gk go (nI i)) ↔ (i = 0 ∨ ¬ K1 (i - 1) = K1 i) := by
    rcases i with _ | i
    · exact ⟨fun _ => Or.inl rfl, fun _ => Or.inl nI_0⟩
    · rw [nI_pred, hk i (by omega), hk (i + 1) hi]
      refine ⟨fun q => q.elim (fun z => absurd z (nI_ne0 (by omega) (by omega))) (fun z => Or.inr z), fun q => q.elim (fun z => absurd z (by omega)) (fun z => Or.inr z)⟩
  unfold jst jGb
  exact decide_eq_decide.mpr (and_congr e4 e3)
theorem jgs_eq (hn : n ≤ 400) (hn2 : n2 ≤ 400) (hk : ∀ i, i < n → jat n gk go (nI i) = K1 i) (h1 : ∀ k, k ≤ n → gp k = nI (jPS n2 K1 K2 k)) : ∀ i, i ≤ n → jgs n gk go gp i = jGn n2 K1 K2 i
  | 0, _ => rfl
  | i + 1, hi => by
    show jgs n gk go gp i + (if jst n gk go gp (nI i) = true then 1 else 0) = jGn n2 K1 K2 i + (if jGb n2 K1 K2 i = true then 1 else 0)
    rw [jgs_eq hn hn2 hk h1 i (by omega), jst_eq hn hn2 hk h1 (by omega)]
theorem jgb_t {i : Nat} (h1 : i = 0 ∨ ¬ K1 (i - 1) = K1 i) (h2 : ¬ jCt n2 K2 (K1 i) = 0) : jGb n2 K1 K2 i = true := decide_eq_true ⟨h1, h2⟩
theorem jgb_f1 {i : Nat} (h : K1 i = K1 (i + 1)) : jGb n2 K1 K2 (i + 1) = false := decide_eq_false fun g => g.1.elim (fun q => absurd q (by omega)) (fun q => q h)
theorem jgb_f2 {i : Nat} (h : jCt n2 K2 (K1 i) = 0) : jGb n2 K1 K2 i = false := decide_eq_false fun g => g.2 h
theorem jgb_c0 {F2 : Nat → Int32} {x : Int32} (h : n2 ≤ 400) (hc : ∀ x, jCt n2 F2 x = jCt n2 K2 x) (c : nI (jCt n2 F2 x) ≤ 0) : jCt n2 K2 x = 0 := by
  have h1 := jCt_le (n := n2) (K := F2) (x := x)
  rw [← nI_0, nI_leI (by omega) (by omega)] at c
  rw [← hc]
  exact Nat.le_zero.mp c
theorem jgb_c1 {F2 : Nat → Int32} {x : Int32} (hc : ∀ x, jCt n2 F2 x = jCt n2 K2 x) (c : ¬ nI (jCt n2 F2 x) ≤ 0) : ¬ jCt n2 K2 x = 0 := fun q => by
  rw [hc, q] at c
  exact c (by decide)
/-- the place of the group m -/
theorem jGn_place {m : Nat} : ∀ i, m < jGn n2 K1 K2 i → ∃ k, k < i ∧ jGb n2 K1 K2 k = true ∧ jGn n2 K1 K2 k = m
  | 0, h => absurd h (Nat.not_lt_zero _)
  | i + 1, h => by
    have e : jGn n2 K1 K2 (i + 1) = jGn n2 K1 K2 i + (if jGb n2 K1 K2 i = true then 1 else 0) := rfl
    by_cases c : m < jGn n2 K1 K2 i
    · obtain ⟨k, h1, h2⟩ := jGn_place i c
      exact ⟨k, by omega, h2⟩
    · by_cases b : jGb n2 K1 K2 i = true
      · rw [e, if_pos b] at h
        exact ⟨i, by omega, b, by omega⟩
      · rw [e, if_neg b] at h
        omega
theorem jGn_lt {i k : Nat} (h : i < k) (hb : jGb n2 K1 K2 i = true) : jGn n2 K1 K2 i < jGn n2 K1 K2 k := by
  have h1 : jGn n2 K1 K2 i + 1 = jGn n2 K1 K2 (i + 1) := jGn_1 hb rfl
  have h2 := jGn_mono (n2 := n2) (K1 := K1) (K2 := K2) (i := i + 1) (k - (i + 1))
  rw [show i + 1 + (k - (i + 1)) = k by omega] at h2
  omega
end JGB
theorem jgg_1 {n n2 g : Nat} {K1 K2 : Nat → Int32} (hn : n ≤ 400) (hg : g ≤ 400) (c : ¬ nI g < nI (jGn n2 K1 K2 n)) : jGn n2 K1 K2 n ≤ g := by
  have := jGn_le (n2 := n2) (K1 := K1) (K2 := K2) n
  rw [nI_ltI (by omega) (by omega)] at c
  omega
theorem jgg_0 {n n2 g : Nat} {K1 K2 : Nat → Int32} (hn : n ≤ 400) (hg : g ≤ 400) (c : nI g < nI (jGn n2 K1 K2 n)) : ¬ jGn n2 K1 K2 n ≤ g := by
  have := jGn_le (n2 := n2) (K1 := K1) (K2 := K2) n
  rw [nI_ltI (by omega) (by omega)] at c
  omega
theorem jgs_fin {n i g z : Nat} {gk go gp : Nat → Int32} (hz : z = jgs n gk go gp i) (hi : i ≤ n) (hq : jgs n gk go gp n ≤ g) (h : n ≤ i ∨ g ≤ z) : z = jgs n gk go gp n := by
  rcases h with h | h
  · rw [hz, show i = n by omega]
  · have h2 := jgs_mono (n := n) (gk := gk) (go := go) (gp := gp) (i := i) (n - i)
    rw [show i + (n - i) = n by omega] at h2
    omega
