/-! pure words of the general proof, eleventh piece: the cursor's way -/
/-- x is the first place behind e with another key -/
def jFo (n : Nat) (K : Nat → Int32) (e x : Nat) : Prop := e < x ∧ x ≤ n ∧ (∀ j, e < j → j < x → K j = K e) ∧ (x < n → ¬ K x = K e)
theorem jFo_det {n : Nat} {K : Nat → Int32} {e x y : Nat} (h : jFo n K e x) (g : jFo n K e y) : x = y := by
  rcases Nat.lt_trichotomy x y with q | q | q
  · exact absurd (g.2.2.1 x h.1 q) (h.2.2.2 (by have := g.2.1; omega))
  · exact q
  · exact absurd (h.2.2.1 y g.1 q) (g.2.2.2 (by have := h.2.1; omega))
theorem jFo_congr {n : Nat} {K K' : Nat → Int32} {e x : Nat} (he : e < n) (hk : ∀ i, i < n → K i = K' i) (h : jFo n K e x) : jFo n K' e x := ⟨h.1, h.2.1, fun j h1 h2 => by rw [← hk j (by have := h.2.1; omega), ← hk e he]; exact h.2.2.1 j h1 h2, fun q => by rw [← hk x q, ← hk e he]; exact h.2.2.2 q⟩
/-- one step: to the rows of the next key; w: 0 both tables, 1 the left alone, 2 the right alone -/
def jSt (n n2 : Nat) (K1 K2 : Nat → Int32) (e0 e1 w x0 x1 : Nat) : Prop :=
  (w = 0 ∧ e0 < n ∧ e1 < n2 ∧ ¬ K2 e1 < K1 e0 ∧ ¬ K1 e0 < K2 e1 ∧ jFo n K1 e0 x0 ∧ jFo n2 K2 e1 x1) ∨ (w = 1 ∧ e0 < n ∧ (e1 < n2 → K1 e0 < K2 e1) ∧ jFo n K1 e0 x0 ∧ x1 = e1) ∨ (w = 2 ∧ e1 < n2 ∧ (e0 < n → K2 e1 < K1 e0) ∧ x0 = e0 ∧ jFo n2 K2 e1 x1)
theorem jSt_det {n n2 : Nat} {K1 K2 : Nat → Int32} {e0 e1 w x0 x1 w' x0' x1' : Nat} (h : jSt n n2 K1 K2 e0 e1 w x0 x1) (g : jSt n n2 K1 K2 e0 e1 w' x0' x1') : w = w' ∧ x0 = x0' ∧ x1 = x1' := by
  rcases h with ⟨rfl, h0, h1, h2, h3, h4, h5⟩ | ⟨rfl, h0, h1, h2, rfl⟩ | ⟨rfl, h0, h1, rfl, h2⟩ <;> rcases g with ⟨rfl, g0, g1, g2, g3, g4, g5⟩ | ⟨rfl, g0, g1, g2, rfl⟩ | ⟨rfl, g0, g1, rfl, g2⟩
  · exact ⟨rfl, jFo_det h4 g4, jFo_det h5 g5⟩
  · exact absurd (g1 h1) h3
  · exact absurd (g1 h0) h2
  · exact absurd (h1 g1) g3
  · exact ⟨rfl, jFo_det h2 g2, rfl⟩
  · exact absurd (h1 g0) (j_asym (g1 h0))
  · exact absurd (h1 g0) g2
  · exact absurd (h1 g0) (j_asym (g1 h0))
  · exact ⟨rfl, rfl, jFo_det h2 g2⟩
theorem jSt_w {n n2 : Nat} {K1 K2 : Nat → Int32} {e0 e1 w x0 x1 : Nat} (h : jSt n n2 K1 K2 e0 e1 w x0 x1) : (w = 0 ∧ e0 < x0 ∧ e1 < x1) ∨ (w = 1 ∧ e0 < x0 ∧ x1 = e1) ∨ (w = 2 ∧ x0 = e0 ∧ e1 < x1) := by
  rcases h with ⟨rfl, h0, h1, h2, h3, h4, h5⟩ | ⟨rfl, h0, h1, h2, h3⟩ | ⟨rfl, h0, h1, h2, h3⟩
  · exact Or.inl ⟨rfl, h4.1, h5.1⟩
  · exact Or.inr (Or.inl ⟨rfl, h2.1, h3⟩)
  · exact Or.inr (Or.inr ⟨rfl, h2, h3.1⟩)
theorem jSt_le {n n2 : Nat} {K1 K2 : Nat → Int32} {e0 e1 w x0 x1 : Nat} (h : jSt n n2 K1 K2 e0 e1 w x0 x1) (h0 : e0 ≤ n) (h1 : e1 ≤ n2) : x0 ≤ n ∧ x1 ≤ n2 ∧ n - x0 + (n2 - x1) < n - e0 + (n2 - e1) := by
  rcases h with ⟨rfl, a0, a1, a2, a3, a4, a5⟩ | ⟨rfl, a0, a1, a2, rfl⟩ | ⟨rfl, a0, a1, rfl, a2⟩
  · have := a4.1; have := a4.2.1; have := a5.1; have := a5.2.1; omega
  · have := a2.1; have := a2.2.1; omega
  · have := a2.1; have := a2.2.1; omega
/-- a kind tells the pairs of a step -/
def jtl (kd : Int32) (w : Nat) : Prop := w = 0 ∨ (w = 1 ∧ ¬ kd &&& 1 = 0) ∨ (w = 2 ∧ ¬ kd &&& 2 = 0)
/-- where the next pair is, in at most d steps: w, from and to of the left rows, of the right rows; w = 3: there is none -/
def jNd (n n2 : Nat) (K1 K2 : Nat → Int32) (kd : Int32) : Nat → Nat → Nat → (Nat × Nat × Nat × Nat × Nat) → Prop
  | 0, _, _, _ => False
  | d + 1, e0, e1, R => (¬ e0 < n ∧ ¬ e1 < n2 ∧ R = (3, e0, e0, e1, e1)) ∨ ∃ w x0 x1, jSt n n2 K1 K2 e0 e1 w x0 x1 ∧ ((jtl kd w ∧ R = (w, e0, x0, e1, x1)) ∨ (¬ jtl kd w ∧ jNd n n2 K1 K2 kd d x0 x1 R))
def jNx (n n2 : Nat) (K1 K2 : Nat → Int32) (kd : Int32) (e0 e1 : Nat) (R : Nat × Nat × Nat × Nat × Nat) : Prop := ∃ d, jNd n n2 K1 K2 kd d e0 e1 R
section JN
variable {n n2 : Nat} {K1 K2 : Nat → Int32} {kd : Int32}
theorem jSt_in {e0 e1 w x0 x1 : Nat} (h : jSt n n2 K1 K2 e0 e1 w x0 x1) : e0 < n ∨ e1 < n2 := by
  rcases h with ⟨_, h0, _⟩ | ⟨_, h0, _⟩ | ⟨_, h0, _⟩
  · exact Or.inl h0
  · exact Or.inl h0
  · exact Or.inr h0
theorem jNd_det : ∀ d d' e0 e1 R R', jNd n n2 K1 K2 kd d e0 e1 R → jNd n n2 K1 K2 kd d' e0 e1 R' → R = R'
  | 0, _, _, _, _, _, h, _ => h.elim
  | _ + 1, 0, _, _, _, _, _, h => h.elim
  | d + 1, d' + 1, e0, e1, R, R', h, g => by
    rcases h with ⟨a1, a2, a3⟩ | ⟨w, x0, x1, hs, hr⟩ <;> rcases g with ⟨b1, b2, b3⟩ | ⟨w', x0', x1', gs, gr⟩
    · rw [a3, b3]
    · exact absurd (jSt_in gs) (fun q => q.elim a1 a2)
    · exact absurd (jSt_in hs) (fun q => q.elim b1 b2)
    · obtain ⟨rfl, rfl, rfl⟩ := jSt_det hs gs
      rcases hr with ⟨a1, a2⟩ | ⟨a1, a2⟩ <;> rcases gr with ⟨b1, b2⟩ | ⟨b1, b2⟩
      · rw [a2, b2]
      · exact absurd a1 b1
      · exact absurd b1 a1
      · exact jNd_det d d' _ _ R R' a2 b2
theorem jNx_det {e0 e1 w f0 x0 f1 x1 w' f0' x0' f1' x1' : Nat} (h : jNx n n2 K1 K2 kd e0 e1 (w, f0, x0, f1, x1)) (g : jNx n n2 K1 K2 kd e0 e1 (w', f0', x0', f1', x1')) : w = w' ∧ f0 = f0' ∧ x0 = x0' ∧ f1 = f1' ∧ x1 = x1' := by
  obtain ⟨d, h⟩ := h
  obtain ⟨d', g⟩ := g
  have e := jNd_det d d' e0 e1 _ _ h g
  injection e with e1 e2
  injection e2 with e2 e3
  injection e3 with e3 e4
  injection e4 with e4 e5
  exact ⟨e1, e2, e3, e4, e5⟩
theorem jNx_end {e0 e1 : Nat} (h0 : ¬ e0 < n) (h1 : ¬ e1 < n2) : jNx n n2 K1 K2 kd e0 e1 (3, e0, e0, e1, e1) := ⟨1, Or.inl ⟨h0, h1, rfl⟩⟩
theorem jNx_hit {e0 e1 w x0 x1 : Nat} (h : jSt n n2 K1 K2 e0 e1 w x0 x1) (ht : jtl kd w) : jNx n n2 K1 K2 kd e0 e1 (w, e0, x0, e1, x1) := ⟨1, Or.inr ⟨w, x0, x1, h, Or.inl ⟨ht, rfl⟩⟩⟩
theorem jNx_skip {e0 e1 w x0 x1 : Nat} (h : jSt n n2 K1 K2 e0 e1 w x0 x1) (ht : ¬ jtl kd w) {R : Nat × Nat × Nat × Nat × Nat} (hr : jNx n n2 K1 K2 kd x0 x1 R) : jNx n n2 K1 K2 kd e0 e1 R := by
  obtain ⟨d, hr⟩ := hr
  exact ⟨d + 1, Or.inr ⟨w, x0, x1, h, Or.inr ⟨ht, hr⟩⟩⟩
/-- what is known of the next pair -/
theorem jNd_sp : ∀ d e0 e1 w f0 x0 f1 x1, jNd n n2 K1 K2 kd d e0 e1 (w, f0, x0, f1, x1) → e0 ≤ n → e1 ≤ n2 → f0 ≤ x0 ∧ x0 ≤ n ∧ f1 ≤ x1 ∧ x1 ≤ n2 ∧ ((w = 0 ∧ f0 < x0 ∧ f1 < x1) ∨ (w = 1 ∧ f0 < x0 ∧ f1 = x1) ∨ (w = 2 ∧ f0 = x0 ∧ f1 < x1) ∨ (w = 3 ∧ f0 = x0 ∧ f1 = x1))
  | 0, _, _, _, _, _, _, _, h, _, _ => h.elim
  | d + 1, e0, e1, w, f0, x0, f1, x1, h, h0, h1 => by
    rcases h with ⟨a1, a2, a3⟩ | ⟨w', y0, y1, hs, hr⟩
    · injection a3 with b1 b2
      injection b2 with b2 b3
      injection b3 with b3 b4
      injection b4 with b4 b5
      omega
    · have hl := jSt_le hs h0 h1
      rcases hr with ⟨_, a3⟩ | ⟨_, a3⟩
      · injection a3 with b1 b2
        injection b2 with b2 b3
        injection b3 with b3 b4
        injection b4 with b4 b5
        have hw := jSt_w hs
        subst b1; subst b2; subst b3; subst b4; subst b5
        omega
      · exact jNd_sp d y0 y1 w f0 x0 f1 x1 a3 hl.1 hl.2.1
theorem jNx_sp {e0 e1 w f0 x0 f1 x1 : Nat} (h : jNx n n2 K1 K2 kd e0 e1 (w, f0, x0, f1, x1)) (h0 : e0 ≤ n) (h1 : e1 ≤ n2) : f0 ≤ x0 ∧ x0 ≤ n ∧ f1 ≤ x1 ∧ x1 ≤ n2 ∧ ((w = 0 ∧ f0 < x0 ∧ f1 < x1) ∨ (w = 1 ∧ f0 < x0 ∧ f1 = x1) ∨ (w = 2 ∧ f0 = x0 ∧ f1 < x1) ∨ (w = 3 ∧ f0 = x0 ∧ f1 = x1)) := by
  obtain ⟨d, h⟩ := h
  exact jNd_sp d _ _ _ _ _ _ _ h h0 h1
end JN
