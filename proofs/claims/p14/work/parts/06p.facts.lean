/-! pure words of the general proof, sixteenth piece: the facts of a group -/
section JGF
variable {n n2 : Nat} {K1 V1 K2 V2 : Nat → Int32} {x : Int32} {f0 f1 f2 f3 f4 g0 g1 g2 g3 g4 : Int64}
def jPm (n n2 : Nat) (K1 V1 K2 V2 : Nat → Int32) (x : Int32) (f : Int64) : Prop := (∀ a, a < n → K1 a = x → ∀ b, b < n2 → K2 b = x → f ≤ (V1 a).toInt64 * (V2 b).toInt64) ∧ ∃ a b, a < n ∧ K1 a = x ∧ b < n2 ∧ K2 b = x ∧ f = (V1 a).toInt64 * (V2 b).toInt64
def jPx (n n2 : Nat) (K1 V1 K2 V2 : Nat → Int32) (x : Int32) (f : Int64) : Prop := (∀ a, a < n → K1 a = x → ∀ b, b < n2 → K2 b = x → (V1 a).toInt64 * (V2 b).toInt64 ≤ f) ∧ ∃ a b, a < n ∧ K1 a = x ∧ b < n2 ∧ K2 b = x ∧ f = (V1 a).toInt64 * (V2 b).toInt64
/-- the five facts of the group of the key x -/
def jGf (n n2 : Nat) (K1 V1 K2 V2 : Nat → Int32) (x : Int32) (f0 f1 f2 f3 f4 : Int64) : Prop := f0 = x.toInt64 ∧ f1 = lN (jCt n K1 x * jCt n2 K2 x) ∧ f2 = jSL (fun i => if K1 i = x then (V1 i).toInt64 else 0) n * jSL (fun i => if K2 i = x then (V2 i).toInt64 else 0) n2 ∧ jPm n n2 K1 V1 K2 V2 x f3 ∧ jPx n n2 K1 V1 K2 V2 x f4
theorem jGf_det (h : jGf n n2 K1 V1 K2 V2 x f0 f1 f2 f3 f4) (g : jGf n n2 K1 V1 K2 V2 x g0 g1 g2 g3 g4) : f0 = g0 ∧ f1 = g1 ∧ f2 = g2 ∧ f3 = g3 ∧ f4 = g4 := by
  obtain ⟨h0, h1, h2, ⟨h3, a, b, h4, h5, h6, h7, h8⟩, h9, a', b', i1, i2, i3, i4, i5⟩ := h
  obtain ⟨k0, k1, k2, ⟨k3, c, d, k4, k5, k6, k7, k8⟩, k9, c', d', l1, l2, l3, l4, l5⟩ := g
  refine ⟨h0.trans k0.symm, h1.trans k1.symm, h2.trans k2.symm, Int64.le_antisymm ?_ ?_, Int64.le_antisymm ?_ ?_⟩
  · rw [k8]; exact h3 c k4 k5 d k6 k7
  · rw [h8]; exact k3 a h4 h5 b h6 h7
  · rw [i5]; exact k9 a' i1 i2 b' i3 i4
  · rw [l5]; exact h9 c' l1 l2 d' l3 l4
theorem jGf_of {z1 z2 : Int32} {a1 b1 c1 a2 b2 c2 : Int64} (hn : n ≤ 400) (hn2 : n2 ≤ 400) (h : jSp n K1 V1 x z1 a1 b1 c1) (g : jSp n2 K2 V2 x z2 a2 b2 c2) : jGf n n2 K1 V1 K2 V2 x x.toInt64 (z1.toInt64 * z2.toInt64) (a1 * a2) (jmin4 (b1 * b2) (b1 * c2) (c1 * b2) (c1 * c2)) (jmax4 (b1 * b2) (b1 * c2) (c1 * b2) (c1 * c2)) := by
  obtain ⟨h1, h2, ⟨h3, i, hi, hx, hb⟩, h4, i', hi', hx', hc⟩ := h
  obtain ⟨g1, g2, ⟨g3, j, hj, hy, gb⟩, g4, j', hj', hy', gc⟩ := g
  have q1 := jCt_le (n := n) (K := K1) (x := x)
  have q2 := jCt_le (n := n2) (K := K2) (x := x)
  have e1 := jmin4_le (b1 * b2) (b1 * c2) (c1 * b2) (c1 * c2)
  have e2 := jmax4_le (b1 * b2) (b1 * c2) (c1 * b2) (c1 * c2)
  have key : ∀ a, a < n → K1 a = x → ∀ b, b < n2 → K2 b = x → ((b1 * b2 ≤ (V1 a).toInt64 * (V2 b).toInt64 ∨ b1 * c2 ≤ (V1 a).toInt64 * (V2 b).toInt64 ∨ c1 * b2 ≤ (V1 a).toInt64 * (V2 b).toInt64 ∨ c1 * c2 ≤ (V1 a).toInt64 * (V2 b).toInt64) ∧ ((V1 a).toInt64 * (V2 b).toInt64 ≤ b1 * b2 ∨ (V1 a).toInt64 * (V2 b).toInt64 ≤ b1 * c2 ∨ (V1 a).toInt64 * (V2 b).toInt64 ≤ c1 * b2 ∨ (V1 a).toInt64 * (V2 b).toInt64 ≤ c1 * c2)) := fun a ha ka b hb2 kb => by
    have r1 := h3 a ha ka
    have r2 := h4 a ha ka
    have r3 := g3 b hb2 kb
    have r4 := g4 b hb2 kb
    rw [hb, Int64.le_iff_toInt_le, Int32.toInt_toInt64, Int32.toInt_toInt64] at r1
    rw [hc, Int64.le_iff_toInt_le, Int32.toInt_toInt64, Int32.toInt_toInt64] at r2
    rw [gb, Int64.le_iff_toInt_le, Int32.toInt_toInt64, Int32.toInt_toInt64] at r3
    rw [gc, Int64.le_iff_toInt_le, Int32.toInt_toInt64, Int32.toInt_toInt64] at r4
    rw [hb, hc, gb, gc]
    simp only [Int64.le_iff_toInt_le, jp_int]
    exact ⟨jc_min r1 r2 r3 r4, jc_max r1 r2 r3 r4⟩
  refine ⟨rfl, ?_, by rw [h2, g2], ⟨fun a ha ka b hb2 kb => ?_, ?_⟩, ⟨fun a ha ka b hb2 kb => ?_, ?_⟩⟩
  · rw [h1, g1, nI_l (by omega), nI_l (by omega), lN_mul]
  · rcases (key a ha ka b hb2 kb).1 with q | q | q | q
    · exact jl_tr e1.1.1 q
    · exact jl_tr e1.1.2.1 q
    · exact jl_tr e1.1.2.2.1 q
    · exact jl_tr e1.1.2.2.2 q
  · rcases e1.2 with q | q | q | q
    · exact ⟨i, j, hi, hx, hj, hy, by rw [q, hb, gb]⟩
    · exact ⟨i, j', hi, hx, hj', hy', by rw [q, hb, gc]⟩
    · exact ⟨i', j, hi', hx', hj, hy, by rw [q, hc, gb]⟩
    · exact ⟨i', j', hi', hx', hj', hy', by rw [q, hc, gc]⟩
  · rcases (key a ha ka b hb2 kb).2 with q | q | q | q
    · exact jl_tr q e2.1.1
    · exact jl_tr q e2.1.2.1
    · exact jl_tr q e2.1.2.2.1
    · exact jl_tr q e2.1.2.2.2
  · rcases e2.2 with q | q | q | q
    · exact ⟨i, j, hi, hx, hj, hy, by rw [q, hb, gb]⟩
    · exact ⟨i, j', hi, hx, hj', hy', by rw [q, hb, gc]⟩
    · exact ⟨i', j, hi', hx', hj, hy, by rw [q, hc, gb]⟩
    · exact ⟨i', j', hi', hx', hj', hy', by rw [q, hc, gc]⟩
end JGF
/-- the value at a sorted place -/
def jV (f v : Nat → Int32) (n i : Nat) : Int32 := v (jS f n i).toNatClampNeg
theorem jV_at {f v o : Nat → Int32} {n : Nat} (hn : n ≤ 400) (ho : ∀ i, i < n → o i = jS f n i) : ∀ i, i < n → jat n v o (nI i) = jV f v n i := fun i hi => by
  rw [← jat_i (nI_pos (by omega)) (nI_ge hi (by omega)), nI_clamp (by omega), ho i hi]
  rfl
section JGR
variable {n n2 : Nat} {gk gv hk hv F1 W1 F2 W2 : Nat → Int32} {x : Int32} {f0 f1 f2 f3 f4 : Int64}
theorem jSL_rows (hn : n ≤ 400) (hr : ∀ k, k < n → gk k = F1 k) (hv : ∀ k, k < n → gv k = W1 k) : jSL (fun i => if jK gk n i = x then (jV gk gv n i).toInt64 else 0) n = jSL (fun i => if F1 i = x then (W1 i).toInt64 else 0) n := (jSL_S (fk := gk) (fun k => if gk k = x then (gv k).toInt64 else 0) n (by omega)).trans (jSL_congr n (fun i hi => by rw [hr i hi, hv i hi]))
theorem jpl (hn : n ≤ 400) (hr : ∀ k, k < n → gk k = F1 k) (hv : ∀ k, k < n → gv k = W1 k) {i : Nat} (hi : i < n) : ∃ k, k < n ∧ jK gk n i = F1 k ∧ jV gk gv n i = W1 k := by
  obtain ⟨k, h1, h2⟩ := jrow_S (fk := gk) n i hi
  refine ⟨k, h1, ?_, ?_⟩
  · unfold jK; rw [h2, nI_clamp (by omega)]; exact hr k h1
  · unfold jV; rw [h2, nI_clamp (by omega)]; exact hv k h1
theorem jpl_r (hn : n ≤ 400) (hr : ∀ k, k < n → gk k = F1 k) (hv : ∀ k, k < n → gv k = W1 k) {k : Nat} (hk : k < n) : ∃ i, i < n ∧ jK gk n i = F1 k ∧ jV gk gv n i = W1 k := by
  obtain ⟨i, h1, h2⟩ := jS_sur (fk := gk) hn hk
  refine ⟨i, h1, ?_, ?_⟩
  · unfold jK; rw [h2, nI_clamp (by omega)]; exact hr k hk
  · unfold jV; rw [h2, nI_clamp (by omega)]; exact hv k hk
/-- the facts, told of the rows, are those of the sorted places -/
theorem jGf_rows (hn : n ≤ 400) (hn2 : n2 ≤ 400) (hr : ∀ k, k < n → gk k = F1 k) (hrv : ∀ k, k < n → gv k = W1 k) (hs : ∀ k, k < n2 → hk k = F2 k) (hsv : ∀ k, k < n2 → hv k = W2 k) (h : jGf n n2 F1 W1 F2 W2 x f0 f1 f2 f3 f4) : jGf n n2 (jK gk n) (jV gk gv n) (jK hk n2) (jV hk hv n2) x f0 f1 f2 f3 f4 := by
  obtain ⟨h0, h1, h2, ⟨h3, a, b, h4, h5, h6, h7, h8⟩, h9, a', b', i1, i2, i3, i4, i5⟩ := h
  refine ⟨h0, by rw [h1, jCt_rows hn hr, jCt_rows hn2 hs], by rw [h2, jSL_rows hn hr hrv, jSL_rows hn2 hs hsv], ⟨fun c hc ec d hd ed => ?_, ?_⟩, ⟨fun c hc ec d hd ed => ?_, ?_⟩⟩
  · obtain ⟨k, q1, q2, q3⟩ := jpl hn hr hrv hc
    obtain ⟨k', r1, r2, r3⟩ := jpl hn2 hs hsv hd
    rw [q3, r3]
    exact h3 k q1 (q2.symm.trans ec) k' r1 (r2.symm.trans ed)
  · obtain ⟨k, q1, q2, q3⟩ := jpl_r hn hr hrv h4
    obtain ⟨k', r1, r2, r3⟩ := jpl_r hn2 hs hsv h6
    exact ⟨k, k', q1, q2.trans h5, r1, r2.trans h7, by rw [h8, q3, r3]⟩
  · obtain ⟨k, q1, q2, q3⟩ := jpl hn hr hrv hc
    obtain ⟨k', r1, r2, r3⟩ := jpl hn2 hs hsv hd
    rw [q3, r3]
    exact h9 k q1 (q2.symm.trans ec) k' r1 (r2.symm.trans ed)
  · obtain ⟨k, q1, q2, q3⟩ := jpl_r hn hr hrv i1
    obtain ⟨k', r1, r2, r3⟩ := jpl_r hn2 hs hsv i3
    exact ⟨k, k', q1, q2.trans i2, r1, r2.trans i4, by rw [i5, q3, r3]⟩
end JGR
/-- the book holds the facts of the groups that begin before m -/
def jBk (n n2 : Nat) (K1 V1 K2 V2 : Nat → Int32) (e0 e1 e2 e3 e4 : Nat → Int64) (m : Nat) : Prop := ∀ i, i < m → jGb n2 K1 K2 i = true → jGf n n2 K1 V1 K2 V2 (K1 i) (e0 (jGn n2 K1 K2 i)) (e1 (jGn n2 K1 K2 i)) (e2 (jGn n2 K1 K2 i)) (e3 (jGn n2 K1 K2 i)) (e4 (jGn n2 K1 K2 i))
section JBK
variable {n n2 i w : Nat} {K1 V1 K2 V2 : Nat → Int32} {e0 e1 e2 e3 e4 : Nat → Int64} {f0 f1 f2 f3 f4 : Int64}
theorem jbk_0 (h : jBk n n2 K1 V1 K2 V2 e0 e1 e2 e3 e4 i) (hb : jGb n2 K1 K2 i = false) : jBk n n2 K1 V1 K2 V2 e0 e1 e2 e3 e4 (i + 1) := fun k hk hg => by
  by_cases e : k = i
  · subst e; rw [hb] at hg; exact absurd hg (by decide)
  · exact h k (by omega) hg
theorem jbk_1 (h : jBk n n2 K1 V1 K2 V2 e0 e1 e2 e3 e4 i) (hw : w = jGn n2 K1 K2 i) (hf : jGf n n2 K1 V1 K2 V2 (K1 i) f0 f1 f2 f3 f4) : jBk n n2 K1 V1 K2 V2 (vp_updL e0 w f0) (vp_updL e1 w f1) (vp_updL e2 w f2) (vp_updL e3 w f3) (vp_updL e4 w f4) (i + 1) := fun k hk hg => by
  subst hw
  by_cases e : k = i
  · subst e; rw [pk_uLs, pk_uLs, pk_uLs, pk_uLs, pk_uLs]; exact hf
  · have h2 : jGn n2 K1 K2 k ≠ jGn n2 K1 K2 i := by have := jGn_lt (n2 := n2) (K1 := K1) (K2 := K2) (show k < i by omega) hg; omega
    rw [pk_uLn h2, pk_uLn h2, pk_uLn h2, pk_uLn h2, pk_uLn h2]
    exact h k (by omega) hg
theorem jbk_z : jBk n n2 K1 V1 K2 V2 e0 e1 e2 e3 e4 0 := fun k hk => absurd hk (Nat.not_lt_zero _)
end JBK
section JBK2
variable {n n2 i g : Nat} {K1 V1 K2 V2 : Nat → Int32} {e0 e1 e2 e3 e4 : Nat → Int64} {f0 f1 f2 f3 f4 : Int64}
theorem jgb_1 (h : jGb n2 K1 K2 i = true) : (i = 0 ∨ ¬ K1 (i - 1) = K1 i) ∧ ¬ jCt n2 K2 (K1 i) = 0 := of_decide_eq_true h
theorem jbk_fin (h : jBk n n2 K1 V1 K2 V2 e0 e1 e2 e3 e4 i) (hi : i ≤ n) (he : n ≤ i ∨ jGn n2 K1 K2 n ≤ jGn n2 K1 K2 i) : jBk n n2 K1 V1 K2 V2 e0 e1 e2 e3 e4 n := fun k hk hg => by
  by_cases c : k < i
  · exact h k c hg
  · rcases he with he | he
    · omega
    · have h1 := jGn_lt (n2 := n2) (K1 := K1) (K2 := K2) hk hg
      have h2 := jGn_mono (n2 := n2) (K1 := K1) (K2 := K2) (i := i) (k - i)
      rw [show i + (k - i) = k by omega] at h2
      omega
theorem jfp_lb {k9 : Nat} {gf : Nat → Int32} (hn : n ≤ 400) (hn2 : n2 ≤ 400) (hk : k9 ≤ 400) (hi : i < n) (hf : ∀ k, k < n → ∃ z, gf k = nI z ∧ jLb n2 K2 (K1 k) z) (e : nI k9 = if nI i < 0 ∨ nI n ≤ nI i then 0 else gf (nI i).toNatClampNeg) : jLb n2 K2 (K1 i) k9 := by
  obtain ⟨z, h1, h2⟩ := hf i hi
  rw [if_neg (fun q => q.elim (nI_pos (by omega)) (nI_ge hi (by omega))), nI_clamp (by omega), h1, nI_eq (by omega) (by have := h2.1; omega)] at e
  rw [e]
  exact h2
theorem jgrp_eq {p m : Nat} (h : jBk n n2 K1 V1 K2 V2 e0 e1 e2 e3 e4 n) (hp : p < n) (hb : jGb n2 K1 K2 p = true) (hm : jGn n2 K1 K2 p = m) (hg : jGf n n2 K1 V1 K2 V2 (K1 p) f0 f1 f2 f3 f4) : e0 m = f0 ∧ e1 m = f1 ∧ e2 m = f2 ∧ e3 m = f3 ∧ e4 m = f4 := by
  subst hm
  exact jGf_det (h p hp hb) hg
theorem jif_in {m gs : Nat} {e : Nat → Int64} (hm : m < gs) (hgs : gs ≤ 400) : (if nI m < 0 ∨ nI gs ≤ nI m then 0 else e (nI m).toNatClampNeg) = e m := by
  rw [if_neg (fun q => q.elim (nI_pos (by omega)) (nI_ge hm (by omega))), nI_clamp (by omega)]
end JBK2
