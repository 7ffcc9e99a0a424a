/-! pure words of the general proof, twelfth piece: steps of the cursor, the search by halves -/
theorem jtl_n1 {kd : Int32} (h : kd &&& 1 = 0) : ¬ jtl kd 1 := fun q => by
  rcases q with q | ⟨_, q⟩ | ⟨q, _⟩
  · exact absurd q (by decide)
  · exact q h
  · exact absurd q (by decide)
theorem jtl_n2 {kd : Int32} (h : kd &&& 2 = 0) : ¬ jtl kd 2 := fun q => by
  rcases q with q | ⟨q, _⟩ | ⟨_, q⟩
  · exact absurd q (by decide)
  · exact absurd q (by decide)
  · exact q h
section JC
variable {n n2 e0 e1 x0 x1 : Nat} {K1 K2 : Nat → Int32} {kd : Int32}
theorem jfit_0 (h : jSt n n2 K1 K2 e0 e1 0 x0 x1) : jtl kd 0 := Or.inl rfl
theorem jfit_1 (h : jSt n n2 K1 K2 e0 e1 1 x0 x1) : (((nI x1 ≤ nI e1 ∧ ¬ kd &&& 1 = 0) ∨ (¬ nI x1 ≤ nI e1 ∧ (¬ nI x0 ≤ nI e0 ∨ ¬ kd &&& 2 = 0))) ↔ jtl kd 1) := by
  obtain ⟨q, _⟩ | ⟨_, q1, q2⟩ | ⟨q, _⟩ := jSt_w h
  · exact absurd q (by decide)
  · subst q2
    refine ⟨fun q => q.elim (fun z => Or.inr (Or.inl ⟨rfl, z.2⟩)) (fun z => absurd (Int32.le_refl _) z.1), fun q => Or.inl ⟨Int32.le_refl _, ?_⟩⟩
    rcases q with q | ⟨_, q⟩ | ⟨q, _⟩
    · exact absurd q (by decide)
    · exact q
    · exact absurd q (by decide)
  · exact absurd q (by decide)
theorem jfit_2 (hx1 : x1 < 2 ^ 31) (h : jSt n n2 K1 K2 e0 e1 2 x0 x1) : (((nI x1 ≤ nI e1 ∧ ¬ kd &&& 1 = 0) ∨ (¬ nI x1 ≤ nI e1 ∧ (¬ nI x0 ≤ nI e0 ∨ ¬ kd &&& 2 = 0))) ↔ jtl kd 2) := by
  obtain ⟨q, _⟩ | ⟨q, _⟩ | ⟨_, q1, q2⟩ := jSt_w h
  · exact absurd q (by decide)
  · exact absurd q (by decide)
  · subst q1
    have hn : ¬ nI x1 ≤ nI e1 := nI_ge q2 hx1
    refine ⟨fun q => q.elim (fun z => absurd z.1 hn) (fun z => z.2.elim (fun y => absurd (Int32.le_refl _) y) (fun y => Or.inr (Or.inr ⟨rfl, y⟩))), fun q => Or.inr ⟨hn, Or.inr ?_⟩⟩
    rcases q with q | ⟨q, _⟩ | ⟨_, q⟩
    · exact absurd q (by decide)
    · exact absurd q (by decide)
    · exact q
theorem jfit_00 (hx0 : x0 < 2 ^ 31) (hx1 : x1 < 2 ^ 31) (h : jSt n n2 K1 K2 e0 e1 0 x0 x1) : ((nI x1 ≤ nI e1 ∧ ¬ kd &&& 1 = 0) ∨ (¬ nI x1 ≤ nI e1 ∧ (¬ nI x0 ≤ nI e0 ∨ ¬ kd &&& 2 = 0))) := by
  obtain ⟨_, q1, q2⟩ | ⟨q, _⟩ | ⟨q, _⟩ := jSt_w h
  · exact Or.inr ⟨nI_ge q2 hx1, Or.inl (nI_ge q1 hx0)⟩
  · exact absurd q (by decide)
  · exact absurd q (by decide)
theorem j_first0 {x4 x5 : Int32} (hx0 : x0 < 2 ^ 31) (hx1 : x1 < 2 ^ 31) (h : jSt n n2 K1 K2 e0 e1 0 x0 x1) (h4 : x4 = if nI x0 ≤ nI e0 then -1 else nI e0) (h5 : x5 = if nI x1 ≤ nI e1 then -1 else nI e1) : x4 = nI e0 ∧ x5 = nI e1 := by
  obtain ⟨_, q1, q2⟩ | ⟨q, _⟩ | ⟨q, _⟩ := jSt_w h
  · rw [if_neg (nI_ge q1 hx0)] at h4
    rw [if_neg (nI_ge q2 hx1)] at h5
    exact ⟨h4, h5⟩
  · exact absurd q (by decide)
  · exact absurd q (by decide)
theorem j_first1 {x4 x5 : Int32} (hx0 : x0 < 2 ^ 31) (h : jSt n n2 K1 K2 e0 e1 1 x0 x1) (h4 : x4 = if nI x0 ≤ nI e0 then -1 else nI e0) (h5 : x5 = if nI x1 ≤ nI e1 then -1 else nI e1) : x4 = nI e0 ∧ x5 = -1 := by
  obtain ⟨q, _⟩ | ⟨_, q1, q2⟩ | ⟨q, _⟩ := jSt_w h
  · exact absurd q (by decide)
  · subst q2
    rw [if_neg (nI_ge q1 hx0)] at h4
    rw [if_pos (Int32.le_refl _)] at h5
    exact ⟨h4, h5⟩
  · exact absurd q (by decide)
theorem j_first2 {x4 x5 : Int32} (hx1 : x1 < 2 ^ 31) (h : jSt n n2 K1 K2 e0 e1 2 x0 x1) (h4 : x4 = if nI x0 ≤ nI e0 then -1 else nI e0) (h5 : x5 = if nI x1 ≤ nI e1 then -1 else nI e1) : x4 = -1 ∧ x5 = nI e1 := by
  obtain ⟨q, _⟩ | ⟨q, _⟩ | ⟨_, q1, q2⟩ := jSt_w h
  · exact absurd q (by decide)
  · exact absurd q (by decide)
  · subst q1
    rw [if_pos (Int32.le_refl _)] at h4
    rw [if_neg (nI_ge q2 hx1)] at h5
    exact ⟨h4, h5⟩
end JC
/-- the search by halves -/
def jBs (n : Nat) (K : Nat → Int32) (x : Int32) (lo hi : Nat) : Prop := lo ≤ hi ∧ hi ≤ n ∧ (∀ j, j < lo → K j < x) ∧ (∀ j, hi ≤ j → j < n → ¬ K j < x)
section JB
variable {n lo hi q : Nat} {K : Nat → Int32} {x : Int32}
theorem jbs_0 : jBs n K x 0 n := ⟨Nat.zero_le _, Nat.le_refl _, fun j hj => absurd hj (Nat.not_lt_zero _), fun j h1 h2 => absurd h2 (by omega)⟩
theorem jbs_up (hw : jMo n K) (h : jBs n K x lo hi) (hl : lo < hi) (c : ¬ x ≤ K ((lo + hi) / 2)) : jBs n K x ((lo + hi) / 2 + 1) hi := by
  obtain ⟨h1, h2, h3, h4⟩ := h
  exact ⟨by omega, h2, fun j hj => j_le_lt (hw j ((lo + hi) / 2) (by omega) (by omega)) (j_lt_le c), h4⟩
theorem jbs_dn (hw : jMo n K) (h : jBs n K x lo hi) (hl : lo < hi) (c : x ≤ K ((lo + hi) / 2)) : jBs n K x lo ((lo + hi) / 2) := by
  obtain ⟨h1, h2, h3, h4⟩ := h
  exact ⟨by omega, by omega, h3, fun j h5 h6 => j_nlt_le (j_le_tr c (hw ((lo + hi) / 2) j h5 h6))⟩
theorem jbs_fin (h : jBs n K x lo hi) (hl : hi ≤ lo) : jLb n K x lo := by
  obtain ⟨h1, h2, h3, h4⟩ := h
  exact ⟨by omega, h3, fun j h5 h6 => h4 j (by omega) h6⟩
theorem jhv_up (h : (hi - lo) * 2 ^ q ≤ 400) : (hi - ((lo + hi) / 2 + 1)) * 2 ^ (q + 1) ≤ 400 := by
  have e : hi - ((lo + hi) / 2 + 1) ≤ (hi - lo) / 2 := by omega
  have e2 : (hi - ((lo + hi) / 2 + 1)) * 2 ^ (q + 1) ≤ (hi - lo) * 2 ^ q := by
    rw [Nat.pow_succ, Nat.mul_comm (2 ^ q) 2, ← Nat.mul_assoc]
    exact Nat.mul_le_mul_right _ (by omega)
  exact Nat.le_trans e2 h
theorem jhv_dn (h : (hi - lo) * 2 ^ q ≤ 400) : ((lo + hi) / 2 - lo) * 2 ^ (q + 1) ≤ 400 := by
  have e2 : ((lo + hi) / 2 - lo) * 2 ^ (q + 1) ≤ (hi - lo) * 2 ^ q := by
    rw [Nat.pow_succ, Nat.mul_comm (2 ^ q) 2, ← Nat.mul_assoc]
    exact Nat.mul_le_mul_right _ (by omega)
  exact Nat.le_trans e2 h
theorem jhv_fin (h : (hi - lo) * 2 ^ q ≤ 400) (hq : 40 ≤ q) : hi ≤ lo := by
  rcases Nat.lt_or_ge lo hi with c | c
  · have h1 : 2 ^ 40 ≤ 2 ^ q := Nat.pow_le_pow_right (by decide) hq
    have h2 : 1 * 2 ^ q ≤ (hi - lo) * 2 ^ q := Nat.mul_le_mul_right _ (by omega)
    have h3 : 400 < 2 ^ 40 := by decide
    omega
  · exact c
end JB
theorem jLb_congr {n : Nat} {K K' : Nat → Int32} {x : Int32} {l : Nat} (hk : ∀ i, i < n → K i = K' i) (h : jLb n K x l) : jLb n K' x l := ⟨h.1, fun j hj => by rw [← hk j (by have := h.1; omega)]; exact h.2.1 j hj, fun j h1 h2 => by rw [← hk j h2]; exact h.2.2 j h1 h2⟩
theorem jmk_K {n b : Nat} {f o m3 m5 : Nat → Int32} (hb : b ≤ 400) (hn : n ≤ 400) (h5' : jo5 m5) (hk : ∀ k, k < n → f k = jsh b m3 k) (ho : ∀ i, i < n → o i = jS f n i) (h5 : ∀ i, i < n → jsh b m5 i = jS (jsh b m3) n i) : ∀ i, i < n → jmk b m3 m5 i = jK f n i := fun i hi => (jr_at hb hn h5' hk hk ho h5 hi).symm.trans (jK_at hn ho i hi)
/-! seek: the pairs before, the pairs from there on -/
theorem jQ_lt {x y : Int32} : jQ true x.toInt64 y = true ↔ y < x := by
  have e : y.toInt64 < x.toInt64 ↔ y < x := by rw [Int64.lt_iff_toInt_lt, Int32.toInt_toInt64, Int32.toInt_toInt64, Int32.lt_iff_toInt_lt]
  unfold jQ
  by_cases h : y < x
  · rw [decide_eq_true (e.mpr h)]; exact ⟨fun _ => h, fun _ => rfl⟩
  · rw [decide_eq_false (fun q => h (e.mp q))]; exact ⟨fun q => absurd q (by decide), fun q => absurd q h⟩
theorem jQ_ge {x y : Int32} : jQ false x.toInt64 y = true ↔ ¬ y < x := by
  have e : y.toInt64 < x.toInt64 ↔ y < x := by rw [Int64.lt_iff_toInt_lt, Int32.toInt_toInt64, Int32.toInt_toInt64, Int32.lt_iff_toInt_lt]
  unfold jQ
  by_cases h : y < x
  · rw [decide_eq_true (e.mpr h)]; exact ⟨fun q => absurd q (by decide), fun q => absurd h q⟩
  · rw [decide_eq_false (fun q => h (e.mp q))]; exact ⟨fun _ => h, fun _ => rfl⟩
theorem jSm_pre {Q : Nat → Bool} {g : Nat → Nat} {l : Nat} (h1 : ∀ i, i < l → Q i = true) : ∀ n, l ≤ n → (∀ i, l ≤ i → i < n → ¬ Q i = true) → jSm (fun i => if Q i = true then g i else 0) n = jSm g l := fun n => by
  induction n with
  | zero => intro h _; obtain rfl : l = 0 := by omega
            rfl
  | succ n ih =>
    intro h h2
    by_cases e : l = n + 1
    · subst e
      exact jSm_congr _ (fun i hi => if_pos (h1 i hi))
    · show jSm (fun i => if Q i = true then g i else 0) n + (if Q n = true then g n else 0) = jSm g l
      rw [ih (by omega) (fun i h3 h4 => h2 i h3 (by omega)), if_neg (h2 n (by omega) (by omega))]
      rfl
theorem jSm_split {Q Q' : Nat → Bool} {g : Nat → Nat} (h : ∀ i, Q i = true ↔ ¬ Q' i = true) : ∀ n, jSm (fun i => if Q i = true then g i else 0) n + jSm (fun i => if Q' i = true then g i else 0) n = jSm g n
  | 0 => rfl
  | n + 1 => by
    show jSm (fun i => if Q i = true then g i else 0) n + (if Q n = true then g n else 0) + (jSm (fun i => if Q' i = true then g i else 0) n + (if Q' n = true then g n else 0)) = jSm g n + g n
    have ih := jSm_split (g := g) h n
    by_cases c : Q' n = true
    · rw [if_pos c, if_neg (fun q => (h n).mp q c)]; omega
    · rw [if_neg c, if_pos ((h n).mpr c)]; omega
section JS
variable {n n2 l0 l1 : Nat} {gk hk F1 F2 gp gl gf hp hl_ hf_ : Nat → Int32} {kd x : Int32}
theorem jseek_sum (hn : n ≤ 400) (hn2 : n2 ≤ 400) (hr : ∀ k, k < n → gk k = F1 k) (hs : ∀ k, k < n2 → hk k = F2 k) (h0 : jLb n (jK gk n) x l0) (h1 : jLb n2 (jK hk n2) x l1) : 0 + jPa (jG1 kd) n2 F2 (jQ true x.toInt64) F1 n + jPa (jG2 kd) n F1 (jQ true x.toInt64) F2 n2 = jPb n n2 (jK gk n) (jK hk n2) kd l0 l1 := by
  rw [jPa_rows hn hn2 hr hs, jPa_rows hn2 hn hs hr, jSm_pre (Q := fun i => jQ true x.toInt64 (jK gk n i)) (fun i hi => jQ_lt.mpr (h0.2.1 i hi)) n h0.1 (fun i h3 h4 q => h0.2.2 i h3 h4 (jQ_lt.mp q)), jSm_pre (Q := fun i => jQ true x.toInt64 (jK hk n2 i)) (fun i hi => jQ_lt.mpr (h1.2.1 i hi)) n2 h1.1 (fun i h3 h4 q => h1.2.2 i h3 h4 (jQ_lt.mp q)), Nat.zero_add]
  rfl
theorem jseek_tot (hn : n ≤ 400) (hn2 : n2 ≤ 400) (hr : ∀ k, k < n → gk k = F1 k) (hs : ∀ k, k < n2 → hk k = F2 k) : (0 + jPa (jG1 kd) n2 F2 (jQ true x.toInt64) F1 n + jPa (jG2 kd) n F1 (jQ true x.toInt64) F2 n2) + (0 + jPa (jG1 kd) n2 F2 (jQ false x.toInt64) F1 n + jPa (jG2 kd) n F1 (jQ false x.toInt64) F2 n2) = jPb n n2 (jK gk n) (jK hk n2) kd n n2 := by
  have hQ : ∀ y : Int32, jQ true x.toInt64 y = true ↔ ¬ jQ false x.toInt64 y = true := fun y => by rw [jQ_lt, jQ_ge, Decidable.not_not]
  have e1 := jSm_split (Q := fun i => jQ true x.toInt64 (jK gk n i)) (Q' := fun i => jQ false x.toInt64 (jK gk n i)) (g := fun i => jG1 kd (jCt n2 (jK hk n2) (jK gk n i))) (fun i => hQ _) n
  have e2 := jSm_split (Q := fun i => jQ true x.toInt64 (jK hk n2 i)) (Q' := fun i => jQ false x.toInt64 (jK hk n2 i)) (g := fun i => jG2 kd (jCt n (jK gk n) (jK hk n2 i))) (fun i => hQ _) n2
  rw [jPa_rows hn hn2 hr hs, jPa_rows hn2 hn hs hr, jPa_rows hn hn2 hr hs, jPa_rows hn2 hn hs hr]
  unfold jPb
  omega
theorem jseek_cnt (hn : n ≤ 400) (hn2 : n2 ≤ 400) (hr : ∀ k, k < n → gk k = F1 k) (hs : ∀ k, k < n2 → hk k = F2 k) (p1 : jPt n n2 (jK gk n) (jK hk n2) gp gl gf) (p2 : jPt n2 n (jK hk n2) (jK gk n) hp hl_ hf_) (h0 : jLb n (jK gk n) x l0) (h1 : jLb n2 (jK hk n2) x l1) : (lN (0 + jPa (jG1 kd) n2 F2 (jQ true x.toInt64) F1 n + jPa (jG2 kd) n F1 (jQ true x.toInt64) F2 n2)).toInt32 = jpb n n2 gp gl hl_ (nI l0) (nI l1) kd := by
  rw [lN_i, jpb_nat hn hn2 p1 p2 h0.1 h1.1, jseek_sum hn hn2 hr hs h0 h1]
theorem jseek_lt (hn : n ≤ 400) (hn2 : n2 ≤ 400) (hr : ∀ k, k < n → gk k = F1 k) (hs : ∀ k, k < n2 → hk k = F2 k) (p1 : jPt n n2 (jK gk n) (jK hk n2) gp gl gf) (p2 : jPt n2 n (jK hk n2) (jK gk n) hp hl_ hf_) (h0 : jLb n (jK gk n) x l0) (h1 : jLb n2 (jK hk n2) x l1) : (jpb n n2 gp gl hl_ (nI n) (nI n2) kd ≤ jpb n n2 gp gl hl_ (nI l0) (nI l1) kd) ↔ (0 + jPa (jG1 kd) n2 F2 (jQ false x.toInt64) F1 n + jPa (jG2 kd) n F1 (jQ false x.toInt64) F2 n2 = 0) := by
  have b1 := jPb_lt (K1 := jK gk n) (K2 := jK hk n2) (kd := kd) hn hn2 hn hn2
  have b2 := jPb_lt (K1 := jK gk n) (K2 := jK hk n2) (kd := kd) hn hn2 (Nat.le_trans h0.1 hn) (Nat.le_trans h1.1 hn2)
  have e := jseek_tot (kd := kd) (x := x) hn hn2 hr hs
  rw [jseek_sum hn hn2 hr hs h0 h1] at e
  rw [jpb_nat hn hn2 p1 p2 (Nat.le_refl _) (Nat.le_refl _), jpb_nat hn hn2 p1 p2 h0.1 h1.1, nI_leI (by omega) (by omega)]
  omega
end JS
theorem jfo_step {K : Nat → Int32} {e i : Nat} (h : ∀ j, e < j → j < i → K j = K e) (c : K i = K e) : ∀ j, e < j → j < i + 1 → K j = K e := fun j h1 h2 => by
  by_cases q : j = i
  · subst q; exact c
  · exact h j h1 (by omega)
theorem jlc_0 {X : Nat} {z : Int32} (hX : X < 2 ^ 31) (e : z = lg_cmp (lN X) 0) (c : z ≤ 0) : X = 0 := by
  rw [e, lg_cmp_le, show (0 : Int64) = lN 0 from rfl, lN_le hX (by decide)] at c
  omega
theorem jlc_1 {X : Nat} {z : Int32} (hX : X < 2 ^ 31) (e : z = lg_cmp (lN X) 0) (c : ¬ z ≤ 0) : ¬ X = 0 := fun q => by
  rw [e, lg_cmp_le, show (0 : Int64) = lN 0 from rfl, lN_le hX (by decide)] at c
  omega
theorem jPa_le {G : Nat → Nat} {n2 : Nat} {F2 F1 : Nat → Int32} {Q : Int32 → Bool} (hG : ∀ c, c ≤ 400 → G c ≤ 401) (hn2 : n2 ≤ 400) (n : Nat) : jPa G n2 F2 Q F1 n ≤ n * 401 := jSm_le (fun i => by
  have h1 := hG (jCt n2 F2 (F1 i)) (Nat.le_trans jCt_le hn2)
  show (if _ then _ else _) ≤ 401
  split <;> omega) n
theorem jG1_le {kd : Int32} (c : Nat) (h : c ≤ 400) : jG1 kd c ≤ 401 := by
  unfold jG1
  split
  · split <;> omega
  · omega
theorem jG2_le {kd : Int32} (c : Nat) (h : c ≤ 400) : jG2 kd c ≤ 401 := by
  unfold jG2
  split
  · split <;> omega
  · omega
theorem jPa_lt {n n2 : Nat} {F1 F2 : Nat → Int32} {kd : Int32} {Q : Int32 → Bool} (hn : n ≤ 400) (hn2 : n2 ≤ 400) : 0 + jPa (jG1 kd) n2 F2 Q F1 n + jPa (jG2 kd) n F1 Q F2 n2 < 2 ^ 31 := by
  have h1 := jPa_le (G := jG1 kd) (F2 := F2) (F1 := F1) (Q := Q) jG1_le hn2 n
  have h2 := jPa_le (G := jG2 kd) (F2 := F1) (F1 := F2) (Q := Q) jG2_le hn n2
  omega
