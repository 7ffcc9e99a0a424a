/-! pure words of the general proof, tenth piece: the class's sums are the reference's counts -/
theorem jpt_p {n n2 : Nat} {K1 K2 fp fl ff : Nat → Int32} (h : jPt n n2 K1 K2 fp fl ff) : fp 0 = 0 := (h.1 0 (Nat.zero_le _)).trans nI_0
theorem jpt_l {n n2 : Nat} {K1 K2 fp fl ff : Nat → Int32} (h : jPt n n2 K1 K2 fp fl ff) : fl 0 = 0 := (h.2.1 0 (Nat.zero_le _)).trans nI_0
theorem jsum_at {n l : Nat} {f : Nat → Int32} (hl : l ≤ n) (hn : n ≤ 400) : jsum n f (nI l) = f l := by
  rw [← jsum_i (nI_pos (by omega)) (nI_nlt hl (by omega)), nI_clamp (by omega)]
/-- pairs of a kind before two places -/
def jPb (n n2 : Nat) (K1 K2 : Nat → Int32) (kd : Int32) (l0 l1 : Nat) : Nat := jSm (fun i => jG1 kd (jCt n2 K2 (K1 i))) l0 + jSm (fun j => jG2 kd (jCt n K1 (K2 j))) l1
theorem jG1_sm {n2 : Nat} {K1 K2 : Nat → Int32} {kd : Int32} : ∀ l, jSm (fun i => jG1 kd (jCt n2 K2 (K1 i))) l = jPS n2 K1 K2 l + if kd &&& 1 = 0 then 0 else jLS n2 K1 K2 l
  | 0 => by
    show 0 = 0 + if _ then 0 else 0
    split <;> rfl
  | l + 1 => by
    show jSm (fun i => jG1 kd (jCt n2 K2 (K1 i))) l + jG1 kd (jCt n2 K2 (K1 l)) = jPS n2 K1 K2 l + jCt n2 K2 (K1 l) + if kd &&& 1 = 0 then 0 else jLS n2 K1 K2 l + if jCt n2 K2 (K1 l) = 0 then 1 else 0
    rw [jG1_sm l]
    unfold jG1
    by_cases h : kd &&& 1 = 0
    · rw [if_pos h, if_pos h, if_pos h]
      split <;> omega
    · rw [if_neg h, if_neg h, if_neg h]
      split <;> omega
theorem jG2_sm {n2 : Nat} {K1 K2 : Nat → Int32} {kd : Int32} : ∀ l, jSm (fun i => jG2 kd (jCt n2 K2 (K1 i))) l = if kd &&& 2 = 0 then 0 else jLS n2 K1 K2 l
  | 0 => by
    show 0 = if _ then 0 else 0
    split <;> rfl
  | l + 1 => by
    show jSm (fun i => jG2 kd (jCt n2 K2 (K1 i))) l + jG2 kd (jCt n2 K2 (K1 l)) = if kd &&& 2 = 0 then 0 else jLS n2 K1 K2 l + if jCt n2 K2 (K1 l) = 0 then 1 else 0
    rw [jG2_sm l]
    unfold jG2
    by_cases h : kd &&& 2 = 0
    · rw [if_pos h, if_pos h, if_pos h]
      split <;> omega
    · rw [if_neg h, if_neg h, if_neg h]
theorem jpb_nat {n n2 l0 l1 : Nat} {K1 K2 fp fl ff gp gl gf : Nat → Int32} {kd : Int32} (hn : n ≤ 400) (hn2 : n2 ≤ 400) (h1 : jPt n n2 K1 K2 fp fl ff) (h2 : jPt n2 n K2 K1 gp gl gf) (hl0 : l0 ≤ n) (hl1 : l1 ≤ n2) : jpb n n2 fp fl gl (nI l0) (nI l1) kd = nI (jPb n n2 K1 K2 kd l0 l1) := by
  unfold jpb jPb
  rw [jsum_at hl0 hn, jsum_at hl0 hn, jsum_at hl1 hn2, h1.1 l0 hl0, h1.2.1 l0 hl0, h2.2.1 l1 hl1, jG1_sm, jG2_sm]
  by_cases e1 : kd &&& 1 = 0
  · rw [if_pos e1, if_pos e1]
    by_cases e2 : kd &&& 2 = 0
    · rw [if_pos e2, if_pos e2, Int32.add_zero]; rfl
    · rw [if_neg e2, if_neg e2, nI_add]; rfl
  · rw [if_neg e1, if_neg e1, nI_add]
    by_cases e2 : kd &&& 2 = 0
    · rw [if_pos e2, if_pos e2, Int32.add_zero]; rfl
    · rw [if_neg e2, if_neg e2, nI_add]
theorem jPb_lt {n n2 l0 l1 : Nat} {K1 K2 : Nat → Int32} {kd : Int32} (hn : n ≤ 400) (hn2 : n2 ≤ 400) (h0 : l0 ≤ 400) (h1 : l1 ≤ 400) : jPb n n2 K1 K2 kd l0 l1 ≤ 161000 := by
  unfold jPb
  rw [jG1_sm, jG2_sm]
  have a1 := jPS_le (K1 := K1) (K2 := K2) hn2 l0
  have a2 := jLS_le (n2 := n2) (K1 := K1) (K2 := K2) l0
  have a3 := jLS_le (n2 := n) (K1 := K2) (K2 := K1) l1
  split <;> split <;> omega
section JE
variable {n n2 : Nat} {gk hk F1 F2 : Nat → Int32}
theorem jCt_rows (hn2 : n2 ≤ 400) (hs : ∀ k, k < n2 → hk k = F2 k) (x : Int32) : jCt n2 (jK hk n2) x = jCt n2 F2 x := (jCt_S (fk := hk) (by omega) x).trans (jCt_congr hs x)
/-- a sum over the rows is the sum over the sorted places -/
theorem jSm_rows (hn : n ≤ 400) (hr : ∀ k, k < n → gk k = F1 k) (g : Int32 → Nat) : jSm (fun i => g (jK gk n i)) n = jSm (fun i => g (F1 i)) n := (jSm_S (fk := gk) (fun k => g (gk k)) n (by omega)).trans (jSm_congr n (fun i hi => by rw [hr i hi]))
theorem jLS_rows (hn : n ≤ 400) (hn2 : n2 ≤ 400) (hr : ∀ k, k < n → gk k = F1 k) (hs : ∀ k, k < n2 → hk k = F2 k) : jLS n2 (jK gk n) (jK hk n2) n = jLS n2 F1 F2 n := by
  unfold jLS
  rw [← jSm_rows hn hr (fun x => if jCt n2 F2 x = 0 then 1 else 0)]
  exact jSm_congr n (fun i _ => by rw [jCt_rows hn2 hs])
theorem jPa_rows (hn : n ≤ 400) (hn2 : n2 ≤ 400) (hr : ∀ k, k < n → gk k = F1 k) (hs : ∀ k, k < n2 → hk k = F2 k) (G : Nat → Nat) (Q : Int32 → Bool) : jPa G n2 F2 Q F1 n = jSm (fun i => if Q (jK gk n i) = true then G (jCt n2 (jK hk n2) (jK gk n i)) else 0) n := by
  unfold jPa
  rw [← jSm_rows hn hr (fun x => if Q x = true then G (jCt n2 F2 x) else 0)]
  exact jSm_congr n (fun i _ => by rw [jCt_rows hn2 hs])
theorem jSm_all {Q : Nat → Bool} {g : Nat → Nat} (h : ∀ i, Q i = true) (n : Nat) : jSm (fun i => if Q i = true then g i else 0) n = jSm g n := jSm_congr n (fun i _ => if_pos (h i))
theorem jQ_all (x : Int32) : jQ true 3000000000 x = true := by
  have h1 : x.toInt < 2147483648 := Int32.toInt_lt x
  have h : x.toInt64 < 3000000000 := by
    rw [Int64.lt_iff_toInt_lt, Int32.toInt_toInt64, show (3000000000 : Int64).toInt = 3000000000 by decide]
    omega
  unfold jQ
  rw [decide_eq_true h]
  rfl
variable {gp gl gf hp hl_ hf_ : Nat → Int32} {kd : Int32}
theorem jcnt_eq (hn : n ≤ 400) (hn2 : n2 ≤ 400) (hr : ∀ k, k < n → gk k = F1 k) (hs : ∀ k, k < n2 → hk k = F2 k) (h1 : jPt n n2 (jK gk n) (jK hk n2) gp gl gf) (h2 : jPt n2 n (jK hk n2) (jK gk n) hp hl_ hf_) : (jpb n n2 gp gl hl_ (nI n) (nI n2) kd).toInt64 = lN (0 + jPa (jG1 kd) n2 F2 (jQ true 3000000000) F1 n + jPa (jG2 kd) n F1 (jQ true 3000000000) F2 n2) := by
  rw [jpb_nat hn hn2 h1 h2 (Nat.le_refl _) (Nat.le_refl _), nI_l (by have := jPb_lt (K1 := jK gk n) (K2 := jK hk n2) (kd := kd) hn hn2 hn hn2; omega), jPa_rows hn hn2 hr hs, jPa_rows hn2 hn hs hr, jSm_all (fun i => jQ_all _), jSm_all (fun i => jQ_all _), Nat.zero_add]
  rfl
theorem jrow_0 (hn : n ≤ 400) (hn2 : n2 ≤ 400) (hr : ∀ k, k < n → gk k = F1 k) (hs : ∀ k, k < n2 → hk k = F2 k) (h1 : jPt n n2 (jK gk n) (jK hk n2) gp gl gf) : jsum n gl (nI n) = nI (jLS n2 F1 F2 n) := by
  rw [jsum_at (Nat.le_refl _) hn, h1.2.1 n (Nat.le_refl _), jLS_rows hn hn2 hr hs]
theorem jrow_1 (hn : n ≤ 400) (hn2 : n2 ≤ 400) (hr : ∀ k, k < n → gk k = F1 k) (hs : ∀ k, k < n2 → hk k = F2 k) (h1 : jPt n n2 (jK gk n) (jK hk n2) gp gl gf) : nI n - jsum n gl (nI n) = nI (n - jLS n2 F1 F2 n) := by
  rw [jrow_0 hn hn2 hr hs h1, pk_sub (jLS_le n)]
end JE
