/-! pure words of the general proof, fifth piece: one side's part of the reference's arrays -/
def jsh (b : Nat) (f : Nat → Int32) : Nat → Int32 := fun x => f (b + x)
theorem jsh_upd {b k : Nat} {f : Nat → Int32} {v : Int32} : jsh b (upd f (b + k) v) = upd (jsh b f) k v := by
  funext x
  show (if b + x = b + k then v else f (b + x)) = if x = k then v else f (b + x)
  by_cases h : x = k
  · rw [if_pos h, if_pos (by omega)]
  · rw [if_neg h, if_neg (by omega)]
/-- what the reference's key(side, i) reads -/
def jmk (b : Nat) (f m5 : Nat → Int32) (i : Nat) : Int32 := f (nI b + m5 (nI (b + i)).toNatClampNeg).toNatClampNeg
theorem jmk_sh {b i : Nat} {f m5 : Nat → Int32} (h5 : jo5 m5) (hb : b ≤ 400) (hi : b + i < 800) : jmk b f m5 i = jsh b f (jsh b m5 i).toNatClampNeg := by
  obtain ⟨k, hk, e⟩ := h5 (b + i) hi
  unfold jmk jsh
  rw [nI_clamp (by omega), e, nI_add, nI_clamp (by omega), nI_clamp (by omega)]
