/-! pure words of the general proof, second piece: groups, a grid's row, a turn less -/
/-- a group of the left table begins at the sorted place x -/
def jst (n : Nat) (fk fo fp : Nat → Int32) (x : Int32) : Bool := decide ((x = 0 ∨ jat n fk fo (x - 1) ≠ jat n fk fo x) ∧ ¬ jsum n fp (x + 1) ≤ jsum n fp x)
theorem jst_1 {n : Nat} {fk fo fp : Nat → Int32} {x : Int32} (h1 : x = 0 ∨ jat n fk fo (x - 1) ≠ jat n fk fo x) (h2 : ¬ jsum n fp (x + 1) ≤ jsum n fp x) : jst n fk fo fp x = true := decide_eq_true ⟨h1, h2⟩
theorem jst_0 {n : Nat} {fk fo fp : Nat → Int32} {x : Int32} (h : (¬ x = 0 ∧ jat n fk fo (x - 1) = jat n fk fo x) ∨ jsum n fp (x + 1) ≤ jsum n fp x) : jst n fk fo fp x = false := decide_eq_false fun g => h.elim (fun q => g.1.elim q.1 (fun z => z q.2)) g.2
/-- how many groups begin before the place i -/
def jgs (n : Nat) (fk fo fp : Nat → Int32) : Nat → Nat
  | 0 => 0
  | i + 1 => jgs n fk fo fp i + (if jst n fk fo fp (nI i) = true then 1 else 0)
theorem jgs_1 {n : Nat} {fk fo fp : Nat → Int32} {i z : Nat} (h : jst n fk fo fp (nI i) = true) (hz : z = jgs n fk fo fp i) : z + 1 = jgs n fk fo fp (i + 1) := by
  show _ = _ + (if _ then _ else _)
  rw [if_pos h, hz]
theorem jgs_0 {n : Nat} {fk fo fp : Nat → Int32} {i z : Nat} (h : jst n fk fo fp (nI i) = false) (hz : z = jgs n fk fo fp i) : z = jgs n fk fo fp (i + 1) := by
  show _ = _ + (if _ then _ else _)
  rw [if_neg (by rw [h]; decide)]
  exact hz
theorem jgs_le (n : Nat) (fk fo fp : Nat → Int32) : ∀ i, jgs n fk fo fp i ≤ i
  | 0 => Nat.le_refl _
  | i + 1 => by
    have := jgs_le n fk fo fp i
    show _ + (if _ then _ else _) ≤ _
    split <;> omega
theorem j_dec {t : Int32} (h : ¬ t ≤ 0) : (t + (-1)).toInt.toNat < t.toInt.toNat := by
  obtain ⟨j, hj, rfl⟩ := nI_of (x := t) (fun q => h (by rw [Int32.lt_iff_toInt_lt] at q; rw [Int32.le_iff_toInt_le]; omega))
  rcases j with _ | q
  · exact absurd (by decide) h
  · rw [pk_m1, nI_toInt (by omega), nI_toInt hj]
    omega
section JG
variable {p : Program} {l : Launch} {e : Env} {R : Room} {s : State} {m : MethodId} {args : Array Value} {below : List Frame} {meth : Method} {c : Code} {H : Heap} {locs : List Loc} {cells slots : Nat} {Q : State → Prop}
variable {cc : ByteArray} {pc : Nat} {ls : Array Slot} {rest : List Value} {D : va_G} {cl : List vw_C} {a : Nat} {tys : List (ClassId × FieldType)} {ws : va_W}
/-- a row of the grid -/
theorem jg_ald (hexec : p.tables.exec = Jvm.exec) (hb : c.code = cc) (hK : va_K D cl tys s) (hP : va_P D cl ws H) (q0 t0 : Nat) {cA : ClassId} {k : Nat} (ha : ws[q0]? = some (a, .inl (cA, 5, .inr (.inr (.inr (.inr (fun j => if j < 5 then some (a + 1 + j) else none))))))) (ht : tys[t0]? = some (cA, .array .long)) {i : Int32} (hi : i.toNatClampNeg = k) (hin : vp_in i 5) (hdg : decode cc pc = .ok (.aaload, 1))
    (kk : W p l e R s m args below meth c H locs cells slots Q (F0 m (pc + 1) ls (.ref (a + (k + 1)) :: rest))) : W p l e R s m args below meth c H locs cells slots Q (F0 m pc ls (.int i :: .ref a :: rest)) := by
  have hlt : i.toNatClampNeg < 5 := Nat.not_le.mp fun q => hin (Or.inr q)
  have hv : va_rf (if i.toNatClampNeg < 5 then some (a + 1 + i.toNatClampNeg) else none) = .ref (a + (k + 1)) := by
    rw [if_pos hlt, hi]
    exact congrArg Value.ref (show a + 1 + k = a + (k + 1) by omega)
  rw [← hv] at kk
  exact W.aald (v := va_rf (if i.toNatClampNeg < 5 then some (a + 1 + i.toNatClampNeg) else none)) (ty := .array .long) hexec hb (hP q0 _ ha) ((hK.2 t0 _ ht).1 5 (fun j => va_rf (if j < 5 then some (a + 1 + j) else none))) rfl (fun q => by cases q) (by show ¬ (i < 0 ∨ (arrV _ _ _).slots.size ≤ _); rw [arrV_size]; exact hin) (by show (arrV _ _ _).slots[_]? = _; rw [arrV_read _ _ hlt]) rfl rfl hdg kk
end JG
/-- pairs of a kind before two sorted places -/
def jpb (n n2 : Nat) (fp fl gl : Nat → Int32) (x y kd : Int32) : Int32 := (if kd &&& 1 = 0 then jsum n fp x else jsum n fp x + jsum n fl x) + (if kd &&& 2 = 0 then 0 else jsum n2 gl y)
section JP
variable {n n2 : Nat} {fp fl gl : Nat → Int32} {x y kd : Int32}
theorem jpb_a (h1 : kd &&& 1 = 0) (h2 : kd &&& 2 = 0) : jsum n fp x = jpb n n2 fp fl gl x y kd := by unfold jpb; rw [if_pos h1, if_pos h2, Int32.add_zero]
theorem jpb_b (h1 : kd &&& 1 = 0) (h2 : ¬ kd &&& 2 = 0) : jsum n fp x + jsum n2 gl y = jpb n n2 fp fl gl x y kd := by unfold jpb; rw [if_pos h1, if_neg h2]
theorem jpb_c (h1 : ¬ kd &&& 1 = 0) (h2 : kd &&& 2 = 0) : jsum n fp x + jsum n fl x = jpb n n2 fp fl gl x y kd := by unfold jpb; rw [if_neg h1, if_pos h2, Int32.add_zero]
theorem jpb_d (h1 : ¬ kd &&& 1 = 0) (h2 : ¬ kd &&& 2 = 0) : jsum n fp x + jsum n fl x + jsum n2 gl y = jpb n n2 fp fl gl x y kd := by unfold jpb; rw [if_neg h1, if_neg h2]
end JP
