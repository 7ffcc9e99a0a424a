section JH
variable {s : State} {args : Array Value} {H : Heap} {D : va_G} {cl : List vw_C} {tys : List (ClassId × FieldType)} {cL cQ : ClassId} {w wc : va_W} {As : List Value} {A : Nat → Prop}
/-- the start of one of the law's own methods: as a method that writes, and what a throw rests on -/
def jh_P (D : va_G) (cl : List vw_C) (tys : List (ClassId × FieldType)) (cL cQ : ClassId) (av : List Value) (wc : va_W) (sz : Nat) : Array Value → State → Prop := va_Pc av (fun U => U.heap.size = sz ∧ va_P D cl wc U.heap ∧ va_K D cl tys U ∧ jN cL cQ U ∧ va_D (fun _ => True) wc ∧ jZ (fun _ => False) U U.heap)
theorem jh_blind {av : List Value} {sz : Nat} : FrameBlind (jh_P D cl tys cL cQ av wc sz) := fun a U g mk q => by
  obtain ⟨q0, q1, qP, qK, qN, qD, qZ⟩ := q
  exact ⟨q0, q1, qP, va_K.moved (u := U) (U := U.calling g mk a) (Vm.Alike.refl U.vm) qK, jN.same (s := U) rfl qN, qD, jZ.same (s := U) rfl qZ⟩
theorem jh_S (hK : va_K D cl tys s) (hN : jN cL cQ s) (hZ : jZ (fun _ => False) s H) (hP : va_P D cl w H) (hD : va_D A w) (is : List Nat) (hn : va_nd is = true) (hs : is.map (fun i => w[i]?) = wc.map some) : PreS s H (jh_P D cl tys cL cQ As wc H.size) As :=
  ⟨jh_blind, fun U hU hW => ⟨rfl, by rw [hU], by rw [hU]; exact hP.sub is (jw_fm hs), va_K.moved hW.alike hK, hN.warm hW, (hD.sub is hn hs).weaken (fun _ _ _ _ => trivial), by rw [hU]; exact hZ.warm hW⟩⟩
end JH
