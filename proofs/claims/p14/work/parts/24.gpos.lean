set_option maxHeartbeats 1000000 in
set_option maxRecDepth 100000 in
theorem gP_copy (l : Launch) (D : va_G) (cI cL cQ : ClassId) (h0 : Nat) (o0 : Nat) (p0 : Int32) (p1 : Int32) (p2 : Int32) (p3 : Int32) (p4 : Int32) (p5 : Int32) (p6 : Int32) (q0 : Int32) (q1 : Int32) (q2 : Int32) (q3 : Int32) (q4 : Int32) (q5 : Int32) (q6 : Int32) (sz : Nat) : Met l yX2_copy wsX2_copy ({ frames := 0, cells := 0, slots := 0, locals := 0 }) (jw_P D vwCl (jT cI cL cQ) cL cQ [.ref h0, .ref o0] [(h0, .inr (2, [.int p0, .int p1, .int p2, .int p3, .int p4, .int p5, .int p6])), (o0, .inr (2, [.int q0, .int q1, .int q2, .int q3, .int q4, .int q5, .int q6]))] sz) (va_Qv (fun u : va_W => u = [(h0, .inr (2, [.int q0, .int q1, .int q2, .int q3, .int q4, .int q5, .int q6])), (o0, .inr (2, [.int q0, .int q1, .int q2, .int q3, .int q4, .int q5, .int q6]))]) (jw_B D vwCl (va_A [(h0, .inr (2, [.int p0, .int p1, .int p2, .int p3, .int p4, .int p5, .int p6])), (o0, .inr (2, [.int q0, .int q1, .int q2, .int q3, .int q4, .int q5, .int q6]))] sz) (fun u : va_W => u)) (va_A [(h0, .inr (2, [.int p0, .int p1, .int p2, .int p3, .int p4, .int p5, .int p6])), (o0, .inr (2, [.int q0, .int q1, .int q2, .int q3, .int q4, .int q5, .int q6]))] sz)) 0 0 (va_A [(h0, .inr (2, [.int p0, .int p1, .int p2, .int p3, .int p4, .int p5, .int p6])), (o0, .inr (2, [.int q0, .int q1, .int q2, .int q3, .int q4, .int q5, .int q6]))] sz) := by
  refine Met.ofW (cc := cX2_copy) (maxL := 2) (ret := none) (by decide) rfl ?_
  intro p e s m args below meth c s₁ B hml hv
  obtain ⟨rfl, hsz, hP, hK, hN, hD0⟩ := hv
  have hx := B.exec
  have hb := B.bytes
  have hr := B.returns
  have hts := atoms_spec (ws := wsX2_copy) B.pre
  have hown : s.vm.findClass RX2 = some m.cls := findClass_of_methodNamed B.named
  have hlocks := B.notSynchronized
  subst hsz
  have hD := hD0.self (sz := s.heap.size)
  generalize hAe : va_A [(h0, .inr (2, [.int p0, .int p1, .int p2, .int p3, .int p4, .int p5, .int p6])), (o0, .inr (2, [.int q0, .int q1, .int q2, .int q3, .int q4, .int q5, .int q6]))] s.heap.size = A at hD ⊢
  have hA : ∀ q : Nat, s.heap.size ≤ q → A q := fun q h => by rw [← hAe]; exact Or.inr h
  have hS : va_S A s.heap s.heap [] := va_S.rf
  have hl := lv_entry ([.ref h0, .ref o0]) (n := 2) (Nat.le_of_ble_eq_true rfl)
  rw [lg_entry_eq]
  generalize (lg_sl ([.ref h0, .ref o0]) ++ List.replicate (2 - (lg_sl ([.ref h0, .ref o0])).length) Slot.unset).toArray = ls at hl ⊢
  have hl : lv_has ls 2 [(0, .ref h0), (1, .ref o0)] := hl
  refine lv_aload_n hx hb dX2_copy_0 rfl (lv_at hl 0 rfl) ?_
  refine lv_aload_n hx hb dX2_copy_1 rfl (lv_at hl 1 rfl) ?_
  refine va_get (D := D) (ci := 2) (v := .int q0) (C := RX2) (T := TX2) (N := 7) hx hb hts (by decide +kernel) hown hK hP 1 rfl rfl 0 (by decide) (hts (.fieldLink RX2 18 "JoinDesk$Position" "leftFrom" "I") (by decide +kernel)) (fun _ h9 => h9) rfl dX2_copy_2 ?_
  refine va_put (D := D) (ci := 2) (v := .int q0) (ty := .int) (C := RX2) (T := TX2) (N := 7) hx hb hts (by decide +kernel) tyX2 tyX2_ok nmX2 hown hK hP hD hS 0 rfl rfl 0 (by decide) (hts (.fieldLink RX2 18 "JoinDesk$Position" "leftFrom" "I") (by decide +kernel)) (fun _ h9 => h9) rfl (by decide +kernel) rfl rfl (Nat.le_of_ble_eq_true rfl) dX2_copy_5 (fun H locs hP hD hS => ?_)
  have hP : va_P D vwCl [(h0, .inr (2, [.int q0, .int p1, .int p2, .int p3, .int p4, .int p5, .int p6])), (o0, .inr (2, [.int q0, .int q1, .int q2, .int q3, .int q4, .int q5, .int q6]))] H := hP
  have hD : va_D A [(h0, .inr (2, [.int q0, .int p1, .int p2, .int p3, .int p4, .int p5, .int p6])), (o0, .inr (2, [.int q0, .int q1, .int q2, .int q3, .int q4, .int q5, .int q6]))] := hD
  refine lv_aload_n hx hb dX2_copy_8 rfl (lv_at hl 0 rfl) ?_
  refine lv_aload_n hx hb dX2_copy_9 rfl (lv_at hl 1 rfl) ?_
  refine va_get (D := D) (ci := 2) (v := .int q1) (C := RX2) (T := TX2) (N := 7) hx hb hts (by decide +kernel) hown hK hP 1 rfl rfl 1 (by decide) (hts (.fieldLink RX2 21 "JoinDesk$Position" "leftTo" "I") (by decide +kernel)) (fun _ h9 => h9) rfl dX2_copy_10 ?_
  refine va_put (D := D) (ci := 2) (v := .int q1) (ty := .int) (C := RX2) (T := TX2) (N := 7) hx hb hts (by decide +kernel) tyX2 tyX2_ok nmX2 hown hK hP hD hS 0 rfl rfl 1 (by decide) (hts (.fieldLink RX2 21 "JoinDesk$Position" "leftTo" "I") (by decide +kernel)) (fun _ h9 => h9) rfl (by decide +kernel) rfl rfl (Nat.le_of_ble_eq_true rfl) dX2_copy_13 (fun H locs hP hD hS => ?_)
  have hP : va_P D vwCl [(h0, .inr (2, [.int q0, .int q1, .int p2, .int p3, .int p4, .int p5, .int p6])), (o0, .inr (2, [.int q0, .int q1, .int q2, .int q3, .int q4, .int q5, .int q6]))] H := hP
  have hD : va_D A [(h0, .inr (2, [.int q0, .int q1, .int p2, .int p3, .int p4, .int p5, .int p6])), (o0, .inr (2, [.int q0, .int q1, .int q2, .int q3, .int q4, .int q5, .int q6]))] := hD
  refine lv_aload_n hx hb dX2_copy_16 rfl (lv_at hl 0 rfl) ?_
  refine lv_aload_n hx hb dX2_copy_17 rfl (lv_at hl 1 rfl) ?_
  refine va_get (D := D) (ci := 2) (v := .int q2) (C := RX2) (T := TX2) (N := 7) hx hb hts (by decide +kernel) hown hK hP 1 rfl rfl 2 (by decide) (hts (.fieldLink RX2 24 "JoinDesk$Position" "rightFrom" "I") (by decide +kernel)) (fun _ h9 => h9) rfl dX2_copy_18 ?_
  refine va_put (D := D) (ci := 2) (v := .int q2) (ty := .int) (C := RX2) (T := TX2) (N := 7) hx hb hts (by decide +kernel) tyX2 tyX2_ok nmX2 hown hK hP hD hS 0 rfl rfl 2 (by decide) (hts (.fieldLink RX2 24 "JoinDesk$Position" "rightFrom" "I") (by decide +kernel)) (fun _ h9 => h9) rfl (by decide +kernel) rfl rfl (Nat.le_of_ble_eq_true rfl) dX2_copy_21 (fun H locs hP hD hS => ?_)
  have hP : va_P D vwCl [(h0, .inr (2, [.int q0, .int q1, .int q2, .int p3, .int p4, .int p5, .int p6])), (o0, .inr (2, [.int q0, .int q1, .int q2, .int q3, .int q4, .int q5, .int q6]))] H := hP
  have hD : va_D A [(h0, .inr (2, [.int q0, .int q1, .int q2, .int p3, .int p4, .int p5, .int p6])), (o0, .inr (2, [.int q0, .int q1, .int q2, .int q3, .int q4, .int q5, .int q6]))] := hD
  refine lv_aload_n hx hb dX2_copy_24 rfl (lv_at hl 0 rfl) ?_
  refine lv_aload_n hx hb dX2_copy_25 rfl (lv_at hl 1 rfl) ?_
  refine va_get (D := D) (ci := 2) (v := .int q3) (C := RX2) (T := TX2) (N := 7) hx hb hts (by decide +kernel) hown hK hP 1 rfl rfl 3 (by decide) (hts (.fieldLink RX2 27 "JoinDesk$Position" "rightTo" "I") (by decide +kernel)) (fun _ h9 => h9) rfl dX2_copy_26 ?_
  refine va_put (D := D) (ci := 2) (v := .int q3) (ty := .int) (C := RX2) (T := TX2) (N := 7) hx hb hts (by decide +kernel) tyX2 tyX2_ok nmX2 hown hK hP hD hS 0 rfl rfl 3 (by decide) (hts (.fieldLink RX2 27 "JoinDesk$Position" "rightTo" "I") (by decide +kernel)) (fun _ h9 => h9) rfl (by decide +kernel) rfl rfl (Nat.le_of_ble_eq_true rfl) dX2_copy_29 (fun H locs hP hD hS => ?_)
  have hP : va_P D vwCl [(h0, .inr (2, [.int q0, .int q1, .int q2, .int q3, .int p4, .int p5, .int p6])), (o0, .inr (2, [.int q0, .int q1, .int q2, .int q3, .int q4, .int q5, .int q6]))] H := hP
  have hD : va_D A [(h0, .inr (2, [.int q0, .int q1, .int q2, .int q3, .int p4, .int p5, .int p6])), (o0, .inr (2, [.int q0, .int q1, .int q2, .int q3, .int q4, .int q5, .int q6]))] := hD
  refine lv_aload_n hx hb dX2_copy_32 rfl (lv_at hl 0 rfl) ?_
  refine lv_aload_n hx hb dX2_copy_33 rfl (lv_at hl 1 rfl) ?_
  refine va_get (D := D) (ci := 2) (v := .int q4) (C := RX2) (T := TX2) (N := 7) hx hb hts (by decide +kernel) hown hK hP 1 rfl rfl 4 (by decide) (hts (.fieldLink RX2 9 "JoinDesk$Position" "leftAt" "I") (by decide +kernel)) (fun _ h9 => h9) rfl dX2_copy_34 ?_
  refine va_put (D := D) (ci := 2) (v := .int q4) (ty := .int) (C := RX2) (T := TX2) (N := 7) hx hb hts (by decide +kernel) tyX2 tyX2_ok nmX2 hown hK hP hD hS 0 rfl rfl 4 (by decide) (hts (.fieldLink RX2 9 "JoinDesk$Position" "leftAt" "I") (by decide +kernel)) (fun _ h9 => h9) rfl (by decide +kernel) rfl rfl (Nat.le_of_ble_eq_true rfl) dX2_copy_37 (fun H locs hP hD hS => ?_)
  have hP : va_P D vwCl [(h0, .inr (2, [.int q0, .int q1, .int q2, .int q3, .int q4, .int p5, .int p6])), (o0, .inr (2, [.int q0, .int q1, .int q2, .int q3, .int q4, .int q5, .int q6]))] H := hP
  have hD : va_D A [(h0, .inr (2, [.int q0, .int q1, .int q2, .int q3, .int q4, .int p5, .int p6])), (o0, .inr (2, [.int q0, .int q1, .int q2, .int q3, .int q4, .int q5, .int q6]))] := hD
  refine lv_aload_n hx hb dX2_copy_40 rfl (lv_at hl 0 rfl) ?_
  refine lv_aload_n hx hb dX2_copy_41 rfl (lv_at hl 1 rfl) ?_
  refine va_get (D := D) (ci := 2) (v := .int q5) (C := RX2) (T := TX2) (N := 7) hx hb hts (by decide +kernel) hown hK hP 1 rfl rfl 5 (by decide) (hts (.fieldLink RX2 15 "JoinDesk$Position" "rightAt" "I") (by decide +kernel)) (fun _ h9 => h9) rfl dX2_copy_42 ?_
  refine va_put (D := D) (ci := 2) (v := .int q5) (ty := .int) (C := RX2) (T := TX2) (N := 7) hx hb hts (by decide +kernel) tyX2 tyX2_ok nmX2 hown hK hP hD hS 0 rfl rfl 5 (by decide) (hts (.fieldLink RX2 15 "JoinDesk$Position" "rightAt" "I") (by decide +kernel)) (fun _ h9 => h9) rfl (by decide +kernel) rfl rfl (Nat.le_of_ble_eq_true rfl) dX2_copy_45 (fun H locs hP hD hS => ?_)
  have hP : va_P D vwCl [(h0, .inr (2, [.int q0, .int q1, .int q2, .int q3, .int q4, .int q5, .int p6])), (o0, .inr (2, [.int q0, .int q1, .int q2, .int q3, .int q4, .int q5, .int q6]))] H := hP
  have hD : va_D A [(h0, .inr (2, [.int q0, .int q1, .int q2, .int q3, .int q4, .int q5, .int p6])), (o0, .inr (2, [.int q0, .int q1, .int q2, .int q3, .int q4, .int q5, .int q6]))] := hD
  refine lv_aload_n hx hb dX2_copy_48 rfl (lv_at hl 0 rfl) ?_
  refine lv_aload_n hx hb dX2_copy_49 rfl (lv_at hl 1 rfl) ?_
  refine va_get (D := D) (ci := 2) (v := .int q6) (C := RX2) (T := TX2) (N := 7) hx hb hts (by decide +kernel) hown hK hP 1 rfl rfl 6 (by decide) (hts (.fieldLink RX2 30 "JoinDesk$Position" "passed" "I") (by decide +kernel)) (fun _ h9 => h9) rfl dX2_copy_50 ?_
  refine va_put (D := D) (ci := 2) (v := .int q6) (ty := .int) (C := RX2) (T := TX2) (N := 7) hx hb hts (by decide +kernel) tyX2 tyX2_ok nmX2 hown hK hP hD hS 0 rfl rfl 6 (by decide) (hts (.fieldLink RX2 30 "JoinDesk$Position" "passed" "I") (by decide +kernel)) (fun _ h9 => h9) rfl (by decide +kernel) rfl rfl (Nat.le_of_ble_eq_true rfl) dX2_copy_53 (fun H locs hP hD hS => ?_)
  have hP : va_P D vwCl [(h0, .inr (2, [.int q0, .int q1, .int q2, .int q3, .int q4, .int q5, .int q6])), (o0, .inr (2, [.int q0, .int q1, .int q2, .int q3, .int q4, .int q5, .int q6]))] H := hP
  have hD : va_D A [(h0, .inr (2, [.int q0, .int q1, .int q2, .int q3, .int q4, .int q5, .int q6])), (o0, .inr (2, [.int q0, .int q1, .int q2, .int q3, .int q4, .int q5, .int q6]))] := hD
  refine W.widen (k := 0) (n := 0) (by omega) (by omega) ?_
  exact W.vret hx hb hr (fun t ht hW => ⟨⟨[(h0, .inr (2, [.int q0, .int q1, .int q2, .int q3, .int q4, .int q5, .int q6])), (o0, .inr (2, [.int q0, .int q1, .int q2, .int q3, .int q4, .int q5, .int q6]))], rfl, (by exact rfl), by rw [ht]; exact hP, hD⟩, hS.F ht⟩) hS.2.2 dX2_copy_56
set_option maxHeartbeats 1000000 in
set_option maxRecDepth 100000 in
theorem gP_stand (l : Launch) (D : va_G) (cI cL cQ : ClassId) (h0 : Nat) (p0 : Int32) (p1 : Int32) (p2 : Int32) (p3 : Int32) (p4 : Int32) (p5 : Int32) (p6 : Int32) (x : Int32) (y : Int32) (z : Int32) (sz : Nat) : Met l yX2_stand wsX2_stand ({ frames := 0, cells := 0, slots := 0, locals := 0 }) (jw_P D vwCl (jT cI cL cQ) cL cQ [.ref h0, .int x, .int y, .int z] [(h0, .inr (2, [.int p0, .int p1, .int p2, .int p3, .int p4, .int p5, .int p6]))] sz) (va_Qv (fun u : va_W => u = [(h0, .inr (2, [.int x, .int x, .int y, .int y, .int (-1), .int (-1), .int z]))]) (jw_B D vwCl (va_A [(h0, .inr (2, [.int p0, .int p1, .int p2, .int p3, .int p4, .int p5, .int p6]))] sz) (fun u : va_W => u)) (va_A [(h0, .inr (2, [.int p0, .int p1, .int p2, .int p3, .int p4, .int p5, .int p6]))] sz)) 0 0 (va_A [(h0, .inr (2, [.int p0, .int p1, .int p2, .int p3, .int p4, .int p5, .int p6]))] sz) := by
  refine Met.ofW (cc := cX2_stand) (maxL := 4) (ret := none) (by decide) rfl ?_
  intro p e s m args below meth c s₁ B hml hv
  obtain ⟨rfl, hsz, hP, hK, hN, hD0⟩ := hv
  have hx := B.exec
  have hb := B.bytes
  have hr := B.returns
  have hts := atoms_spec (ws := wsX2_stand) B.pre
  have hown : s.vm.findClass RX2 = some m.cls := findClass_of_methodNamed B.named
  have hlocks := B.notSynchronized
  subst hsz
  have hD := hD0.self (sz := s.heap.size)
  generalize hAe : va_A [(h0, .inr (2, [.int p0, .int p1, .int p2, .int p3, .int p4, .int p5, .int p6]))] s.heap.size = A at hD ⊢
  have hA : ∀ q : Nat, s.heap.size ≤ q → A q := fun q h => by rw [← hAe]; exact Or.inr h
  have hS : va_S A s.heap s.heap [] := va_S.rf
  have hl := lv_entry ([.ref h0, .int x, .int y, .int z]) (n := 4) (Nat.le_of_ble_eq_true rfl)
  rw [lg_entry_eq]
  generalize (lg_sl ([.ref h0, .int x, .int y, .int z]) ++ List.replicate (4 - (lg_sl ([.ref h0, .int x, .int y, .int z])).length) Slot.unset).toArray = ls at hl ⊢
  have hl : lv_has ls 4 [(0, .ref h0), (1, .int x), (2, .int y), (3, .int z)] := hl
  refine lv_aload_n hx hb dX2_stand_0 rfl (lv_at hl 0 rfl) ?_
  refine lv_iload_n hx hb dX2_stand_1 rfl (lv_at hl 1 rfl) ?_
  refine va_put (D := D) (ci := 2) (v := .int x) (ty := .int) (C := RX2) (T := TX2) (N := 7) hx hb hts (by decide +kernel) tyX2 tyX2_ok nmX2 hown hK hP hD hS 0 rfl rfl 0 (by decide) (hts (.fieldLink RX2 18 "JoinDesk$Position" "leftFrom" "I") (by decide +kernel)) (fun _ h9 => h9) rfl (by decide +kernel) rfl rfl (Nat.le_of_ble_eq_true rfl) dX2_stand_2 (fun H locs hP hD hS => ?_)
  have hP : va_P D vwCl [(h0, .inr (2, [.int x, .int p1, .int p2, .int p3, .int p4, .int p5, .int p6]))] H := hP
  have hD : va_D A [(h0, .inr (2, [.int x, .int p1, .int p2, .int p3, .int p4, .int p5, .int p6]))] := hD
  refine lv_aload_n hx hb dX2_stand_5 rfl (lv_at hl 0 rfl) ?_
  refine lv_iload_n hx hb dX2_stand_6 rfl (lv_at hl 1 rfl) ?_
  refine va_put (D := D) (ci := 2) (v := .int x) (ty := .int) (C := RX2) (T := TX2) (N := 7) hx hb hts (by decide +kernel) tyX2 tyX2_ok nmX2 hown hK hP hD hS 0 rfl rfl 1 (by decide) (hts (.fieldLink RX2 21 "JoinDesk$Position" "leftTo" "I") (by decide +kernel)) (fun _ h9 => h9) rfl (by decide +kernel) rfl rfl (Nat.le_of_ble_eq_true rfl) dX2_stand_7 (fun H locs hP hD hS => ?_)
  have hP : va_P D vwCl [(h0, .inr (2, [.int x, .int x, .int p2, .int p3, .int p4, .int p5, .int p6]))] H := hP
  have hD : va_D A [(h0, .inr (2, [.int x, .int x, .int p2, .int p3, .int p4, .int p5, .int p6]))] := hD
  refine lv_aload_n hx hb dX2_stand_10 rfl (lv_at hl 0 rfl) ?_
  refine lv_iload_n hx hb dX2_stand_11 rfl (lv_at hl 2 rfl) ?_
  refine va_put (D := D) (ci := 2) (v := .int y) (ty := .int) (C := RX2) (T := TX2) (N := 7) hx hb hts (by decide +kernel) tyX2 tyX2_ok nmX2 hown hK hP hD hS 0 rfl rfl 2 (by decide) (hts (.fieldLink RX2 24 "JoinDesk$Position" "rightFrom" "I") (by decide +kernel)) (fun _ h9 => h9) rfl (by decide +kernel) rfl rfl (Nat.le_of_ble_eq_true rfl) dX2_stand_12 (fun H locs hP hD hS => ?_)
  have hP : va_P D vwCl [(h0, .inr (2, [.int x, .int x, .int y, .int p3, .int p4, .int p5, .int p6]))] H := hP
  have hD : va_D A [(h0, .inr (2, [.int x, .int x, .int y, .int p3, .int p4, .int p5, .int p6]))] := hD
  refine lv_aload_n hx hb dX2_stand_15 rfl (lv_at hl 0 rfl) ?_
  refine lv_iload_n hx hb dX2_stand_16 rfl (lv_at hl 2 rfl) ?_
  refine va_put (D := D) (ci := 2) (v := .int y) (ty := .int) (C := RX2) (T := TX2) (N := 7) hx hb hts (by decide +kernel) tyX2 tyX2_ok nmX2 hown hK hP hD hS 0 rfl rfl 3 (by decide) (hts (.fieldLink RX2 27 "JoinDesk$Position" "rightTo" "I") (by decide +kernel)) (fun _ h9 => h9) rfl (by decide +kernel) rfl rfl (Nat.le_of_ble_eq_true rfl) dX2_stand_17 (fun H locs hP hD hS => ?_)
  have hP : va_P D vwCl [(h0, .inr (2, [.int x, .int x, .int y, .int y, .int p4, .int p5, .int p6]))] H := hP
  have hD : va_D A [(h0, .inr (2, [.int x, .int x, .int y, .int y, .int p4, .int p5, .int p6]))] := hD
  refine lv_aload_n hx hb dX2_stand_20 rfl (lv_at hl 0 rfl) ?_
  refine lv_iconst (v := (-1)) hx hb dX2_stand_21 (by decide) ?_
  refine va_put (D := D) (ci := 2) (v := .int (-1)) (ty := .int) (C := RX2) (T := TX2) (N := 7) hx hb hts (by decide +kernel) tyX2 tyX2_ok nmX2 hown hK hP hD hS 0 rfl rfl 4 (by decide) (hts (.fieldLink RX2 9 "JoinDesk$Position" "leftAt" "I") (by decide +kernel)) (fun _ h9 => h9) rfl (by decide +kernel) rfl rfl (Nat.le_of_ble_eq_true rfl) dX2_stand_22 (fun H locs hP hD hS => ?_)
  have hP : va_P D vwCl [(h0, .inr (2, [.int x, .int x, .int y, .int y, .int (-1), .int p5, .int p6]))] H := hP
  have hD : va_D A [(h0, .inr (2, [.int x, .int x, .int y, .int y, .int (-1), .int p5, .int p6]))] := hD
  refine lv_aload_n hx hb dX2_stand_25 rfl (lv_at hl 0 rfl) ?_
  refine lv_iconst (v := (-1)) hx hb dX2_stand_26 (by decide) ?_
  refine va_put (D := D) (ci := 2) (v := .int (-1)) (ty := .int) (C := RX2) (T := TX2) (N := 7) hx hb hts (by decide +kernel) tyX2 tyX2_ok nmX2 hown hK hP hD hS 0 rfl rfl 5 (by decide) (hts (.fieldLink RX2 15 "JoinDesk$Position" "rightAt" "I") (by decide +kernel)) (fun _ h9 => h9) rfl (by decide +kernel) rfl rfl (Nat.le_of_ble_eq_true rfl) dX2_stand_27 (fun H locs hP hD hS => ?_)
  have hP : va_P D vwCl [(h0, .inr (2, [.int x, .int x, .int y, .int y, .int (-1), .int (-1), .int p6]))] H := hP
  have hD : va_D A [(h0, .inr (2, [.int x, .int x, .int y, .int y, .int (-1), .int (-1), .int p6]))] := hD
  refine lv_aload_n hx hb dX2_stand_30 rfl (lv_at hl 0 rfl) ?_
  refine lv_iload_n hx hb dX2_stand_31 rfl (lv_at hl 3 rfl) ?_
  refine va_put (D := D) (ci := 2) (v := .int z) (ty := .int) (C := RX2) (T := TX2) (N := 7) hx hb hts (by decide +kernel) tyX2 tyX2_ok nmX2 hown hK hP hD hS 0 rfl rfl 6 (by decide) (hts (.fieldLink RX2 30 "JoinDesk$Position" "passed" "I") (by decide +kernel)) (fun _ h9 => h9) rfl (by decide +kernel) rfl rfl (Nat.le_of_ble_eq_true rfl) dX2_stand_32 (fun H locs hP hD hS => ?_)
  have hP : va_P D vwCl [(h0, .inr (2, [.int x, .int x, .int y, .int y, .int (-1), .int (-1), .int z]))] H := hP
  have hD : va_D A [(h0, .inr (2, [.int x, .int x, .int y, .int y, .int (-1), .int (-1), .int z]))] := hD
  refine W.widen (k := 0) (n := 0) (by omega) (by omega) ?_
  exact W.vret hx hb hr (fun t ht hW => ⟨⟨[(h0, .inr (2, [.int x, .int x, .int y, .int y, .int (-1), .int (-1), .int z]))], rfl, (by exact rfl), by rw [ht]; exact hP, hD⟩, hS.F ht⟩) hS.2.2 dX2_stand_35
set_option maxHeartbeats 1000000 in
set_option maxRecDepth 100000 in
theorem gP_hasLeftRows (l : Launch) (D : va_G) (cI cL cQ : ClassId) (h0 : Nat) (p0 : Int32) (p1 : Int32) (p2 : Int32) (p3 : Int32) (p4 : Int32) (p5 : Int32) (p6 : Int32) : Met l yX2_hasLeftRows wsX2_hasLeftRows ({ frames := 0, cells := 0, slots := 0, locals := 0 }) (jr_P D vwCl (jT cI cL cQ) cL cQ [.ref h0] [(h0, .inr (2, [.int p0, .int p1, .int p2, .int p3, .int p4, .int p5, .int p6]))]) (vp_Si (fun r : Int32 => (r = 1 ∧ (¬ p1 ≤ p0)) ∨ (r = 0 ∧ (p1 ≤ p0)))) 0 0 (fun _ => False) := by
  refine Met.ofW (cc := cX2_hasLeftRows) (maxL := 1) (ret := (some .boolean)) (by decide) rfl ?_
  intro p e s m args below meth c s₁ B hml hv
  obtain ⟨rfl, hP, hK, hN⟩ := hv
  have hx := B.exec
  have hb := B.bytes
  have hr := B.returns
  have hts := atoms_spec (ws := wsX2_hasLeftRows) B.pre
  have hown : s.vm.findClass RX2 = some m.cls := findClass_of_methodNamed B.named
  have hlocks := B.notSynchronized
  have hl := lv_entry ([.ref h0]) (n := 1) (Nat.le_of_ble_eq_true rfl)
  rw [lg_entry_eq]
  generalize (lg_sl ([.ref h0]) ++ List.replicate (1 - (lg_sl ([.ref h0])).length) Slot.unset).toArray = ls at hl ⊢
  have hl : lv_has ls 1 [(0, .ref h0)] := hl
  refine lv_aload_n hx hb dX2_hasLeftRows_0 rfl (lv_at hl 0 rfl) ?_
  refine va_get (D := D) (ci := 2) (v := .int p0) (C := RX2) (T := TX2) (N := 7) hx hb hts (by decide +kernel) hown hK hP 0 rfl rfl 0 (by decide) (hts (.fieldLink RX2 18 "JoinDesk$Position" "leftFrom" "I") (by decide +kernel)) (fun _ h9 => h9) rfl dX2_hasLeftRows_1 ?_
  refine lv_aload_n hx hb dX2_hasLeftRows_4 rfl (lv_at hl 0 rfl) ?_
  refine va_get (D := D) (ci := 2) (v := .int p1) (C := RX2) (T := TX2) (N := 7) hx hb hts (by decide +kernel) hown hK hP 0 rfl rfl 1 (by decide) (hts (.fieldLink RX2 21 "JoinDesk$Position" "leftTo" "I") (by decide +kernel)) (fun _ h9 => h9) rfl dX2_hasLeftRows_5 ?_
  refine lv_icmp_ge (tgt := 15) hx hb dX2_hasLeftRows_8 (by decide) (fun c_1 => ?_) (fun c_1 => ?_)
  · refine lv_iconst (v := 0) hx hb dX2_hasLeftRows_15 (by decide) ?_
    exact W.zret (v := 0) (ty := .boolean) hx hb hr rfl (fun t ht hW => ⟨0, rfl, (by exact (Or.inr (⟨rfl, (by first | assumption | exact Or.inl (by assumption) | exact Or.inr (by assumption) | rfl | decide | omega)⟩))), ht⟩) (fun _ h => nomatch h) dX2_hasLeftRows_16
  · refine lv_iconst (v := 1) hx hb dX2_hasLeftRows_11 (by decide) ?_
    refine lv_goto (tgt := 16) hx hb dX2_hasLeftRows_12 (by decide) ?_
    exact W.zret (v := 1) (ty := .boolean) hx hb hr rfl (fun t ht hW => ⟨1, rfl, (by exact (Or.inl ⟨rfl, (by first | assumption | exact Or.inl (by assumption) | exact Or.inr (by assumption) | rfl | decide | omega)⟩)), ht⟩) (fun _ h => nomatch h) dX2_hasLeftRows_16
set_option maxHeartbeats 1000000 in
set_option maxRecDepth 100000 in
theorem gP_hasRightRows (l : Launch) (D : va_G) (cI cL cQ : ClassId) (h0 : Nat) (p0 : Int32) (p1 : Int32) (p2 : Int32) (p3 : Int32) (p4 : Int32) (p5 : Int32) (p6 : Int32) : Met l yX2_hasRightRows wsX2_hasRightRows ({ frames := 0, cells := 0, slots := 0, locals := 0 }) (jr_P D vwCl (jT cI cL cQ) cL cQ [.ref h0] [(h0, .inr (2, [.int p0, .int p1, .int p2, .int p3, .int p4, .int p5, .int p6]))]) (vp_Si (fun r : Int32 => (r = 1 ∧ (¬ p3 ≤ p2)) ∨ (r = 0 ∧ (p3 ≤ p2)))) 0 0 (fun _ => False) := by
  refine Met.ofW (cc := cX2_hasRightRows) (maxL := 1) (ret := (some .boolean)) (by decide) rfl ?_
  intro p e s m args below meth c s₁ B hml hv
  obtain ⟨rfl, hP, hK, hN⟩ := hv
  have hx := B.exec
  have hb := B.bytes
  have hr := B.returns
  have hts := atoms_spec (ws := wsX2_hasRightRows) B.pre
  have hown : s.vm.findClass RX2 = some m.cls := findClass_of_methodNamed B.named
  have hlocks := B.notSynchronized
  have hl := lv_entry ([.ref h0]) (n := 1) (Nat.le_of_ble_eq_true rfl)
  rw [lg_entry_eq]
  generalize (lg_sl ([.ref h0]) ++ List.replicate (1 - (lg_sl ([.ref h0])).length) Slot.unset).toArray = ls at hl ⊢
  have hl : lv_has ls 1 [(0, .ref h0)] := hl
  refine lv_aload_n hx hb dX2_hasRightRows_0 rfl (lv_at hl 0 rfl) ?_
  refine va_get (D := D) (ci := 2) (v := .int p2) (C := RX2) (T := TX2) (N := 7) hx hb hts (by decide +kernel) hown hK hP 0 rfl rfl 2 (by decide) (hts (.fieldLink RX2 24 "JoinDesk$Position" "rightFrom" "I") (by decide +kernel)) (fun _ h9 => h9) rfl dX2_hasRightRows_1 ?_
  refine lv_aload_n hx hb dX2_hasRightRows_4 rfl (lv_at hl 0 rfl) ?_
  refine va_get (D := D) (ci := 2) (v := .int p3) (C := RX2) (T := TX2) (N := 7) hx hb hts (by decide +kernel) hown hK hP 0 rfl rfl 3 (by decide) (hts (.fieldLink RX2 27 "JoinDesk$Position" "rightTo" "I") (by decide +kernel)) (fun _ h9 => h9) rfl dX2_hasRightRows_5 ?_
  refine lv_icmp_ge (tgt := 15) hx hb dX2_hasRightRows_8 (by decide) (fun c_1 => ?_) (fun c_1 => ?_)
  · refine lv_iconst (v := 0) hx hb dX2_hasRightRows_15 (by decide) ?_
    exact W.zret (v := 0) (ty := .boolean) hx hb hr rfl (fun t ht hW => ⟨0, rfl, (by exact (Or.inr (⟨rfl, (by first | assumption | exact Or.inl (by assumption) | exact Or.inr (by assumption) | rfl | decide | omega)⟩))), ht⟩) (fun _ h => nomatch h) dX2_hasRightRows_16
  · refine lv_iconst (v := 1) hx hb dX2_hasRightRows_11 (by decide) ?_
    refine lv_goto (tgt := 16) hx hb dX2_hasRightRows_12 (by decide) ?_
    exact W.zret (v := 1) (ty := .boolean) hx hb hr rfl (fun t ht hW => ⟨1, rfl, (by exact (Or.inl ⟨rfl, (by first | assumption | exact Or.inl (by assumption) | exact Or.inr (by assumption) | rfl | decide | omega)⟩)), ht⟩) (fun _ h => nomatch h) dX2_hasRightRows_16
set_option maxHeartbeats 1000000 in
set_option maxRecDepth 100000 in
theorem gP_fits (l : Launch) (D : va_G) (cI cL cQ : ClassId) (h0 : Nat) (p0 : Int32) (p1 : Int32) (p2 : Int32) (p3 : Int32) (p4 : Int32) (p5 : Int32) (p6 : Int32) (kd : Int32) : Met l yX2_fits wsX2_fits ({ frames := 1, cells := 0, slots := 0, locals := 20 }) (jr_P D vwCl (jT cI cL cQ) cL cQ [.ref h0, .int kd] [(h0, .inr (2, [.int p0, .int p1, .int p2, .int p3, .int p4, .int p5, .int p6]))]) (vp_Si (fun r : Int32 => (r = 1 ∧ (((p3 ≤ p2 ∧ ¬ kd &&& 1 = 0) ∨ (¬ p3 ≤ p2 ∧ (¬ p1 ≤ p0 ∨ ¬ kd &&& 2 = 0))))) ∨ (r = 0 ∧ (¬ ((p3 ≤ p2 ∧ ¬ kd &&& 1 = 0) ∨ (¬ p3 ≤ p2 ∧ (¬ p1 ≤ p0 ∨ ¬ kd &&& 2 = 0))))))) 0 0 (fun _ => False) := by
  refine Met.ofW (cc := cX2_fits) (maxL := 2) (ret := (some .boolean)) (by decide) rfl ?_
  intro p e s m args below meth c s₁ B hml hv
  obtain ⟨rfl, hP, hK, hN⟩ := hv
  have hx := B.exec
  have hb := B.bytes
  have hr := B.returns
  have hts := atoms_spec (ws := wsX2_fits) B.pre
  have hown : s.vm.findClass RX2 = some m.cls := findClass_of_methodNamed B.named
  have hlocks := B.notSynchronized
  have hl := lv_entry ([.ref h0, .int kd]) (n := 2) (Nat.le_of_ble_eq_true rfl)
  rw [lg_entry_eq]
  generalize (lg_sl ([.ref h0, .int kd]) ++ List.replicate (2 - (lg_sl ([.ref h0, .int kd])).length) Slot.unset).toArray = ls at hl ⊢
  have hl : lv_has ls 2 [(0, .ref h0), (1, .int kd)] := hl
  refine lv_aload_n hx hb dX2_fits_0 rfl (lv_at hl 0 rfl) ?_
  refine vp_callSi (va_Run.run (va_runV (As := []) (rest := []) ⟨hx, hb, hml, hown, hts⟩ (gP_hasRightRows l D cI cL cQ h0 p0 p1 p2 p3 p4 p5 p6) (cwV 0 hts gX2_fits_X2_hasRightRows rfl rfl rfl (by decide +kernel) ⟨Nat.le_of_ble_eq_true rfl, Nat.le_of_ble_eq_true rfl⟩) (jr_V hK hN hP [0] rfl 2 0 rfl rfl rfl) rfl rfl hl.1 rfl (lv_room (Nat.le_of_ble_eq_true rfl)) dX2_fits_1 ⟨Nat.le_of_ble_eq_true rfl, Nat.le_of_ble_eq_true rfl⟩)) (fun r f_1 => ?_)
  rcases f_1 with ⟨rfl, f_2⟩ | ⟨rfl, f_3⟩
  · refine lv_if_ne (tgt := 19) hx hb dX2_fits_4 (by decide) (fun c_4 => ?_) (fun c_4 => absurd c_4 (by decide))
    refine lv_aload_n hx hb dX2_fits_19 rfl (lv_at hl 0 rfl) ?_
    refine vp_callSi (va_Run.run (va_runV (As := []) (rest := []) ⟨hx, hb, hml, hown, hts⟩ (gP_hasLeftRows l D cI cL cQ h0 p0 p1 p2 p3 p4 p5 p6) (cwV 0 hts gX2_fits_X2_hasLeftRows rfl rfl rfl (by decide +kernel) ⟨Nat.le_of_ble_eq_true rfl, Nat.le_of_ble_eq_true rfl⟩) (jr_V hK hN hP [0] rfl 2 0 rfl rfl rfl) rfl rfl hl.1 rfl (lv_room (Nat.le_of_ble_eq_true rfl)) dX2_fits_20 ⟨Nat.le_of_ble_eq_true rfl, Nat.le_of_ble_eq_true rfl⟩)) (fun r f_5 => ?_)
    rcases f_5 with ⟨rfl, f_6⟩ | ⟨rfl, f_7⟩
    · refine lv_if_ne (tgt := 32) hx hb dX2_fits_23 (by decide) (fun c_8 => ?_) (fun c_8 => absurd c_8 (by decide))
      refine lv_iconst (v := 1) hx hb dX2_fits_32 (by decide) ?_
      refine lv_goto (tgt := 37) hx hb dX2_fits_33 (by decide) ?_
      exact W.zret (v := 1) (ty := .boolean) hx hb hr rfl (fun t ht hW => ⟨1, rfl, (by first | exact Or.inl ⟨rfl, Or.inl ⟨by assumption, by assumption⟩⟩ | exact Or.inl ⟨rfl, Or.inr ⟨by assumption, Or.inl (by assumption)⟩⟩ | exact Or.inl ⟨rfl, Or.inr ⟨by assumption, Or.inr (by assumption)⟩⟩ | exact Or.inr ⟨rfl, fun h => h.elim (fun q => q.2 (by assumption)) (fun q => q.1 (by assumption))⟩ | exact Or.inr ⟨rfl, fun h => h.elim (fun q => (show ¬ p3 ≤ p2 by assumption) q.1) (fun q => q.2.elim (fun z => z (by assumption)) (fun z => z (by assumption)))⟩), ht⟩) (fun _ h => nomatch h) dX2_fits_37
    · refine lv_if_ne (tgt := 32) hx hb dX2_fits_23 (by decide) (fun c_9 => absurd c_9 (by decide)) (fun c_9 => ?_)
      refine lv_iload_n hx hb dX2_fits_26 rfl (lv_at hl 1 rfl) ?_
      refine lv_iconst (v := 2) hx hb dX2_fits_27 (by decide) ?_
      refine lv_iand hx hb dX2_fits_28 ?_
      refine lv_if_eq (tgt := 36) hx hb dX2_fits_29 (by decide) (fun c_10 => ?_) (fun c_10 => ?_)
      · refine lv_iconst (v := 0) hx hb dX2_fits_36 (by decide) ?_
        exact W.zret (v := 0) (ty := .boolean) hx hb hr rfl (fun t ht hW => ⟨0, rfl, (by first | exact Or.inl ⟨rfl, Or.inl ⟨by assumption, by assumption⟩⟩ | exact Or.inl ⟨rfl, Or.inr ⟨by assumption, Or.inl (by assumption)⟩⟩ | exact Or.inl ⟨rfl, Or.inr ⟨by assumption, Or.inr (by assumption)⟩⟩ | exact Or.inr ⟨rfl, fun h => h.elim (fun q => q.2 (by assumption)) (fun q => q.1 (by assumption))⟩ | exact Or.inr ⟨rfl, fun h => h.elim (fun q => (show ¬ p3 ≤ p2 by assumption) q.1) (fun q => q.2.elim (fun z => z (by assumption)) (fun z => z (by assumption)))⟩), ht⟩) (fun _ h => nomatch h) dX2_fits_37
      · refine lv_iconst (v := 1) hx hb dX2_fits_32 (by decide) ?_
        refine lv_goto (tgt := 37) hx hb dX2_fits_33 (by decide) ?_
        exact W.zret (v := 1) (ty := .boolean) hx hb hr rfl (fun t ht hW => ⟨1, rfl, (by first | exact Or.inl ⟨rfl, Or.inl ⟨by assumption, by assumption⟩⟩ | exact Or.inl ⟨rfl, Or.inr ⟨by assumption, Or.inl (by assumption)⟩⟩ | exact Or.inl ⟨rfl, Or.inr ⟨by assumption, Or.inr (by assumption)⟩⟩ | exact Or.inr ⟨rfl, fun h => h.elim (fun q => q.2 (by assumption)) (fun q => q.1 (by assumption))⟩ | exact Or.inr ⟨rfl, fun h => h.elim (fun q => (show ¬ p3 ≤ p2 by assumption) q.1) (fun q => q.2.elim (fun z => z (by assumption)) (fun z => z (by assumption)))⟩), ht⟩) (fun _ h => nomatch h) dX2_fits_37
  · refine lv_if_ne (tgt := 19) hx hb dX2_fits_4 (by decide) (fun c_11 => absurd c_11 (by decide)) (fun c_11 => ?_)
    refine lv_iload_n hx hb dX2_fits_7 rfl (lv_at hl 1 rfl) ?_
    refine lv_iconst (v := 1) hx hb dX2_fits_8 (by decide) ?_
    refine lv_iand hx hb dX2_fits_9 ?_
    refine lv_if_eq (tgt := 17) hx hb dX2_fits_10 (by decide) (fun c_12 => ?_) (fun c_12 => ?_)
    · refine lv_iconst (v := 0) hx hb dX2_fits_17 (by decide) ?_
      exact W.zret (v := 0) (ty := .boolean) hx hb hr rfl (fun t ht hW => ⟨0, rfl, (by first | exact Or.inl ⟨rfl, Or.inl ⟨by assumption, by assumption⟩⟩ | exact Or.inl ⟨rfl, Or.inr ⟨by assumption, Or.inl (by assumption)⟩⟩ | exact Or.inl ⟨rfl, Or.inr ⟨by assumption, Or.inr (by assumption)⟩⟩ | exact Or.inr ⟨rfl, fun h => h.elim (fun q => q.2 (by assumption)) (fun q => q.1 (by assumption))⟩ | exact Or.inr ⟨rfl, fun h => h.elim (fun q => (show ¬ p3 ≤ p2 by assumption) q.1) (fun q => q.2.elim (fun z => z (by assumption)) (fun z => z (by assumption)))⟩), ht⟩) (fun _ h => nomatch h) dX2_fits_18
    · refine lv_iconst (v := 1) hx hb dX2_fits_13 (by decide) ?_
      refine lv_goto (tgt := 18) hx hb dX2_fits_14 (by decide) ?_
      exact W.zret (v := 1) (ty := .boolean) hx hb hr rfl (fun t ht hW => ⟨1, rfl, (by first | exact Or.inl ⟨rfl, Or.inl ⟨by assumption, by assumption⟩⟩ | exact Or.inl ⟨rfl, Or.inr ⟨by assumption, Or.inl (by assumption)⟩⟩ | exact Or.inl ⟨rfl, Or.inr ⟨by assumption, Or.inr (by assumption)⟩⟩ | exact Or.inr ⟨rfl, fun h => h.elim (fun q => q.2 (by assumption)) (fun q => q.1 (by assumption))⟩ | exact Or.inr ⟨rfl, fun h => h.elim (fun q => (show ¬ p3 ≤ p2 by assumption) q.1) (fun q => q.2.elim (fun z => z (by assumption)) (fun z => z (by assumption)))⟩), ht⟩) (fun _ h => nomatch h) dX2_fits_18
set_option maxHeartbeats 1000000 in
set_option maxRecDepth 100000 in
theorem gP_enterFirstPair (l : Launch) (D : va_G) (cI cL cQ : ClassId) (h0 : Nat) (p0 : Int32) (p1 : Int32) (p2 : Int32) (p3 : Int32) (p4 : Int32) (p5 : Int32) (p6 : Int32) (sz : Nat) : Met l yX2_enterFirstPair wsX2_enterFirstPair ({ frames := 1, cells := 0, slots := 0, locals := 20 }) (jw_P D vwCl (jT cI cL cQ) cL cQ [.ref h0] [(h0, .inr (2, [.int p0, .int p1, .int p2, .int p3, .int p4, .int p5, .int p6]))] sz) (va_Qv (fun u : va_W => ∃ (x4 : Int32) (x5 : Int32), u = [(h0, .inr (2, [.int p0, .int p1, .int p2, .int p3, .int x4, .int x5, .int (p6 + 1)]))] ∧ (x4 = (if p1 ≤ p0 then (-1) else p0)) ∧ (x5 = (if p3 ≤ p2 then (-1) else p2))) (jw_B D vwCl (va_A [(h0, .inr (2, [.int p0, .int p1, .int p2, .int p3, .int p4, .int p5, .int p6]))] sz) (fun u : va_W => u)) (va_A [(h0, .inr (2, [.int p0, .int p1, .int p2, .int p3, .int p4, .int p5, .int p6]))] sz)) 0 0 (va_A [(h0, .inr (2, [.int p0, .int p1, .int p2, .int p3, .int p4, .int p5, .int p6]))] sz) := by
  refine Met.ofW (cc := cX2_enterFirstPair) (maxL := 1) (ret := none) (by decide) rfl ?_
  intro p e s m args below meth c s₁ B hml hv
  obtain ⟨rfl, hsz, hP, hK, hN, hD0⟩ := hv
  have hx := B.exec
  have hb := B.bytes
  have hr := B.returns
  have hts := atoms_spec (ws := wsX2_enterFirstPair) B.pre
  have hown : s.vm.findClass RX2 = some m.cls := findClass_of_methodNamed B.named
  have hlocks := B.notSynchronized
  subst hsz
  have hD := hD0.self (sz := s.heap.size)
  generalize hAe : va_A [(h0, .inr (2, [.int p0, .int p1, .int p2, .int p3, .int p4, .int p5, .int p6]))] s.heap.size = A at hD ⊢
  have hA : ∀ q : Nat, s.heap.size ≤ q → A q := fun q h => by rw [← hAe]; exact Or.inr h
  have hS : va_S A s.heap s.heap [] := va_S.rf
  have hl := lv_entry ([.ref h0]) (n := 1) (Nat.le_of_ble_eq_true rfl)
  rw [lg_entry_eq]
  generalize (lg_sl ([.ref h0]) ++ List.replicate (1 - (lg_sl ([.ref h0])).length) Slot.unset).toArray = ls at hl ⊢
  have hl : lv_has ls 1 [(0, .ref h0)] := hl
  refine lv_aload_n hx hb dX2_enterFirstPair_0 rfl (lv_at hl 0 rfl) ?_
  refine lv_aload_n hx hb dX2_enterFirstPair_1 rfl (lv_at hl 0 rfl) ?_
  refine vp_callSi (va_Run.run (va_runV (As := []) (rest := [.ref h0]) ⟨hx, hb, hml, hown, hts⟩ (gP_hasLeftRows l D cI cL cQ h0 p0 p1 p2 p3 p4 p5 p6) (cwV 0 hts gX2_enterFirstPair_X2_hasLeftRows rfl rfl rfl (by decide +kernel) ⟨Nat.le_of_ble_eq_true rfl, Nat.le_of_ble_eq_true rfl⟩) (jr_V hK hN hP [0] rfl 2 0 rfl rfl rfl) rfl rfl hl.1 rfl (lv_room (Nat.le_of_ble_eq_true rfl)) dX2_enterFirstPair_2 ⟨Nat.le_of_ble_eq_true rfl, Nat.le_of_ble_eq_true rfl⟩)) (fun r f_1 => ?_)
  rcases f_1 with ⟨rfl, f_2⟩ | ⟨rfl, f_3⟩
  · refine lv_if_eq (tgt := 15) hx hb dX2_enterFirstPair_5 (by decide) (fun c_4 => absurd c_4 (by decide)) (fun c_4 => ?_)
    refine lv_aload_n hx hb dX2_enterFirstPair_8 rfl (lv_at hl 0 rfl) ?_
    refine va_get (D := D) (ci := 2) (v := .int p0) (C := RX2) (T := TX2) (N := 7) hx hb hts (by decide +kernel) hown hK hP 0 rfl rfl 0 (by decide) (hts (.fieldLink RX2 18 "JoinDesk$Position" "leftFrom" "I") (by decide +kernel)) (fun _ h9 => h9) rfl dX2_enterFirstPair_9 ?_
    refine lv_goto (tgt := 16) hx hb dX2_enterFirstPair_12 (by decide) ?_
    refine va_put (D := D) (ci := 2) (v := .int p0) (ty := .int) (C := RX2) (T := TX2) (N := 7) hx hb hts (by decide +kernel) tyX2 tyX2_ok nmX2 hown hK hP hD hS 0 rfl rfl 4 (by decide) (hts (.fieldLink RX2 9 "JoinDesk$Position" "leftAt" "I") (by decide +kernel)) (fun _ h9 => h9) rfl (by decide +kernel) rfl rfl (Nat.le_of_ble_eq_true rfl) dX2_enterFirstPair_16 (fun H locs hP hD hS => ?_)
    have hP : va_P D vwCl [(h0, .inr (2, [.int p0, .int p1, .int p2, .int p3, .int p0, .int p5, .int p6]))] H := hP
    have hD : va_D A [(h0, .inr (2, [.int p0, .int p1, .int p2, .int p3, .int p0, .int p5, .int p6]))] := hD
    refine lv_aload_n hx hb dX2_enterFirstPair_19 rfl (lv_at hl 0 rfl) ?_
    refine lv_aload_n hx hb dX2_enterFirstPair_20 rfl (lv_at hl 0 rfl) ?_
    refine vp_callSi (va_Run.run (va_runV (As := []) (rest := [.ref h0]) ⟨hx, hb, hml, hown, hts⟩ (gP_hasRightRows l D cI cL cQ h0 p0 p1 p2 p3 p0 p5 p6) (cwV 0 hts gX2_enterFirstPair_X2_hasRightRows rfl rfl rfl (by decide +kernel) ⟨Nat.le_of_ble_eq_true rfl, Nat.le_of_ble_eq_true rfl⟩) (jr_V hK hN hP [0] rfl 2 0 rfl rfl rfl) rfl rfl hl.1 rfl (lv_room (Nat.le_of_ble_eq_true rfl)) dX2_enterFirstPair_21 ⟨Nat.le_of_ble_eq_true rfl, Nat.le_of_ble_eq_true rfl⟩)) (fun r f_5 => ?_)
    rcases f_5 with ⟨rfl, f_6⟩ | ⟨rfl, f_7⟩
    · refine lv_if_eq (tgt := 34) hx hb dX2_enterFirstPair_24 (by decide) (fun c_8 => absurd c_8 (by decide)) (fun c_8 => ?_)
      refine lv_aload_n hx hb dX2_enterFirstPair_27 rfl (lv_at hl 0 rfl) ?_
      refine va_get (D := D) (ci := 2) (v := .int p2) (C := RX2) (T := TX2) (N := 7) hx hb hts (by decide +kernel) hown hK hP 0 rfl rfl 2 (by decide) (hts (.fieldLink RX2 24 "JoinDesk$Position" "rightFrom" "I") (by decide +kernel)) (fun _ h9 => h9) rfl dX2_enterFirstPair_28 ?_
      refine lv_goto (tgt := 35) hx hb dX2_enterFirstPair_31 (by decide) ?_
      refine va_put (D := D) (ci := 2) (v := .int p2) (ty := .int) (C := RX2) (T := TX2) (N := 7) hx hb hts (by decide +kernel) tyX2 tyX2_ok nmX2 hown hK hP hD hS 0 rfl rfl 5 (by decide) (hts (.fieldLink RX2 15 "JoinDesk$Position" "rightAt" "I") (by decide +kernel)) (fun _ h9 => h9) rfl (by decide +kernel) rfl rfl (Nat.le_of_ble_eq_true rfl) dX2_enterFirstPair_35 (fun H locs hP hD hS => ?_)
      have hP : va_P D vwCl [(h0, .inr (2, [.int p0, .int p1, .int p2, .int p3, .int p0, .int p2, .int p6]))] H := hP
      have hD : va_D A [(h0, .inr (2, [.int p0, .int p1, .int p2, .int p3, .int p0, .int p2, .int p6]))] := hD
      refine lv_aload_n hx hb dX2_enterFirstPair_38 rfl (lv_at hl 0 rfl) ?_
      refine lv_dup hx hb dX2_enterFirstPair_39 rfl ?_
      refine va_get (D := D) (ci := 2) (v := .int p6) (C := RX2) (T := TX2) (N := 7) hx hb hts (by decide +kernel) hown hK hP 0 rfl rfl 6 (by decide) (hts (.fieldLink RX2 30 "JoinDesk$Position" "passed" "I") (by decide +kernel)) (fun _ h9 => h9) rfl dX2_enterFirstPair_40 ?_
      refine lv_iconst (v := 1) hx hb dX2_enterFirstPair_43 (by decide) ?_
      refine lv_iadd hx hb dX2_enterFirstPair_44 ?_
      refine va_put (D := D) (ci := 2) (v := .int (p6 + 1)) (ty := .int) (C := RX2) (T := TX2) (N := 7) hx hb hts (by decide +kernel) tyX2 tyX2_ok nmX2 hown hK hP hD hS 0 rfl rfl 6 (by decide) (hts (.fieldLink RX2 30 "JoinDesk$Position" "passed" "I") (by decide +kernel)) (fun _ h9 => h9) rfl (by decide +kernel) rfl rfl (Nat.le_of_ble_eq_true rfl) dX2_enterFirstPair_45 (fun H locs hP hD hS => ?_)
      have hP : va_P D vwCl [(h0, .inr (2, [.int p0, .int p1, .int p2, .int p3, .int p0, .int p2, .int (p6 + 1)]))] H := hP
      have hD : va_D A [(h0, .inr (2, [.int p0, .int p1, .int p2, .int p3, .int p0, .int p2, .int (p6 + 1)]))] := hD
      refine W.widen (k := 0) (n := 0) (by omega) (by omega) ?_
      exact W.vret hx hb hr (fun t ht hW => ⟨⟨[(h0, .inr (2, [.int p0, .int p1, .int p2, .int p3, .int p0, .int p2, .int (p6 + 1)]))], rfl, (⟨_, _, rfl, by first | rw [if_pos (by assumption)] | rw [if_neg (by assumption)], by first | rw [if_pos (by assumption)] | rw [if_neg (by assumption)]⟩), by rw [ht]; exact hP, hD⟩, hS.F ht⟩) hS.2.2 dX2_enterFirstPair_48
    · refine lv_if_eq (tgt := 34) hx hb dX2_enterFirstPair_24 (by decide) (fun c_9 => ?_) (fun c_9 => absurd c_9 (by decide))
      refine lv_iconst (v := (-1)) hx hb dX2_enterFirstPair_34 (by decide) ?_
      refine va_put (D := D) (ci := 2) (v := .int (-1)) (ty := .int) (C := RX2) (T := TX2) (N := 7) hx hb hts (by decide +kernel) tyX2 tyX2_ok nmX2 hown hK hP hD hS 0 rfl rfl 5 (by decide) (hts (.fieldLink RX2 15 "JoinDesk$Position" "rightAt" "I") (by decide +kernel)) (fun _ h9 => h9) rfl (by decide +kernel) rfl rfl (Nat.le_of_ble_eq_true rfl) dX2_enterFirstPair_35 (fun H locs hP hD hS => ?_)
      have hP : va_P D vwCl [(h0, .inr (2, [.int p0, .int p1, .int p2, .int p3, .int p0, .int (-1), .int p6]))] H := hP
      have hD : va_D A [(h0, .inr (2, [.int p0, .int p1, .int p2, .int p3, .int p0, .int (-1), .int p6]))] := hD
      refine lv_aload_n hx hb dX2_enterFirstPair_38 rfl (lv_at hl 0 rfl) ?_
      refine lv_dup hx hb dX2_enterFirstPair_39 rfl ?_
      refine va_get (D := D) (ci := 2) (v := .int p6) (C := RX2) (T := TX2) (N := 7) hx hb hts (by decide +kernel) hown hK hP 0 rfl rfl 6 (by decide) (hts (.fieldLink RX2 30 "JoinDesk$Position" "passed" "I") (by decide +kernel)) (fun _ h9 => h9) rfl dX2_enterFirstPair_40 ?_
      refine lv_iconst (v := 1) hx hb dX2_enterFirstPair_43 (by decide) ?_
      refine lv_iadd hx hb dX2_enterFirstPair_44 ?_
      refine va_put (D := D) (ci := 2) (v := .int (p6 + 1)) (ty := .int) (C := RX2) (T := TX2) (N := 7) hx hb hts (by decide +kernel) tyX2 tyX2_ok nmX2 hown hK hP hD hS 0 rfl rfl 6 (by decide) (hts (.fieldLink RX2 30 "JoinDesk$Position" "passed" "I") (by decide +kernel)) (fun _ h9 => h9) rfl (by decide +kernel) rfl rfl (Nat.le_of_ble_eq_true rfl) dX2_enterFirstPair_45 (fun H locs hP hD hS => ?_)
      have hP : va_P D vwCl [(h0, .inr (2, [.int p0, .int p1, .int p2, .int p3, .int p0, .int (-1), .int (p6 + 1)]))] H := hP
      have hD : va_D A [(h0, .inr (2, [.int p0, .int p1, .int p2, .int p3, .int p0, .int (-1), .int (p6 + 1)]))] := hD
      refine W.widen (k := 0) (n := 0) (by omega) (by omega) ?_
      exact W.vret hx hb hr (fun t ht hW => ⟨⟨[(h0, .inr (2, [.int p0, .int p1, .int p2, .int p3, .int p0, .int (-1), .int (p6 + 1)]))], rfl, (⟨_, _, rfl, by first | rw [if_pos (by assumption)] | rw [if_neg (by assumption)], by first | rw [if_pos (by assumption)] | rw [if_neg (by assumption)]⟩), by rw [ht]; exact hP, hD⟩, hS.F ht⟩) hS.2.2 dX2_enterFirstPair_48
  · refine lv_if_eq (tgt := 15) hx hb dX2_enterFirstPair_5 (by decide) (fun c_10 => ?_) (fun c_10 => absurd c_10 (by decide))
    refine lv_iconst (v := (-1)) hx hb dX2_enterFirstPair_15 (by decide) ?_
    refine va_put (D := D) (ci := 2) (v := .int (-1)) (ty := .int) (C := RX2) (T := TX2) (N := 7) hx hb hts (by decide +kernel) tyX2 tyX2_ok nmX2 hown hK hP hD hS 0 rfl rfl 4 (by decide) (hts (.fieldLink RX2 9 "JoinDesk$Position" "leftAt" "I") (by decide +kernel)) (fun _ h9 => h9) rfl (by decide +kernel) rfl rfl (Nat.le_of_ble_eq_true rfl) dX2_enterFirstPair_16 (fun H locs hP hD hS => ?_)
    have hP : va_P D vwCl [(h0, .inr (2, [.int p0, .int p1, .int p2, .int p3, .int (-1), .int p5, .int p6]))] H := hP
    have hD : va_D A [(h0, .inr (2, [.int p0, .int p1, .int p2, .int p3, .int (-1), .int p5, .int p6]))] := hD
    refine lv_aload_n hx hb dX2_enterFirstPair_19 rfl (lv_at hl 0 rfl) ?_
    refine lv_aload_n hx hb dX2_enterFirstPair_20 rfl (lv_at hl 0 rfl) ?_
    refine vp_callSi (va_Run.run (va_runV (As := []) (rest := [.ref h0]) ⟨hx, hb, hml, hown, hts⟩ (gP_hasRightRows l D cI cL cQ h0 p0 p1 p2 p3 (-1) p5 p6) (cwV 0 hts gX2_enterFirstPair_X2_hasRightRows rfl rfl rfl (by decide +kernel) ⟨Nat.le_of_ble_eq_true rfl, Nat.le_of_ble_eq_true rfl⟩) (jr_V hK hN hP [0] rfl 2 0 rfl rfl rfl) rfl rfl hl.1 rfl (lv_room (Nat.le_of_ble_eq_true rfl)) dX2_enterFirstPair_21 ⟨Nat.le_of_ble_eq_true rfl, Nat.le_of_ble_eq_true rfl⟩)) (fun r f_11 => ?_)
    rcases f_11 with ⟨rfl, f_12⟩ | ⟨rfl, f_13⟩
    · refine lv_if_eq (tgt := 34) hx hb dX2_enterFirstPair_24 (by decide) (fun c_14 => absurd c_14 (by decide)) (fun c_14 => ?_)
      refine lv_aload_n hx hb dX2_enterFirstPair_27 rfl (lv_at hl 0 rfl) ?_
      refine va_get (D := D) (ci := 2) (v := .int p2) (C := RX2) (T := TX2) (N := 7) hx hb hts (by decide +kernel) hown hK hP 0 rfl rfl 2 (by decide) (hts (.fieldLink RX2 24 "JoinDesk$Position" "rightFrom" "I") (by decide +kernel)) (fun _ h9 => h9) rfl dX2_enterFirstPair_28 ?_
      refine lv_goto (tgt := 35) hx hb dX2_enterFirstPair_31 (by decide) ?_
      refine va_put (D := D) (ci := 2) (v := .int p2) (ty := .int) (C := RX2) (T := TX2) (N := 7) hx hb hts (by decide +kernel) tyX2 tyX2_ok nmX2 hown hK hP hD hS 0 rfl rfl 5 (by decide) (hts (.fieldLink RX2 15 "JoinDesk$Position" "rightAt" "I") (by decide +kernel)) (fun _ h9 => h9) rfl (by decide +kernel) rfl rfl (Nat.le_of_ble_eq_true rfl) dX2_enterFirstPair_35 (fun H locs hP hD hS => ?_)
      have hP : va_P D vwCl [(h0, .inr (2, [.int p0, .int p1, .int p2, .int p3, .int (-1), .int p2, .int p6]))] H := hP
      have hD : va_D A [(h0, .inr (2, [.int p0, .int p1, .int p2, .int p3, .int (-1), .int p2, .int p6]))] := hD
      refine lv_aload_n hx hb dX2_enterFirstPair_38 rfl (lv_at hl 0 rfl) ?_
      refine lv_dup hx hb dX2_enterFirstPair_39 rfl ?_
      refine va_get (D := D) (ci := 2) (v := .int p6) (C := RX2) (T := TX2) (N := 7) hx hb hts (by decide +kernel) hown hK hP 0 rfl rfl 6 (by decide) (hts (.fieldLink RX2 30 "JoinDesk$Position" "passed" "I") (by decide +kernel)) (fun _ h9 => h9) rfl dX2_enterFirstPair_40 ?_
      refine lv_iconst (v := 1) hx hb dX2_enterFirstPair_43 (by decide) ?_
      refine lv_iadd hx hb dX2_enterFirstPair_44 ?_
      refine va_put (D := D) (ci := 2) (v := .int (p6 + 1)) (ty := .int) (C := RX2) (T := TX2) (N := 7) hx hb hts (by decide +kernel) tyX2 tyX2_ok nmX2 hown hK hP hD hS 0 rfl rfl 6 (by decide) (hts (.fieldLink RX2 30 "JoinDesk$Position" "passed" "I") (by decide +kernel)) (fun _ h9 => h9) rfl (by decide +kernel) rfl rfl (Nat.le_of_ble_eq_true rfl) dX2_enterFirstPair_45 (fun H locs hP hD hS => ?_)
      have hP : va_P D vwCl [(h0, .inr (2, [.int p0, .int p1, .int p2, .int p3, .int (-1), .int p2, .int (p6 + 1)]))] H := hP
      have hD : va_D A [(h0, .inr (2, [.int p0, .int p1, .int p2, .int p3, .int (-1), .int p2, .int (p6 + 1)]))] := hD
      refine W.widen (k := 0) (n := 0) (by omega) (by omega) ?_
      exact W.vret hx hb hr (fun t ht hW => ⟨⟨[(h0, .inr (2, [.int p0, .int p1, .int p2, .int p3, .int (-1), .int p2, .int (p6 + 1)]))], rfl, (⟨_, _, rfl, by first | rw [if_pos (by assumption)] | rw [if_neg (by assumption)], by first | rw [if_pos (by assumption)] | rw [if_neg (by assumption)]⟩), by rw [ht]; exact hP, hD⟩, hS.F ht⟩) hS.2.2 dX2_enterFirstPair_48
    · refine lv_if_eq (tgt := 34) hx hb dX2_enterFirstPair_24 (by decide) (fun c_15 => ?_) (fun c_15 => absurd c_15 (by decide))
      refine lv_iconst (v := (-1)) hx hb dX2_enterFirstPair_34 (by decide) ?_
      refine va_put (D := D) (ci := 2) (v := .int (-1)) (ty := .int) (C := RX2) (T := TX2) (N := 7) hx hb hts (by decide +kernel) tyX2 tyX2_ok nmX2 hown hK hP hD hS 0 rfl rfl 5 (by decide) (hts (.fieldLink RX2 15 "JoinDesk$Position" "rightAt" "I") (by decide +kernel)) (fun _ h9 => h9) rfl (by decide +kernel) rfl rfl (Nat.le_of_ble_eq_true rfl) dX2_enterFirstPair_35 (fun H locs hP hD hS => ?_)
      have hP : va_P D vwCl [(h0, .inr (2, [.int p0, .int p1, .int p2, .int p3, .int (-1), .int (-1), .int p6]))] H := hP
      have hD : va_D A [(h0, .inr (2, [.int p0, .int p1, .int p2, .int p3, .int (-1), .int (-1), .int p6]))] := hD
      refine lv_aload_n hx hb dX2_enterFirstPair_38 rfl (lv_at hl 0 rfl) ?_
      refine lv_dup hx hb dX2_enterFirstPair_39 rfl ?_
      refine va_get (D := D) (ci := 2) (v := .int p6) (C := RX2) (T := TX2) (N := 7) hx hb hts (by decide +kernel) hown hK hP 0 rfl rfl 6 (by decide) (hts (.fieldLink RX2 30 "JoinDesk$Position" "passed" "I") (by decide +kernel)) (fun _ h9 => h9) rfl dX2_enterFirstPair_40 ?_
      refine lv_iconst (v := 1) hx hb dX2_enterFirstPair_43 (by decide) ?_
      refine lv_iadd hx hb dX2_enterFirstPair_44 ?_
      refine va_put (D := D) (ci := 2) (v := .int (p6 + 1)) (ty := .int) (C := RX2) (T := TX2) (N := 7) hx hb hts (by decide +kernel) tyX2 tyX2_ok nmX2 hown hK hP hD hS 0 rfl rfl 6 (by decide) (hts (.fieldLink RX2 30 "JoinDesk$Position" "passed" "I") (by decide +kernel)) (fun _ h9 => h9) rfl (by decide +kernel) rfl rfl (Nat.le_of_ble_eq_true rfl) dX2_enterFirstPair_45 (fun H locs hP hD hS => ?_)
      have hP : va_P D vwCl [(h0, .inr (2, [.int p0, .int p1, .int p2, .int p3, .int (-1), .int (-1), .int (p6 + 1)]))] H := hP
      have hD : va_D A [(h0, .inr (2, [.int p0, .int p1, .int p2, .int p3, .int (-1), .int (-1), .int (p6 + 1)]))] := hD
      refine W.widen (k := 0) (n := 0) (by omega) (by omega) ?_
      exact W.vret hx hb hr (fun t ht hW => ⟨⟨[(h0, .inr (2, [.int p0, .int p1, .int p2, .int p3, .int (-1), .int (-1), .int (p6 + 1)]))], rfl, (⟨_, _, rfl, by first | rw [if_pos (by assumption)] | rw [if_neg (by assumption)], by first | rw [if_pos (by assumption)] | rw [if_neg (by assumption)]⟩), by rw [ht]; exact hP, hD⟩, hS.F ht⟩) hS.2.2 dX2_enterFirstPair_48
set_option maxHeartbeats 1000000 in
set_option maxRecDepth 100000 in
theorem gP_enterNextPair (l : Launch) (D : va_G) (cI cL cQ : ClassId) (h0 : Nat) (p0 : Int32) (p1 : Int32) (p2 : Int32) (p3 : Int32) (p4 : Int32) (p5 : Int32) (p6 : Int32) (sz : Nat) : Met l yX2_enterNextPair wsX2_enterNextPair ({ frames := 1, cells := 0, slots := 0, locals := 20 }) (jw_P D vwCl (jT cI cL cQ) cL cQ [.ref h0] [(h0, .inr (2, [.int p0, .int p1, .int p2, .int p3, .int p4, .int p5, .int p6]))] sz) (va_Qi (fun (r : Int32) (u : va_W) => (∃ (x4 : Int32) (x5 : Int32), r = 1 ∧ u = [(h0, .inr (2, [.int p0, .int p1, .int p2, .int p3, .int x4, .int x5, .int (p6 + 1)]))] ∧ (((¬ p5 = -1 ∧ ¬ p3 ≤ p5 + 1) ∧ x4 = p4 ∧ x5 = p5 + 1) ∨ (¬ (¬ p5 = -1 ∧ ¬ p3 ≤ p5 + 1) ∧ (¬ p4 = -1 ∧ ¬ p1 ≤ p4 + 1) ∧ x4 = p4 + 1 ∧ x5 = (if p3 ≤ p2 then (-1) else p2)))) ∨ (r = 0 ∧ u = [(h0, .inr (2, [.int p0, .int p1, .int p2, .int p3, .int p4, .int p5, .int p6]))] ∧ (¬ (¬ p5 = -1 ∧ ¬ p3 ≤ p5 + 1) ∧ ¬ (¬ p4 = -1 ∧ ¬ p1 ≤ p4 + 1)))) (jw_B D vwCl (va_A [(h0, .inr (2, [.int p0, .int p1, .int p2, .int p3, .int p4, .int p5, .int p6]))] sz) (fun u : va_W => u)) (va_A [(h0, .inr (2, [.int p0, .int p1, .int p2, .int p3, .int p4, .int p5, .int p6]))] sz)) 0 0 (va_A [(h0, .inr (2, [.int p0, .int p1, .int p2, .int p3, .int p4, .int p5, .int p6]))] sz) := by
  refine Met.ofW (cc := cX2_enterNextPair) (maxL := 1) (ret := (some .boolean)) (by decide) rfl ?_
  intro p e s m args below meth c s₁ B hml hv
  obtain ⟨rfl, hsz, hP, hK, hN, hD0⟩ := hv
  have hx := B.exec
  have hb := B.bytes
  have hr := B.returns
  have hts := atoms_spec (ws := wsX2_enterNextPair) B.pre
  have hown : s.vm.findClass RX2 = some m.cls := findClass_of_methodNamed B.named
  have hlocks := B.notSynchronized
  subst hsz
  have hD := hD0.self (sz := s.heap.size)
  generalize hAe : va_A [(h0, .inr (2, [.int p0, .int p1, .int p2, .int p3, .int p4, .int p5, .int p6]))] s.heap.size = A at hD ⊢
  have hA : ∀ q : Nat, s.heap.size ≤ q → A q := fun q h => by rw [← hAe]; exact Or.inr h
  have hS : va_S A s.heap s.heap [] := va_S.rf
  have hl := lv_entry ([.ref h0]) (n := 1) (Nat.le_of_ble_eq_true rfl)
  rw [lg_entry_eq]
  generalize (lg_sl ([.ref h0]) ++ List.replicate (1 - (lg_sl ([.ref h0])).length) Slot.unset).toArray = ls at hl ⊢
  have hl : lv_has ls 1 [(0, .ref h0)] := hl
  refine lv_aload_n hx hb dX2_enterNextPair_0 rfl (lv_at hl 0 rfl) ?_
  refine va_get (D := D) (ci := 2) (v := .int p5) (C := RX2) (T := TX2) (N := 7) hx hb hts (by decide +kernel) hown hK hP 0 rfl rfl 5 (by decide) (hts (.fieldLink RX2 15 "JoinDesk$Position" "rightAt" "I") (by decide +kernel)) (fun _ h9 => h9) rfl dX2_enterNextPair_1 ?_
  refine lv_iconst (v := (-1)) hx hb dX2_enterNextPair_4 (by decide) ?_
  refine lv_icmp_eq (tgt := 34) hx hb dX2_enterNextPair_5 (by decide) (fun c_1 => ?_) (fun c_1 => ?_)
  · refine lv_aload_n hx hb dX2_enterNextPair_34 rfl (lv_at hl 0 rfl) ?_
    refine va_get (D := D) (ci := 2) (v := .int p4) (C := RX2) (T := TX2) (N := 7) hx hb hts (by decide +kernel) hown hK hP 0 rfl rfl 4 (by decide) (hts (.fieldLink RX2 9 "JoinDesk$Position" "leftAt" "I") (by decide +kernel)) (fun _ h9 => h9) rfl dX2_enterNextPair_35 ?_
    refine lv_iconst (v := (-1)) hx hb dX2_enterNextPair_38 (by decide) ?_
    refine lv_icmp_eq (tgt := 87) hx hb dX2_enterNextPair_39 (by decide) (fun c_2 => ?_) (fun c_2 => ?_)
    · refine lv_iconst (v := 0) hx hb dX2_enterNextPair_87 (by decide) ?_
      refine W.widen (k := 0) (n := 0) (by omega) (by omega) ?_
      exact W.zret (v := 0) (ty := .boolean) hx hb hr rfl (fun t ht hW => ⟨⟨0, [(h0, .inr (2, [.int p0, .int p1, .int p2, .int p3, .int p4, .int p5, .int p6]))], rfl, (by first | exact Or.inl ⟨_, _, rfl, rfl, Or.inl ⟨⟨by assumption, by assumption⟩, rfl, rfl⟩⟩ | exact Or.inl ⟨_, _, rfl, rfl, Or.inr ⟨fun h => by simp_all, ⟨by assumption, by assumption⟩, rfl, by first | rw [if_pos (by assumption)] | rw [if_neg (by assumption)]⟩⟩ | exact Or.inr ⟨rfl, rfl, fun h => by simp_all, fun h => by simp_all⟩), by rw [ht]; exact hP, hD⟩, hS.F ht⟩) hS.2.2 dX2_enterNextPair_88
    · refine lv_aload_n hx hb dX2_enterNextPair_42 rfl (lv_at hl 0 rfl) ?_
      refine va_get (D := D) (ci := 2) (v := .int p4) (C := RX2) (T := TX2) (N := 7) hx hb hts (by decide +kernel) hown hK hP 0 rfl rfl 4 (by decide) (hts (.fieldLink RX2 9 "JoinDesk$Position" "leftAt" "I") (by decide +kernel)) (fun _ h9 => h9) rfl dX2_enterNextPair_43 ?_
      refine lv_iconst (v := 1) hx hb dX2_enterNextPair_46 (by decide) ?_
      refine lv_iadd hx hb dX2_enterNextPair_47 ?_
      refine lv_aload_n hx hb dX2_enterNextPair_48 rfl (lv_at hl 0 rfl) ?_
      refine va_get (D := D) (ci := 2) (v := .int p1) (C := RX2) (T := TX2) (N := 7) hx hb hts (by decide +kernel) hown hK hP 0 rfl rfl 1 (by decide) (hts (.fieldLink RX2 21 "JoinDesk$Position" "leftTo" "I") (by decide +kernel)) (fun _ h9 => h9) rfl dX2_enterNextPair_49 ?_
      refine lv_icmp_ge (tgt := 87) hx hb dX2_enterNextPair_52 (by decide) (fun c_3 => ?_) (fun c_3 => ?_)
      · refine lv_iconst (v := 0) hx hb dX2_enterNextPair_87 (by decide) ?_
        refine W.widen (k := 0) (n := 0) (by omega) (by omega) ?_
        exact W.zret (v := 0) (ty := .boolean) hx hb hr rfl (fun t ht hW => ⟨⟨0, [(h0, .inr (2, [.int p0, .int p1, .int p2, .int p3, .int p4, .int p5, .int p6]))], rfl, (by first | exact Or.inl ⟨_, _, rfl, rfl, Or.inl ⟨⟨by assumption, by assumption⟩, rfl, rfl⟩⟩ | exact Or.inl ⟨_, _, rfl, rfl, Or.inr ⟨fun h => by simp_all, ⟨by assumption, by assumption⟩, rfl, by first | rw [if_pos (by assumption)] | rw [if_neg (by assumption)]⟩⟩ | exact Or.inr ⟨rfl, rfl, fun h => by simp_all, fun h => by simp_all⟩), by rw [ht]; exact hP, hD⟩, hS.F ht⟩) hS.2.2 dX2_enterNextPair_88
      · refine lv_aload_n hx hb dX2_enterNextPair_55 rfl (lv_at hl 0 rfl) ?_
        refine lv_dup hx hb dX2_enterNextPair_56 rfl ?_
        refine va_get (D := D) (ci := 2) (v := .int p4) (C := RX2) (T := TX2) (N := 7) hx hb hts (by decide +kernel) hown hK hP 0 rfl rfl 4 (by decide) (hts (.fieldLink RX2 9 "JoinDesk$Position" "leftAt" "I") (by decide +kernel)) (fun _ h9 => h9) rfl dX2_enterNextPair_57 ?_
        refine lv_iconst (v := 1) hx hb dX2_enterNextPair_60 (by decide) ?_
        refine lv_iadd hx hb dX2_enterNextPair_61 ?_
        refine va_put (D := D) (ci := 2) (v := .int (p4 + 1)) (ty := .int) (C := RX2) (T := TX2) (N := 7) hx hb hts (by decide +kernel) tyX2 tyX2_ok nmX2 hown hK hP hD hS 0 rfl rfl 4 (by decide) (hts (.fieldLink RX2 9 "JoinDesk$Position" "leftAt" "I") (by decide +kernel)) (fun _ h9 => h9) rfl (by decide +kernel) rfl rfl (Nat.le_of_ble_eq_true rfl) dX2_enterNextPair_62 (fun H locs hP hD hS => ?_)
        have hP : va_P D vwCl [(h0, .inr (2, [.int p0, .int p1, .int p2, .int p3, .int (p4 + 1), .int p5, .int p6]))] H := hP
        have hD : va_D A [(h0, .inr (2, [.int p0, .int p1, .int p2, .int p3, .int (p4 + 1), .int p5, .int p6]))] := hD
        refine lv_aload_n hx hb dX2_enterNextPair_65 rfl (lv_at hl 0 rfl) ?_
        refine lv_aload_n hx hb dX2_enterNextPair_66 rfl (lv_at hl 0 rfl) ?_
        refine vp_callSi (va_Run.run (va_runV (As := []) (rest := [.ref h0]) ⟨hx, hb, hml, hown, hts⟩ (gP_hasRightRows l D cI cL cQ h0 p0 p1 p2 p3 (p4 + 1) p5 p6) (cwV 0 hts gX2_enterNextPair_X2_hasRightRows rfl rfl rfl (by decide +kernel) ⟨Nat.le_of_ble_eq_true rfl, Nat.le_of_ble_eq_true rfl⟩) (jr_V hK hN hP [0] rfl 2 0 rfl rfl rfl) rfl rfl hl.1 rfl (lv_room (Nat.le_of_ble_eq_true rfl)) dX2_enterNextPair_67 ⟨Nat.le_of_ble_eq_true rfl, Nat.le_of_ble_eq_true rfl⟩)) (fun r f_4 => ?_)
        rcases f_4 with ⟨rfl, f_5⟩ | ⟨rfl, f_6⟩
        · refine lv_if_eq (tgt := 80) hx hb dX2_enterNextPair_70 (by decide) (fun c_7 => absurd c_7 (by decide)) (fun c_7 => ?_)
          refine lv_aload_n hx hb dX2_enterNextPair_73 rfl (lv_at hl 0 rfl) ?_
          refine va_get (D := D) (ci := 2) (v := .int p2) (C := RX2) (T := TX2) (N := 7) hx hb hts (by decide +kernel) hown hK hP 0 rfl rfl 2 (by decide) (hts (.fieldLink RX2 24 "JoinDesk$Position" "rightFrom" "I") (by decide +kernel)) (fun _ h9 => h9) rfl dX2_enterNextPair_74 ?_
          refine lv_goto (tgt := 81) hx hb dX2_enterNextPair_77 (by decide) ?_
          refine va_put (D := D) (ci := 2) (v := .int p2) (ty := .int) (C := RX2) (T := TX2) (N := 7) hx hb hts (by decide +kernel) tyX2 tyX2_ok nmX2 hown hK hP hD hS 0 rfl rfl 5 (by decide) (hts (.fieldLink RX2 15 "JoinDesk$Position" "rightAt" "I") (by decide +kernel)) (fun _ h9 => h9) rfl (by decide +kernel) rfl rfl (Nat.le_of_ble_eq_true rfl) dX2_enterNextPair_81 (fun H locs hP hD hS => ?_)
          have hP : va_P D vwCl [(h0, .inr (2, [.int p0, .int p1, .int p2, .int p3, .int (p4 + 1), .int p2, .int p6]))] H := hP
          have hD : va_D A [(h0, .inr (2, [.int p0, .int p1, .int p2, .int p3, .int (p4 + 1), .int p2, .int p6]))] := hD
          refine lv_goto (tgt := 89) hx hb dX2_enterNextPair_84 (by decide) ?_
          refine lv_aload_n hx hb dX2_enterNextPair_89 rfl (lv_at hl 0 rfl) ?_
          refine lv_dup hx hb dX2_enterNextPair_90 rfl ?_
          refine va_get (D := D) (ci := 2) (v := .int p6) (C := RX2) (T := TX2) (N := 7) hx hb hts (by decide +kernel) hown hK hP 0 rfl rfl 6 (by decide) (hts (.fieldLink RX2 30 "JoinDesk$Position" "passed" "I") (by decide +kernel)) (fun _ h9 => h9) rfl dX2_enterNextPair_91 ?_
          refine lv_iconst (v := 1) hx hb dX2_enterNextPair_94 (by decide) ?_
          refine lv_iadd hx hb dX2_enterNextPair_95 ?_
          refine va_put (D := D) (ci := 2) (v := .int (p6 + 1)) (ty := .int) (C := RX2) (T := TX2) (N := 7) hx hb hts (by decide +kernel) tyX2 tyX2_ok nmX2 hown hK hP hD hS 0 rfl rfl 6 (by decide) (hts (.fieldLink RX2 30 "JoinDesk$Position" "passed" "I") (by decide +kernel)) (fun _ h9 => h9) rfl (by decide +kernel) rfl rfl (Nat.le_of_ble_eq_true rfl) dX2_enterNextPair_96 (fun H locs hP hD hS => ?_)
          have hP : va_P D vwCl [(h0, .inr (2, [.int p0, .int p1, .int p2, .int p3, .int (p4 + 1), .int p2, .int (p6 + 1)]))] H := hP
          have hD : va_D A [(h0, .inr (2, [.int p0, .int p1, .int p2, .int p3, .int (p4 + 1), .int p2, .int (p6 + 1)]))] := hD
          refine lv_iconst (v := 1) hx hb dX2_enterNextPair_99 (by decide) ?_
          refine W.widen (k := 0) (n := 0) (by omega) (by omega) ?_
          exact W.zret (v := 1) (ty := .boolean) hx hb hr rfl (fun t ht hW => ⟨⟨1, [(h0, .inr (2, [.int p0, .int p1, .int p2, .int p3, .int (p4 + 1), .int p2, .int (p6 + 1)]))], rfl, (by first | exact Or.inl ⟨_, _, rfl, rfl, Or.inl ⟨⟨by assumption, by assumption⟩, rfl, rfl⟩⟩ | exact Or.inl ⟨_, _, rfl, rfl, Or.inr ⟨fun h => by simp_all, ⟨by assumption, by assumption⟩, rfl, by first | rw [if_pos (by assumption)] | rw [if_neg (by assumption)]⟩⟩ | exact Or.inr ⟨rfl, rfl, fun h => by simp_all, fun h => by simp_all⟩), by rw [ht]; exact hP, hD⟩, hS.F ht⟩) hS.2.2 dX2_enterNextPair_100
        · refine lv_if_eq (tgt := 80) hx hb dX2_enterNextPair_70 (by decide) (fun c_8 => ?_) (fun c_8 => absurd c_8 (by decide))
          refine lv_iconst (v := (-1)) hx hb dX2_enterNextPair_80 (by decide) ?_
          refine va_put (D := D) (ci := 2) (v := .int (-1)) (ty := .int) (C := RX2) (T := TX2) (N := 7) hx hb hts (by decide +kernel) tyX2 tyX2_ok nmX2 hown hK hP hD hS 0 rfl rfl 5 (by decide) (hts (.fieldLink RX2 15 "JoinDesk$Position" "rightAt" "I") (by decide +kernel)) (fun _ h9 => h9) rfl (by decide +kernel) rfl rfl (Nat.le_of_ble_eq_true rfl) dX2_enterNextPair_81 (fun H locs hP hD hS => ?_)
          have hP : va_P D vwCl [(h0, .inr (2, [.int p0, .int p1, .int p2, .int p3, .int (p4 + 1), .int (-1), .int p6]))] H := hP
          have hD : va_D A [(h0, .inr (2, [.int p0, .int p1, .int p2, .int p3, .int (p4 + 1), .int (-1), .int p6]))] := hD
          refine lv_goto (tgt := 89) hx hb dX2_enterNextPair_84 (by decide) ?_
          refine lv_aload_n hx hb dX2_enterNextPair_89 rfl (lv_at hl 0 rfl) ?_
          refine lv_dup hx hb dX2_enterNextPair_90 rfl ?_
          refine va_get (D := D) (ci := 2) (v := .int p6) (C := RX2) (T := TX2) (N := 7) hx hb hts (by decide +kernel) hown hK hP 0 rfl rfl 6 (by decide) (hts (.fieldLink RX2 30 "JoinDesk$Position" "passed" "I") (by decide +kernel)) (fun _ h9 => h9) rfl dX2_enterNextPair_91 ?_
          refine lv_iconst (v := 1) hx hb dX2_enterNextPair_94 (by decide) ?_
          refine lv_iadd hx hb dX2_enterNextPair_95 ?_
          refine va_put (D := D) (ci := 2) (v := .int (p6 + 1)) (ty := .int) (C := RX2) (T := TX2) (N := 7) hx hb hts (by decide +kernel) tyX2 tyX2_ok nmX2 hown hK hP hD hS 0 rfl rfl 6 (by decide) (hts (.fieldLink RX2 30 "JoinDesk$Position" "passed" "I") (by decide +kernel)) (fun _ h9 => h9) rfl (by decide +kernel) rfl rfl (Nat.le_of_ble_eq_true rfl) dX2_enterNextPair_96 (fun H locs hP hD hS => ?_)
          have hP : va_P D vwCl [(h0, .inr (2, [.int p0, .int p1, .int p2, .int p3, .int (p4 + 1), .int (-1), .int (p6 + 1)]))] H := hP
          have hD : va_D A [(h0, .inr (2, [.int p0, .int p1, .int p2, .int p3, .int (p4 + 1), .int (-1), .int (p6 + 1)]))] := hD
          refine lv_iconst (v := 1) hx hb dX2_enterNextPair_99 (by decide) ?_
          refine W.widen (k := 0) (n := 0) (by omega) (by omega) ?_
          exact W.zret (v := 1) (ty := .boolean) hx hb hr rfl (fun t ht hW => ⟨⟨1, [(h0, .inr (2, [.int p0, .int p1, .int p2, .int p3, .int (p4 + 1), .int (-1), .int (p6 + 1)]))], rfl, (by first | exact Or.inl ⟨_, _, rfl, rfl, Or.inl ⟨⟨by assumption, by assumption⟩, rfl, rfl⟩⟩ | exact Or.inl ⟨_, _, rfl, rfl, Or.inr ⟨fun h => by simp_all, ⟨by assumption, by assumption⟩, rfl, by first | rw [if_pos (by assumption)] | rw [if_neg (by assumption)]⟩⟩ | exact Or.inr ⟨rfl, rfl, fun h => by simp_all, fun h => by simp_all⟩), by rw [ht]; exact hP, hD⟩, hS.F ht⟩) hS.2.2 dX2_enterNextPair_100
  · refine lv_aload_n hx hb dX2_enterNextPair_8 rfl (lv_at hl 0 rfl) ?_
    refine va_get (D := D) (ci := 2) (v := .int p5) (C := RX2) (T := TX2) (N := 7) hx hb hts (by decide +kernel) hown hK hP 0 rfl rfl 5 (by decide) (hts (.fieldLink RX2 15 "JoinDesk$Position" "rightAt" "I") (by decide +kernel)) (fun _ h9 => h9) rfl dX2_enterNextPair_9 ?_
    refine lv_iconst (v := 1) hx hb dX2_enterNextPair_12 (by decide) ?_
    refine lv_iadd hx hb dX2_enterNextPair_13 ?_
    refine lv_aload_n hx hb dX2_enterNextPair_14 rfl (lv_at hl 0 rfl) ?_
    refine va_get (D := D) (ci := 2) (v := .int p3) (C := RX2) (T := TX2) (N := 7) hx hb hts (by decide +kernel) hown hK hP 0 rfl rfl 3 (by decide) (hts (.fieldLink RX2 27 "JoinDesk$Position" "rightTo" "I") (by decide +kernel)) (fun _ h9 => h9) rfl dX2_enterNextPair_15 ?_
    refine lv_icmp_ge (tgt := 34) hx hb dX2_enterNextPair_18 (by decide) (fun c_9 => ?_) (fun c_9 => ?_)
    · refine lv_aload_n hx hb dX2_enterNextPair_34 rfl (lv_at hl 0 rfl) ?_
      refine va_get (D := D) (ci := 2) (v := .int p4) (C := RX2) (T := TX2) (N := 7) hx hb hts (by decide +kernel) hown hK hP 0 rfl rfl 4 (by decide) (hts (.fieldLink RX2 9 "JoinDesk$Position" "leftAt" "I") (by decide +kernel)) (fun _ h9 => h9) rfl dX2_enterNextPair_35 ?_
      refine lv_iconst (v := (-1)) hx hb dX2_enterNextPair_38 (by decide) ?_
      refine lv_icmp_eq (tgt := 87) hx hb dX2_enterNextPair_39 (by decide) (fun c_10 => ?_) (fun c_10 => ?_)
      · refine lv_iconst (v := 0) hx hb dX2_enterNextPair_87 (by decide) ?_
        refine W.widen (k := 0) (n := 0) (by omega) (by omega) ?_
        exact W.zret (v := 0) (ty := .boolean) hx hb hr rfl (fun t ht hW => ⟨⟨0, [(h0, .inr (2, [.int p0, .int p1, .int p2, .int p3, .int p4, .int p5, .int p6]))], rfl, (by first | exact Or.inl ⟨_, _, rfl, rfl, Or.inl ⟨⟨by assumption, by assumption⟩, rfl, rfl⟩⟩ | exact Or.inl ⟨_, _, rfl, rfl, Or.inr ⟨fun h => by simp_all, ⟨by assumption, by assumption⟩, rfl, by first | rw [if_pos (by assumption)] | rw [if_neg (by assumption)]⟩⟩ | exact Or.inr ⟨rfl, rfl, fun h => by simp_all, fun h => by simp_all⟩), by rw [ht]; exact hP, hD⟩, hS.F ht⟩) hS.2.2 dX2_enterNextPair_88
      · refine lv_aload_n hx hb dX2_enterNextPair_42 rfl (lv_at hl 0 rfl) ?_
        refine va_get (D := D) (ci := 2) (v := .int p4) (C := RX2) (T := TX2) (N := 7) hx hb hts (by decide +kernel) hown hK hP 0 rfl rfl 4 (by decide) (hts (.fieldLink RX2 9 "JoinDesk$Position" "leftAt" "I") (by decide +kernel)) (fun _ h9 => h9) rfl dX2_enterNextPair_43 ?_
        refine lv_iconst (v := 1) hx hb dX2_enterNextPair_46 (by decide) ?_
        refine lv_iadd hx hb dX2_enterNextPair_47 ?_
        refine lv_aload_n hx hb dX2_enterNextPair_48 rfl (lv_at hl 0 rfl) ?_
        refine va_get (D := D) (ci := 2) (v := .int p1) (C := RX2) (T := TX2) (N := 7) hx hb hts (by decide +kernel) hown hK hP 0 rfl rfl 1 (by decide) (hts (.fieldLink RX2 21 "JoinDesk$Position" "leftTo" "I") (by decide +kernel)) (fun _ h9 => h9) rfl dX2_enterNextPair_49 ?_
        refine lv_icmp_ge (tgt := 87) hx hb dX2_enterNextPair_52 (by decide) (fun c_11 => ?_) (fun c_11 => ?_)
        · refine lv_iconst (v := 0) hx hb dX2_enterNextPair_87 (by decide) ?_
          refine W.widen (k := 0) (n := 0) (by omega) (by omega) ?_
          exact W.zret (v := 0) (ty := .boolean) hx hb hr rfl (fun t ht hW => ⟨⟨0, [(h0, .inr (2, [.int p0, .int p1, .int p2, .int p3, .int p4, .int p5, .int p6]))], rfl, (by first | exact Or.inl ⟨_, _, rfl, rfl, Or.inl ⟨⟨by assumption, by assumption⟩, rfl, rfl⟩⟩ | exact Or.inl ⟨_, _, rfl, rfl, Or.inr ⟨fun h => by simp_all, ⟨by assumption, by assumption⟩, rfl, by first | rw [if_pos (by assumption)] | rw [if_neg (by assumption)]⟩⟩ | exact Or.inr ⟨rfl, rfl, fun h => by simp_all, fun h => by simp_all⟩), by rw [ht]; exact hP, hD⟩, hS.F ht⟩) hS.2.2 dX2_enterNextPair_88
        · refine lv_aload_n hx hb dX2_enterNextPair_55 rfl (lv_at hl 0 rfl) ?_
          refine lv_dup hx hb dX2_enterNextPair_56 rfl ?_
          refine va_get (D := D) (ci := 2) (v := .int p4) (C := RX2) (T := TX2) (N := 7) hx hb hts (by decide +kernel) hown hK hP 0 rfl rfl 4 (by decide) (hts (.fieldLink RX2 9 "JoinDesk$Position" "leftAt" "I") (by decide +kernel)) (fun _ h9 => h9) rfl dX2_enterNextPair_57 ?_
          refine lv_iconst (v := 1) hx hb dX2_enterNextPair_60 (by decide) ?_
          refine lv_iadd hx hb dX2_enterNextPair_61 ?_
          refine va_put (D := D) (ci := 2) (v := .int (p4 + 1)) (ty := .int) (C := RX2) (T := TX2) (N := 7) hx hb hts (by decide +kernel) tyX2 tyX2_ok nmX2 hown hK hP hD hS 0 rfl rfl 4 (by decide) (hts (.fieldLink RX2 9 "JoinDesk$Position" "leftAt" "I") (by decide +kernel)) (fun _ h9 => h9) rfl (by decide +kernel) rfl rfl (Nat.le_of_ble_eq_true rfl) dX2_enterNextPair_62 (fun H locs hP hD hS => ?_)
          have hP : va_P D vwCl [(h0, .inr (2, [.int p0, .int p1, .int p2, .int p3, .int (p4 + 1), .int p5, .int p6]))] H := hP
          have hD : va_D A [(h0, .inr (2, [.int p0, .int p1, .int p2, .int p3, .int (p4 + 1), .int p5, .int p6]))] := hD
          refine lv_aload_n hx hb dX2_enterNextPair_65 rfl (lv_at hl 0 rfl) ?_
          refine lv_aload_n hx hb dX2_enterNextPair_66 rfl (lv_at hl 0 rfl) ?_
          refine vp_callSi (va_Run.run (va_runV (As := []) (rest := [.ref h0]) ⟨hx, hb, hml, hown, hts⟩ (gP_hasRightRows l D cI cL cQ h0 p0 p1 p2 p3 (p4 + 1) p5 p6) (cwV 0 hts gX2_enterNextPair_X2_hasRightRows rfl rfl rfl (by decide +kernel) ⟨Nat.le_of_ble_eq_true rfl, Nat.le_of_ble_eq_true rfl⟩) (jr_V hK hN hP [0] rfl 2 0 rfl rfl rfl) rfl rfl hl.1 rfl (lv_room (Nat.le_of_ble_eq_true rfl)) dX2_enterNextPair_67 ⟨Nat.le_of_ble_eq_true rfl, Nat.le_of_ble_eq_true rfl⟩)) (fun r f_12 => ?_)
          rcases f_12 with ⟨rfl, f_13⟩ | ⟨rfl, f_14⟩
          · refine lv_if_eq (tgt := 80) hx hb dX2_enterNextPair_70 (by decide) (fun c_15 => absurd c_15 (by decide)) (fun c_15 => ?_)
            refine lv_aload_n hx hb dX2_enterNextPair_73 rfl (lv_at hl 0 rfl) ?_
            refine va_get (D := D) (ci := 2) (v := .int p2) (C := RX2) (T := TX2) (N := 7) hx hb hts (by decide +kernel) hown hK hP 0 rfl rfl 2 (by decide) (hts (.fieldLink RX2 24 "JoinDesk$Position" "rightFrom" "I") (by decide +kernel)) (fun _ h9 => h9) rfl dX2_enterNextPair_74 ?_
            refine lv_goto (tgt := 81) hx hb dX2_enterNextPair_77 (by decide) ?_
            refine va_put (D := D) (ci := 2) (v := .int p2) (ty := .int) (C := RX2) (T := TX2) (N := 7) hx hb hts (by decide +kernel) tyX2 tyX2_ok nmX2 hown hK hP hD hS 0 rfl rfl 5 (by decide) (hts (.fieldLink RX2 15 "JoinDesk$Position" "rightAt" "I") (by decide +kernel)) (fun _ h9 => h9) rfl (by decide +kernel) rfl rfl (Nat.le_of_ble_eq_true rfl) dX2_enterNextPair_81 (fun H locs hP hD hS => ?_)
            have hP : va_P D vwCl [(h0, .inr (2, [.int p0, .int p1, .int p2, .int p3, .int (p4 + 1), .int p2, .int p6]))] H := hP
            have hD : va_D A [(h0, .inr (2, [.int p0, .int p1, .int p2, .int p3, .int (p4 + 1), .int p2, .int p6]))] := hD
            refine lv_goto (tgt := 89) hx hb dX2_enterNextPair_84 (by decide) ?_
            refine lv_aload_n hx hb dX2_enterNextPair_89 rfl (lv_at hl 0 rfl) ?_
            refine lv_dup hx hb dX2_enterNextPair_90 rfl ?_
            refine va_get (D := D) (ci := 2) (v := .int p6) (C := RX2) (T := TX2) (N := 7) hx hb hts (by decide +kernel) hown hK hP 0 rfl rfl 6 (by decide) (hts (.fieldLink RX2 30 "JoinDesk$Position" "passed" "I") (by decide +kernel)) (fun _ h9 => h9) rfl dX2_enterNextPair_91 ?_
            refine lv_iconst (v := 1) hx hb dX2_enterNextPair_94 (by decide) ?_
            refine lv_iadd hx hb dX2_enterNextPair_95 ?_
            refine va_put (D := D) (ci := 2) (v := .int (p6 + 1)) (ty := .int) (C := RX2) (T := TX2) (N := 7) hx hb hts (by decide +kernel) tyX2 tyX2_ok nmX2 hown hK hP hD hS 0 rfl rfl 6 (by decide) (hts (.fieldLink RX2 30 "JoinDesk$Position" "passed" "I") (by decide +kernel)) (fun _ h9 => h9) rfl (by decide +kernel) rfl rfl (Nat.le_of_ble_eq_true rfl) dX2_enterNextPair_96 (fun H locs hP hD hS => ?_)
            have hP : va_P D vwCl [(h0, .inr (2, [.int p0, .int p1, .int p2, .int p3, .int (p4 + 1), .int p2, .int (p6 + 1)]))] H := hP
            have hD : va_D A [(h0, .inr (2, [.int p0, .int p1, .int p2, .int p3, .int (p4 + 1), .int p2, .int (p6 + 1)]))] := hD
            refine lv_iconst (v := 1) hx hb dX2_enterNextPair_99 (by decide) ?_
            refine W.widen (k := 0) (n := 0) (by omega) (by omega) ?_
            exact W.zret (v := 1) (ty := .boolean) hx hb hr rfl (fun t ht hW => ⟨⟨1, [(h0, .inr (2, [.int p0, .int p1, .int p2, .int p3, .int (p4 + 1), .int p2, .int (p6 + 1)]))], rfl, (by first | exact Or.inl ⟨_, _, rfl, rfl, Or.inl ⟨⟨by assumption, by assumption⟩, rfl, rfl⟩⟩ | exact Or.inl ⟨_, _, rfl, rfl, Or.inr ⟨fun h => by simp_all, ⟨by assumption, by assumption⟩, rfl, by first | rw [if_pos (by assumption)] | rw [if_neg (by assumption)]⟩⟩ | exact Or.inr ⟨rfl, rfl, fun h => by simp_all, fun h => by simp_all⟩), by rw [ht]; exact hP, hD⟩, hS.F ht⟩) hS.2.2 dX2_enterNextPair_100
          · refine lv_if_eq (tgt := 80) hx hb dX2_enterNextPair_70 (by decide) (fun c_16 => ?_) (fun c_16 => absurd c_16 (by decide))
            refine lv_iconst (v := (-1)) hx hb dX2_enterNextPair_80 (by decide) ?_
            refine va_put (D := D) (ci := 2) (v := .int (-1)) (ty := .int) (C := RX2) (T := TX2) (N := 7) hx hb hts (by decide +kernel) tyX2 tyX2_ok nmX2 hown hK hP hD hS 0 rfl rfl 5 (by decide) (hts (.fieldLink RX2 15 "JoinDesk$Position" "rightAt" "I") (by decide +kernel)) (fun _ h9 => h9) rfl (by decide +kernel) rfl rfl (Nat.le_of_ble_eq_true rfl) dX2_enterNextPair_81 (fun H locs hP hD hS => ?_)
            have hP : va_P D vwCl [(h0, .inr (2, [.int p0, .int p1, .int p2, .int p3, .int (p4 + 1), .int (-1), .int p6]))] H := hP
            have hD : va_D A [(h0, .inr (2, [.int p0, .int p1, .int p2, .int p3, .int (p4 + 1), .int (-1), .int p6]))] := hD
            refine lv_goto (tgt := 89) hx hb dX2_enterNextPair_84 (by decide) ?_
            refine lv_aload_n hx hb dX2_enterNextPair_89 rfl (lv_at hl 0 rfl) ?_
            refine lv_dup hx hb dX2_enterNextPair_90 rfl ?_
            refine va_get (D := D) (ci := 2) (v := .int p6) (C := RX2) (T := TX2) (N := 7) hx hb hts (by decide +kernel) hown hK hP 0 rfl rfl 6 (by decide) (hts (.fieldLink RX2 30 "JoinDesk$Position" "passed" "I") (by decide +kernel)) (fun _ h9 => h9) rfl dX2_enterNextPair_91 ?_
            refine lv_iconst (v := 1) hx hb dX2_enterNextPair_94 (by decide) ?_
            refine lv_iadd hx hb dX2_enterNextPair_95 ?_
            refine va_put (D := D) (ci := 2) (v := .int (p6 + 1)) (ty := .int) (C := RX2) (T := TX2) (N := 7) hx hb hts (by decide +kernel) tyX2 tyX2_ok nmX2 hown hK hP hD hS 0 rfl rfl 6 (by decide) (hts (.fieldLink RX2 30 "JoinDesk$Position" "passed" "I") (by decide +kernel)) (fun _ h9 => h9) rfl (by decide +kernel) rfl rfl (Nat.le_of_ble_eq_true rfl) dX2_enterNextPair_96 (fun H locs hP hD hS => ?_)
            have hP : va_P D vwCl [(h0, .inr (2, [.int p0, .int p1, .int p2, .int p3, .int (p4 + 1), .int (-1), .int (p6 + 1)]))] H := hP
            have hD : va_D A [(h0, .inr (2, [.int p0, .int p1, .int p2, .int p3, .int (p4 + 1), .int (-1), .int (p6 + 1)]))] := hD
            refine lv_iconst (v := 1) hx hb dX2_enterNextPair_99 (by decide) ?_
            refine W.widen (k := 0) (n := 0) (by omega) (by omega) ?_
            exact W.zret (v := 1) (ty := .boolean) hx hb hr rfl (fun t ht hW => ⟨⟨1, [(h0, .inr (2, [.int p0, .int p1, .int p2, .int p3, .int (p4 + 1), .int (-1), .int (p6 + 1)]))], rfl, (by first | exact Or.inl ⟨_, _, rfl, rfl, Or.inl ⟨⟨by assumption, by assumption⟩, rfl, rfl⟩⟩ | exact Or.inl ⟨_, _, rfl, rfl, Or.inr ⟨fun h => by simp_all, ⟨by assumption, by assumption⟩, rfl, by first | rw [if_pos (by assumption)] | rw [if_neg (by assumption)]⟩⟩ | exact Or.inr ⟨rfl, rfl, fun h => by simp_all, fun h => by simp_all⟩), by rw [ht]; exact hP, hD⟩, hS.F ht⟩) hS.2.2 dX2_enterNextPair_100
    · refine lv_aload_n hx hb dX2_enterNextPair_21 rfl (lv_at hl 0 rfl) ?_
      refine lv_dup hx hb dX2_enterNextPair_22 rfl ?_
      refine va_get (D := D) (ci := 2) (v := .int p5) (C := RX2) (T := TX2) (N := 7) hx hb hts (by decide +kernel) hown hK hP 0 rfl rfl 5 (by decide) (hts (.fieldLink RX2 15 "JoinDesk$Position" "rightAt" "I") (by decide +kernel)) (fun _ h9 => h9) rfl dX2_enterNextPair_23 ?_
      refine lv_iconst (v := 1) hx hb dX2_enterNextPair_26 (by decide) ?_
      refine lv_iadd hx hb dX2_enterNextPair_27 ?_
      refine va_put (D := D) (ci := 2) (v := .int (p5 + 1)) (ty := .int) (C := RX2) (T := TX2) (N := 7) hx hb hts (by decide +kernel) tyX2 tyX2_ok nmX2 hown hK hP hD hS 0 rfl rfl 5 (by decide) (hts (.fieldLink RX2 15 "JoinDesk$Position" "rightAt" "I") (by decide +kernel)) (fun _ h9 => h9) rfl (by decide +kernel) rfl rfl (Nat.le_of_ble_eq_true rfl) dX2_enterNextPair_28 (fun H locs hP hD hS => ?_)
      have hP : va_P D vwCl [(h0, .inr (2, [.int p0, .int p1, .int p2, .int p3, .int p4, .int (p5 + 1), .int p6]))] H := hP
      have hD : va_D A [(h0, .inr (2, [.int p0, .int p1, .int p2, .int p3, .int p4, .int (p5 + 1), .int p6]))] := hD
      refine lv_goto (tgt := 89) hx hb dX2_enterNextPair_31 (by decide) ?_
      refine lv_aload_n hx hb dX2_enterNextPair_89 rfl (lv_at hl 0 rfl) ?_
      refine lv_dup hx hb dX2_enterNextPair_90 rfl ?_
      refine va_get (D := D) (ci := 2) (v := .int p6) (C := RX2) (T := TX2) (N := 7) hx hb hts (by decide +kernel) hown hK hP 0 rfl rfl 6 (by decide) (hts (.fieldLink RX2 30 "JoinDesk$Position" "passed" "I") (by decide +kernel)) (fun _ h9 => h9) rfl dX2_enterNextPair_91 ?_
      refine lv_iconst (v := 1) hx hb dX2_enterNextPair_94 (by decide) ?_
      refine lv_iadd hx hb dX2_enterNextPair_95 ?_
      refine va_put (D := D) (ci := 2) (v := .int (p6 + 1)) (ty := .int) (C := RX2) (T := TX2) (N := 7) hx hb hts (by decide +kernel) tyX2 tyX2_ok nmX2 hown hK hP hD hS 0 rfl rfl 6 (by decide) (hts (.fieldLink RX2 30 "JoinDesk$Position" "passed" "I") (by decide +kernel)) (fun _ h9 => h9) rfl (by decide +kernel) rfl rfl (Nat.le_of_ble_eq_true rfl) dX2_enterNextPair_96 (fun H locs hP hD hS => ?_)
      have hP : va_P D vwCl [(h0, .inr (2, [.int p0, .int p1, .int p2, .int p3, .int p4, .int (p5 + 1), .int (p6 + 1)]))] H := hP
      have hD : va_D A [(h0, .inr (2, [.int p0, .int p1, .int p2, .int p3, .int p4, .int (p5 + 1), .int (p6 + 1)]))] := hD
      refine lv_iconst (v := 1) hx hb dX2_enterNextPair_99 (by decide) ?_
      refine W.widen (k := 0) (n := 0) (by omega) (by omega) ?_
      exact W.zret (v := 1) (ty := .boolean) hx hb hr rfl (fun t ht hW => ⟨⟨1, [(h0, .inr (2, [.int p0, .int p1, .int p2, .int p3, .int p4, .int (p5 + 1), .int (p6 + 1)]))], rfl, (by first | exact Or.inl ⟨_, _, rfl, rfl, Or.inl ⟨⟨by assumption, by assumption⟩, rfl, rfl⟩⟩ | exact Or.inl ⟨_, _, rfl, rfl, Or.inr ⟨fun h => by simp_all, ⟨by assumption, by assumption⟩, rfl, by first | rw [if_pos (by assumption)] | rw [if_neg (by assumption)]⟩⟩ | exact Or.inr ⟨rfl, rfl, fun h => by simp_all, fun h => by simp_all⟩), by rw [ht]; exact hP, hD⟩, hS.F ht⟩) hS.2.2 dX2_enterNextPair_100
