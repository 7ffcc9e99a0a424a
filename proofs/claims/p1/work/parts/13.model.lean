set_option maxHeartbeats 1000000 in
set_option maxRecDepth 100000 in
theorem cM_thrown (l : Launch) (D : va_G) (cI cL cQ : ClassId) (mo : Nat) (z0 : Int32) (q1 : Nat) (z2 : Int32) (q3 : Nat) (q4 : Nat) (q5 : Nat) (q6 : Nat) (z7 : Int32) (z8 : Int32) (z9 : Int32) (w10 : Int64) (q11 : Nat) (z12 : Int32) (w13 : Int64) (w14 : Int64) : Met l yX6_thrown wsX6_thrown ({ frames := 0, cells := 0, slots := 0, locals := 0 }) (jr_P D vwCl (jT cI cL cQ) cL cQ [.ref mo] [(mo, .inr (6, [.int z0, .ref q1, .int z2, .ref q3, .ref q4, .ref q5, .ref q6, .int z7, .int z8, .int z9, .long w10, .ref q11, .int z12, .long w13, .long w14]))]) (vp_Si (fun r : Int32 => r = z0)) 0 0 (fun _ => False) := by
  refine Met.ofW (cc := cX6_thrown) (maxL := 1) (ret := (some .int)) (by decide) rfl ?_
  intro p e s m args below meth c s₁ B hml hv
  obtain ⟨rfl, hP, hK, hN⟩ := hv
  have hx := B.exec
  have hb := B.bytes
  have hr := B.returns
  have hts := atoms_spec (ws := wsX6_thrown) B.pre
  have hown : s.vm.findClass RX6 = some m.cls := findClass_of_methodNamed B.named
  have hlocks := B.notSynchronized
  have hl := lv_entry ([.ref mo]) (n := 1) (Nat.le_of_ble_eq_true rfl)
  rw [lg_entry_eq]
  generalize (lg_sl ([.ref mo]) ++ List.replicate (1 - (lg_sl ([.ref mo])).length) Slot.unset).toArray = ls at hl ⊢
  have hl : lv_has ls 1 [(0, .ref mo)] := hl
  refine lv_aload_n hx hb dX6_thrown_0 rfl (lv_at hl 0 rfl) ?_
  refine va_get (D := D) (ci := 6) (v := .int z0) (C := RX6) (T := TX6) (N := 15) hx hb hts (by decide +kernel) hown hK hP 0 rfl rfl 0 (by decide) (hts (.fieldLink RX6 36 "JoinDeskModel" "code" "I") (by decide +kernel)) (fun _ h9 => h9) rfl dX6_thrown_1 ?_
  exact W.iret (v := z0) hx hb hr (fun t ht hW => ⟨z0, rfl, (by exact rfl), ht⟩) (fun _ h => nomatch h) dX6_thrown_4
set_option maxHeartbeats 1000000 in
set_option maxRecDepth 100000 in
theorem cM_refuses_0 (l : Launch) (D : va_G) (cI cL cQ : ClassId) (mo : Nat) (z0 : Int32) (q1 : Nat) (z2 : Int32) (q3 : Nat) (q4 : Nat) (q5 : Nat) (q6 : Nat) (z7 : Int32) (z8 : Int32) (z9 : Int32) (w10 : Int64) (q11 : Nat) (z12 : Int32) (w13 : Int64) (w14 : Int64) (sz : Nat) : Met l yX6_refuses wsX6_refuses ({ frames := 0, cells := 0, slots := 0, locals := 0 }) (jw_P D vwCl (jT cI cL cQ) cL cQ [.ref mo, .int 0] [(mo, .inr (6, [.int z0, .ref q1, .int z2, .ref q3, .ref q4, .ref q5, .ref q6, .int z7, .int z8, .int z9, .long w10, .ref q11, .int z12, .long w13, .long w14]))] sz) (va_Qi (fun (r : Int32) (u : va_W) => r = 0 ∧ u = [(mo, .inr (6, [.int 0, .ref q1, .int z2, .ref q3, .ref q4, .ref q5, .ref q6, .int z7, .int z8, .int z9, .long w10, .ref q11, .int z12, .long w13, .long w14]))]) (jw_B D vwCl (va_A [(mo, .inr (6, [.int z0, .ref q1, .int z2, .ref q3, .ref q4, .ref q5, .ref q6, .int z7, .int z8, .int z9, .long w10, .ref q11, .int z12, .long w13, .long w14]))] sz) (fun u : va_W => u)) (va_A [(mo, .inr (6, [.int z0, .ref q1, .int z2, .ref q3, .ref q4, .ref q5, .ref q6, .int z7, .int z8, .int z9, .long w10, .ref q11, .int z12, .long w13, .long w14]))] sz)) 0 0 (va_A [(mo, .inr (6, [.int z0, .ref q1, .int z2, .ref q3, .ref q4, .ref q5, .ref q6, .int z7, .int z8, .int z9, .long w10, .ref q11, .int z12, .long w13, .long w14]))] sz) := by
  refine Met.ofW (cc := cX6_refuses) (maxL := 2) (ret := (some .boolean)) (by decide) rfl ?_
  intro p e s m args below meth c s₁ B hml hv
  obtain ⟨rfl, hsz, hP, hK, hN, hD0⟩ := hv
  have hx := B.exec
  have hb := B.bytes
  have hr := B.returns
  have hts := atoms_spec (ws := wsX6_refuses) B.pre
  have hown : s.vm.findClass RX6 = some m.cls := findClass_of_methodNamed B.named
  have hlocks := B.notSynchronized
  subst hsz
  have hD := hD0.self (sz := s.heap.size)
  generalize hAe : va_A [(mo, .inr (6, [.int z0, .ref q1, .int z2, .ref q3, .ref q4, .ref q5, .ref q6, .int z7, .int z8, .int z9, .long w10, .ref q11, .int z12, .long w13, .long w14]))] s.heap.size = A at hD ⊢
  have hA : ∀ q : Nat, s.heap.size ≤ q → A q := fun q h => by rw [← hAe]; exact Or.inr h
  have hS : va_S A s.heap s.heap [] := va_S.rf
  have hl := lv_entry ([.ref mo, .int 0]) (n := 2) (Nat.le_of_ble_eq_true rfl)
  rw [lg_entry_eq]
  generalize (lg_sl ([.ref mo, .int 0]) ++ List.replicate (2 - (lg_sl ([.ref mo, .int 0])).length) Slot.unset).toArray = ls at hl ⊢
  have hl : lv_has ls 2 [(0, .ref mo), (1, .int 0)] := hl
  refine lv_aload_n hx hb dX6_refuses_0 rfl (lv_at hl 0 rfl) ?_
  refine lv_iload_n hx hb dX6_refuses_1 rfl (lv_at hl 1 rfl) ?_
  refine va_put (D := D) (ci := 6) (v := .int 0) (ty := .int) (C := RX6) (T := TX6) (N := 15) hx hb hts (by decide +kernel) tyX6 tyX6_ok nmX6 hown hK hP hD hS 0 rfl rfl 0 (by decide) (hts (.fieldLink RX6 36 "JoinDeskModel" "code" "I") (by decide +kernel)) (fun _ h9 => h9) rfl (by decide +kernel) rfl rfl (Nat.le_of_ble_eq_true rfl) dX6_refuses_2 (fun H locs hP hD hS => ?_)
  have hP : va_P D vwCl [(mo, .inr (6, [.int 0, .ref q1, .int z2, .ref q3, .ref q4, .ref q5, .ref q6, .int z7, .int z8, .int z9, .long w10, .ref q11, .int z12, .long w13, .long w14]))] H := hP
  have hD : va_D A [(mo, .inr (6, [.int 0, .ref q1, .int z2, .ref q3, .ref q4, .ref q5, .ref q6, .int z7, .int z8, .int z9, .long w10, .ref q11, .int z12, .long w13, .long w14]))] := hD
  refine lv_iload_n hx hb dX6_refuses_5 rfl (lv_at hl 1 rfl) ?_
  refine lv_if_le (tgt := 13) hx hb dX6_refuses_6 (by decide) (fun c_1 => ?_) (fun c_1 => absurd c_1 (by decide))
  refine lv_iconst (v := 0) hx hb dX6_refuses_13 (by decide) ?_
  refine W.widen (k := 0) (n := 0) (by omega) (by omega) ?_
  exact W.zret (v := 0) (ty := .boolean) hx hb hr rfl (fun t ht hW => ⟨⟨0, [(mo, .inr (6, [.int 0, .ref q1, .int z2, .ref q3, .ref q4, .ref q5, .ref q6, .int z7, .int z8, .int z9, .long w10, .ref q11, .int z12, .long w13, .long w14]))], rfl, (by exact ⟨rfl, rfl⟩), by rw [ht]; exact hP, hD⟩, hS.F ht⟩) hS.2.2 dX6_refuses_14
set_option maxHeartbeats 1000000 in
set_option maxRecDepth 100000 in
theorem cM_refuses_1 (l : Launch) (D : va_G) (cI cL cQ : ClassId) (mo : Nat) (z0 : Int32) (q1 : Nat) (z2 : Int32) (q3 : Nat) (q4 : Nat) (q5 : Nat) (q6 : Nat) (z7 : Int32) (z8 : Int32) (z9 : Int32) (w10 : Int64) (q11 : Nat) (z12 : Int32) (w13 : Int64) (w14 : Int64) (sz : Nat) : Met l yX6_refuses wsX6_refuses ({ frames := 0, cells := 0, slots := 0, locals := 0 }) (jw_P D vwCl (jT cI cL cQ) cL cQ [.ref mo, .int 1] [(mo, .inr (6, [.int z0, .ref q1, .int z2, .ref q3, .ref q4, .ref q5, .ref q6, .int z7, .int z8, .int z9, .long w10, .ref q11, .int z12, .long w13, .long w14]))] sz) (va_Qi (fun (r : Int32) (u : va_W) => r = 1 ∧ u = [(mo, .inr (6, [.int 1, .ref q1, .int z2, .ref q3, .ref q4, .ref q5, .ref q6, .int z7, .int z8, .int z9, .long w10, .ref q11, .int z12, .long w13, .long w14]))]) (jw_B D vwCl (va_A [(mo, .inr (6, [.int z0, .ref q1, .int z2, .ref q3, .ref q4, .ref q5, .ref q6, .int z7, .int z8, .int z9, .long w10, .ref q11, .int z12, .long w13, .long w14]))] sz) (fun u : va_W => u)) (va_A [(mo, .inr (6, [.int z0, .ref q1, .int z2, .ref q3, .ref q4, .ref q5, .ref q6, .int z7, .int z8, .int z9, .long w10, .ref q11, .int z12, .long w13, .long w14]))] sz)) 0 0 (va_A [(mo, .inr (6, [.int z0, .ref q1, .int z2, .ref q3, .ref q4, .ref q5, .ref q6, .int z7, .int z8, .int z9, .long w10, .ref q11, .int z12, .long w13, .long w14]))] sz) := by
  refine Met.ofW (cc := cX6_refuses) (maxL := 2) (ret := (some .boolean)) (by decide) rfl ?_
  intro p e s m args below meth c s₁ B hml hv
  obtain ⟨rfl, hsz, hP, hK, hN, hD0⟩ := hv
  have hx := B.exec
  have hb := B.bytes
  have hr := B.returns
  have hts := atoms_spec (ws := wsX6_refuses) B.pre
  have hown : s.vm.findClass RX6 = some m.cls := findClass_of_methodNamed B.named
  have hlocks := B.notSynchronized
  subst hsz
  have hD := hD0.self (sz := s.heap.size)
  generalize hAe : va_A [(mo, .inr (6, [.int z0, .ref q1, .int z2, .ref q3, .ref q4, .ref q5, .ref q6, .int z7, .int z8, .int z9, .long w10, .ref q11, .int z12, .long w13, .long w14]))] s.heap.size = A at hD ⊢
  have hA : ∀ q : Nat, s.heap.size ≤ q → A q := fun q h => by rw [← hAe]; exact Or.inr h
  have hS : va_S A s.heap s.heap [] := va_S.rf
  have hl := lv_entry ([.ref mo, .int 1]) (n := 2) (Nat.le_of_ble_eq_true rfl)
  rw [lg_entry_eq]
  generalize (lg_sl ([.ref mo, .int 1]) ++ List.replicate (2 - (lg_sl ([.ref mo, .int 1])).length) Slot.unset).toArray = ls at hl ⊢
  have hl : lv_has ls 2 [(0, .ref mo), (1, .int 1)] := hl
  refine lv_aload_n hx hb dX6_refuses_0 rfl (lv_at hl 0 rfl) ?_
  refine lv_iload_n hx hb dX6_refuses_1 rfl (lv_at hl 1 rfl) ?_
  refine va_put (D := D) (ci := 6) (v := .int 1) (ty := .int) (C := RX6) (T := TX6) (N := 15) hx hb hts (by decide +kernel) tyX6 tyX6_ok nmX6 hown hK hP hD hS 0 rfl rfl 0 (by decide) (hts (.fieldLink RX6 36 "JoinDeskModel" "code" "I") (by decide +kernel)) (fun _ h9 => h9) rfl (by decide +kernel) rfl rfl (Nat.le_of_ble_eq_true rfl) dX6_refuses_2 (fun H locs hP hD hS => ?_)
  have hP : va_P D vwCl [(mo, .inr (6, [.int 1, .ref q1, .int z2, .ref q3, .ref q4, .ref q5, .ref q6, .int z7, .int z8, .int z9, .long w10, .ref q11, .int z12, .long w13, .long w14]))] H := hP
  have hD : va_D A [(mo, .inr (6, [.int 1, .ref q1, .int z2, .ref q3, .ref q4, .ref q5, .ref q6, .int z7, .int z8, .int z9, .long w10, .ref q11, .int z12, .long w13, .long w14]))] := hD
  refine lv_iload_n hx hb dX6_refuses_5 rfl (lv_at hl 1 rfl) ?_
  refine lv_if_le (tgt := 13) hx hb dX6_refuses_6 (by decide) (fun c_1 => absurd c_1 (by decide)) (fun c_1 => ?_)
  refine lv_iconst (v := 1) hx hb dX6_refuses_9 (by decide) ?_
  refine lv_goto (tgt := 14) hx hb dX6_refuses_10 (by decide) ?_
  refine W.widen (k := 0) (n := 0) (by omega) (by omega) ?_
  exact W.zret (v := 1) (ty := .boolean) hx hb hr rfl (fun t ht hW => ⟨⟨1, [(mo, .inr (6, [.int 1, .ref q1, .int z2, .ref q3, .ref q4, .ref q5, .ref q6, .int z7, .int z8, .int z9, .long w10, .ref q11, .int z12, .long w13, .long w14]))], rfl, (by exact ⟨rfl, rfl⟩), by rw [ht]; exact hP, hD⟩, hS.F ht⟩) hS.2.2 dX6_refuses_14
set_option maxHeartbeats 1000000 in
set_option maxRecDepth 100000 in
theorem cM_refuses_2 (l : Launch) (D : va_G) (cI cL cQ : ClassId) (mo : Nat) (z0 : Int32) (q1 : Nat) (z2 : Int32) (q3 : Nat) (q4 : Nat) (q5 : Nat) (q6 : Nat) (z7 : Int32) (z8 : Int32) (z9 : Int32) (w10 : Int64) (q11 : Nat) (z12 : Int32) (w13 : Int64) (w14 : Int64) (sz : Nat) : Met l yX6_refuses wsX6_refuses ({ frames := 0, cells := 0, slots := 0, locals := 0 }) (jw_P D vwCl (jT cI cL cQ) cL cQ [.ref mo, .int 2] [(mo, .inr (6, [.int z0, .ref q1, .int z2, .ref q3, .ref q4, .ref q5, .ref q6, .int z7, .int z8, .int z9, .long w10, .ref q11, .int z12, .long w13, .long w14]))] sz) (va_Qi (fun (r : Int32) (u : va_W) => r = 1 ∧ u = [(mo, .inr (6, [.int 2, .ref q1, .int z2, .ref q3, .ref q4, .ref q5, .ref q6, .int z7, .int z8, .int z9, .long w10, .ref q11, .int z12, .long w13, .long w14]))]) (jw_B D vwCl (va_A [(mo, .inr (6, [.int z0, .ref q1, .int z2, .ref q3, .ref q4, .ref q5, .ref q6, .int z7, .int z8, .int z9, .long w10, .ref q11, .int z12, .long w13, .long w14]))] sz) (fun u : va_W => u)) (va_A [(mo, .inr (6, [.int z0, .ref q1, .int z2, .ref q3, .ref q4, .ref q5, .ref q6, .int z7, .int z8, .int z9, .long w10, .ref q11, .int z12, .long w13, .long w14]))] sz)) 0 0 (va_A [(mo, .inr (6, [.int z0, .ref q1, .int z2, .ref q3, .ref q4, .ref q5, .ref q6, .int z7, .int z8, .int z9, .long w10, .ref q11, .int z12, .long w13, .long w14]))] sz) := by
  refine Met.ofW (cc := cX6_refuses) (maxL := 2) (ret := (some .boolean)) (by decide) rfl ?_
  intro p e s m args below meth c s₁ B hml hv
  obtain ⟨rfl, hsz, hP, hK, hN, hD0⟩ := hv
  have hx := B.exec
  have hb := B.bytes
  have hr := B.returns
  have hts := atoms_spec (ws := wsX6_refuses) B.pre
  have hown : s.vm.findClass RX6 = some m.cls := findClass_of_methodNamed B.named
  have hlocks := B.notSynchronized
  subst hsz
  have hD := hD0.self (sz := s.heap.size)
  generalize hAe : va_A [(mo, .inr (6, [.int z0, .ref q1, .int z2, .ref q3, .ref q4, .ref q5, .ref q6, .int z7, .int z8, .int z9, .long w10, .ref q11, .int z12, .long w13, .long w14]))] s.heap.size = A at hD ⊢
  have hA : ∀ q : Nat, s.heap.size ≤ q → A q := fun q h => by rw [← hAe]; exact Or.inr h
  have hS : va_S A s.heap s.heap [] := va_S.rf
  have hl := lv_entry ([.ref mo, .int 2]) (n := 2) (Nat.le_of_ble_eq_true rfl)
  rw [lg_entry_eq]
  generalize (lg_sl ([.ref mo, .int 2]) ++ List.replicate (2 - (lg_sl ([.ref mo, .int 2])).length) Slot.unset).toArray = ls at hl ⊢
  have hl : lv_has ls 2 [(0, .ref mo), (1, .int 2)] := hl
  refine lv_aload_n hx hb dX6_refuses_0 rfl (lv_at hl 0 rfl) ?_
  refine lv_iload_n hx hb dX6_refuses_1 rfl (lv_at hl 1 rfl) ?_
  refine va_put (D := D) (ci := 6) (v := .int 2) (ty := .int) (C := RX6) (T := TX6) (N := 15) hx hb hts (by decide +kernel) tyX6 tyX6_ok nmX6 hown hK hP hD hS 0 rfl rfl 0 (by decide) (hts (.fieldLink RX6 36 "JoinDeskModel" "code" "I") (by decide +kernel)) (fun _ h9 => h9) rfl (by decide +kernel) rfl rfl (Nat.le_of_ble_eq_true rfl) dX6_refuses_2 (fun H locs hP hD hS => ?_)
  have hP : va_P D vwCl [(mo, .inr (6, [.int 2, .ref q1, .int z2, .ref q3, .ref q4, .ref q5, .ref q6, .int z7, .int z8, .int z9, .long w10, .ref q11, .int z12, .long w13, .long w14]))] H := hP
  have hD : va_D A [(mo, .inr (6, [.int 2, .ref q1, .int z2, .ref q3, .ref q4, .ref q5, .ref q6, .int z7, .int z8, .int z9, .long w10, .ref q11, .int z12, .long w13, .long w14]))] := hD
  refine lv_iload_n hx hb dX6_refuses_5 rfl (lv_at hl 1 rfl) ?_
  refine lv_if_le (tgt := 13) hx hb dX6_refuses_6 (by decide) (fun c_1 => absurd c_1 (by decide)) (fun c_1 => ?_)
  refine lv_iconst (v := 1) hx hb dX6_refuses_9 (by decide) ?_
  refine lv_goto (tgt := 14) hx hb dX6_refuses_10 (by decide) ?_
  refine W.widen (k := 0) (n := 0) (by omega) (by omega) ?_
  exact W.zret (v := 1) (ty := .boolean) hx hb hr rfl (fun t ht hW => ⟨⟨1, [(mo, .inr (6, [.int 2, .ref q1, .int z2, .ref q3, .ref q4, .ref q5, .ref q6, .int z7, .int z8, .int z9, .long w10, .ref q11, .int z12, .long w13, .long w14]))], rfl, (by exact ⟨rfl, rfl⟩), by rw [ht]; exact hP, hD⟩, hS.F ht⟩) hS.2.2 dX6_refuses_14
set_option maxHeartbeats 1000000 in
set_option maxRecDepth 100000 in
theorem cM_between (l : Launch) (D : va_G) (cI cL cQ : ClassId) (x : Int32) : Met l yX6_between wsX6_between ({ frames := 0, cells := 0, slots := 0, locals := 0 }) (jr_P D vwCl (jT cI cL cQ) cL cQ [.int x] []) (vp_Si (fun r : Int32 => r = nI (jroom x))) 0 0 (fun _ => False) := by
  refine Met.ofW (cc := cX6_between) (maxL := 1) (ret := (some .int)) (by decide) rfl ?_
  intro p e s m args below meth c s₁ B hml hv
  obtain ⟨rfl, hP, hK, hN⟩ := hv
  have hx := B.exec
  have hb := B.bytes
  have hr := B.returns
  have hts := atoms_spec (ws := wsX6_between) B.pre
  have hown : s.vm.findClass RX6 = some m.cls := findClass_of_methodNamed B.named
  have hlocks := B.notSynchronized
  have hl := lv_entry ([.int x]) (n := 1) (Nat.le_of_ble_eq_true rfl)
  rw [lg_entry_eq]
  generalize (lg_sl ([.int x]) ++ List.replicate (1 - (lg_sl ([.int x])).length) Slot.unset).toArray = ls at hl ⊢
  have hl : lv_has ls 1 [(0, .int x)] := hl
  refine lv_iload_n hx hb dX6_between_0 rfl (lv_at hl 0 rfl) ?_
  refine lv_if_ge (tgt := 8) hx hb dX6_between_1 (by decide) (fun c_1 => ?_) (fun c_1 => ?_)
  · refine lv_iload_n hx hb dX6_between_8 rfl (lv_at hl 0 rfl) ?_
    refine lv_sipush (v := 400) hx hb dX6_between_9 (by decide) ?_
    refine lv_icmp_le (tgt := 21) hx hb dX6_between_12 (by decide) (fun c_2 => ?_) (fun c_2 => ?_)
    · refine lv_iload_n hx hb dX6_between_21 rfl (lv_at hl 0 rfl) ?_
      exact W.iret (v := x) hx hb hr (fun t ht hW => ⟨x, rfl, (by first | exact jroom_0 (by assumption) | exact jroom_400 (by assumption) (by assumption) | exact jroom_w (by assumption) (by assumption)), ht⟩) (fun _ h => nomatch h) dX6_between_22
    · refine lv_sipush (v := 400) hx hb dX6_between_15 (by decide) ?_
      refine lv_goto (tgt := 22) hx hb dX6_between_18 (by decide) ?_
      exact W.iret (v := 400) hx hb hr (fun t ht hW => ⟨400, rfl, (by first | exact jroom_0 (by assumption) | exact jroom_400 (by assumption) (by assumption) | exact jroom_w (by assumption) (by assumption)), ht⟩) (fun _ h => nomatch h) dX6_between_22
  · refine lv_iconst (v := 0) hx hb dX6_between_4 (by decide) ?_
    refine lv_goto (tgt := 22) hx hb dX6_between_5 (by decide) ?_
    exact W.iret (v := 0) hx hb hr (fun t ht hW => ⟨0, rfl, (by first | exact jroom_0 (by assumption) | exact jroom_400 (by assumption) (by assumption) | exact jroom_w (by assumption) (by assumption)), ht⟩) (fun _ h => nomatch h) dX6_between_22
set_option maxHeartbeats 1000000 in
set_option maxRecDepth 100000 in
theorem cM_begins (l : Launch) (D : va_G) (cI cL cQ : ClassId) (mo : Nat) (z0 : Int32) (q1 : Nat) (z2 : Int32) (q3 : Nat) (q4 : Nat) (q5 : Nat) (q6 : Nat) (z7 : Int32) (z8 : Int32) (z9 : Int32) (w10 : Int64) (q11 : Nat) (z12 : Int32) (w13 : Int64) (w14 : Int64) (f11 : Nat → Int32) (sz : Nat) : Met l yX6_begins wsX6_begins ({ frames := 0, cells := 0, slots := 0, locals := 0 }) (jw_P D vwCl (jT cI cL cQ) cL cQ [.ref mo] [(mo, .inr (6, [.int z0, .ref q1, .int z2, .ref q3, .ref q4, .ref q5, .ref q6, .int z7, .int z8, .int z9, .long w10, .ref q11, .int z12, .long w13, .long w14])), (q11, .inl (cI, 24, .inl f11))] sz) (va_Qv (fun u : va_W => ∃ (g11 : Nat → Int32), u = [(mo, .inr (6, [.int z0, .ref q1, .int z2, .ref q3, .ref q4, .ref q5, .ref q6, .int z7, .int z8, .int z9, .long w10, .ref q11, .int z12, .long w13, .long w14])), (q11, .inl (cI, 24, .inl g11))]) (jw_B D vwCl (va_A [(mo, .inr (6, [.int z0, .ref q1, .int z2, .ref q3, .ref q4, .ref q5, .ref q6, .int z7, .int z8, .int z9, .long w10, .ref q11, .int z12, .long w13, .long w14])), (q11, .inl (cI, 24, .inl f11))] sz) (fun u : va_W => u)) (va_A [(mo, .inr (6, [.int z0, .ref q1, .int z2, .ref q3, .ref q4, .ref q5, .ref q6, .int z7, .int z8, .int z9, .long w10, .ref q11, .int z12, .long w13, .long w14])), (q11, .inl (cI, 24, .inl f11))] sz)) 0 0 (va_A [(mo, .inr (6, [.int z0, .ref q1, .int z2, .ref q3, .ref q4, .ref q5, .ref q6, .int z7, .int z8, .int z9, .long w10, .ref q11, .int z12, .long w13, .long w14])), (q11, .inl (cI, 24, .inl f11))] sz) := by
  refine Met.ofW (cc := cX6_begins) (maxL := 2) (ret := none) (by decide) rfl ?_
  intro p e s m args below meth c s₁ B hml hv
  obtain ⟨rfl, hsz, hP, hK, hN, hD0⟩ := hv
  have hx := B.exec
  have hb := B.bytes
  have hr := B.returns
  have hts := atoms_spec (ws := wsX6_begins) B.pre
  have hown : s.vm.findClass RX6 = some m.cls := findClass_of_methodNamed B.named
  have hlocks := B.notSynchronized
  subst hsz
  have hD := hD0.self (sz := s.heap.size)
  generalize hAe : va_A [(mo, .inr (6, [.int z0, .ref q1, .int z2, .ref q3, .ref q4, .ref q5, .ref q6, .int z7, .int z8, .int z9, .long w10, .ref q11, .int z12, .long w13, .long w14])), (q11, .inl (cI, 24, .inl f11))] s.heap.size = A at hD ⊢
  have hA : ∀ q : Nat, s.heap.size ≤ q → A q := fun q h => by rw [← hAe]; exact Or.inr h
  have hS : va_S A s.heap s.heap [] := va_S.rf
  have hl := lv_entry ([.ref mo]) (n := 2) (Nat.le_of_ble_eq_true rfl)
  rw [lg_entry_eq]
  generalize (lg_sl ([.ref mo]) ++ List.replicate (2 - (lg_sl ([.ref mo])).length) Slot.unset).toArray = ls at hl ⊢
  have hl : lv_has ls 2 [(0, .ref mo)] := hl
  refine lv_iconst (v := 0) hx hb dX6_begins_0 (by decide) ?_
  refine lv_istore_n (lv' := [(1, .int 0), (0, .ref mo)]) hx hb dX6_begins_1 rfl hl (by decide) rfl (fun ls hl => ?_)
  refine lv_iload_n hx hb dX6_begins_2 rfl (lv_at hl 0 rfl) ?_
  refine lv_bipush (v := 12) hx hb dX6_begins_3 (by decide) ?_
  refine lv_icmp_ge (tgt := 21) hx hb dX6_begins_5 (by decide) (fun c_1 => absurd c_1 (by decide)) (fun c_1 => ?_)
  refine lv_aload_n hx hb dX6_begins_8 rfl (lv_at hl 1 rfl) ?_
  refine va_get (D := D) (ci := 6) (v := .ref q11) (C := RX6) (T := TX6) (N := 15) hx hb hts (by decide +kernel) hown hK hP 0 rfl rfl 11 (by decide) (hts (.fieldLink RX6 25 "JoinDeskModel" "at" "[I") (by decide +kernel)) (fun _ h9 => h9) rfl dX6_begins_9 ?_
  refine lv_iload_n hx hb dX6_begins_12 rfl (lv_at hl 0 rfl) ?_
  refine lv_iconst (v := 0) hx hb dX6_begins_13 (by decide) ?_
  refine va_iast hx hb hK hP hD hS 1 0 rfl rfl (by unfold vp_in; decide) dX6_begins_14 (fun H locs hP hD hS => ?_)
  have hP : va_P D vwCl [(mo, .inr (6, [.int z0, .ref q1, .int z2, .ref q3, .ref q4, .ref q5, .ref q6, .int z7, .int z8, .int z9, .long w10, .ref q11, .int z12, .long w13, .long w14])), (q11, .inl (cI, 24, .inl (upd f11 (0 : Int32).toNatClampNeg 0)))] H := hP
  have hD : va_D A [(mo, .inr (6, [.int z0, .ref q1, .int z2, .ref q3, .ref q4, .ref q5, .ref q6, .int z7, .int z8, .int z9, .long w10, .ref q11, .int z12, .long w13, .long w14])), (q11, .inl (cI, 24, .inl (upd f11 (0 : Int32).toNatClampNeg 0)))] := hD
  refine lv_iinc (v := 1) (lv' := [(1, .int 1), (0, .ref mo)]) hx hb dX6_begins_15 hl (k := 0) rfl (by first | rfl | decide) (by decide) rfl (fun ls hl => ?_)
  refine lv_goto (tgt := 2) hx hb dX6_begins_18 (by decide) ?_
  refine lv_iload_n hx hb dX6_begins_2 rfl (lv_at hl 0 rfl) ?_
  refine lv_bipush (v := 12) hx hb dX6_begins_3 (by decide) ?_
  refine lv_icmp_ge (tgt := 21) hx hb dX6_begins_5 (by decide) (fun c_2 => absurd c_2 (by decide)) (fun c_2 => ?_)
  refine lv_aload_n hx hb dX6_begins_8 rfl (lv_at hl 1 rfl) ?_
  refine va_get (D := D) (ci := 6) (v := .ref q11) (C := RX6) (T := TX6) (N := 15) hx hb hts (by decide +kernel) hown hK hP 0 rfl rfl 11 (by decide) (hts (.fieldLink RX6 25 "JoinDeskModel" "at" "[I") (by decide +kernel)) (fun _ h9 => h9) rfl dX6_begins_9 ?_
  refine lv_iload_n hx hb dX6_begins_12 rfl (lv_at hl 0 rfl) ?_
  refine lv_iconst (v := 0) hx hb dX6_begins_13 (by decide) ?_
  refine va_iast hx hb hK hP hD hS 1 0 rfl rfl (by unfold vp_in; decide) dX6_begins_14 (fun H locs hP hD hS => ?_)
  have hP : va_P D vwCl [(mo, .inr (6, [.int z0, .ref q1, .int z2, .ref q3, .ref q4, .ref q5, .ref q6, .int z7, .int z8, .int z9, .long w10, .ref q11, .int z12, .long w13, .long w14])), (q11, .inl (cI, 24, .inl (upd (upd f11 (0 : Int32).toNatClampNeg 0) (1 : Int32).toNatClampNeg 0)))] H := hP
  have hD : va_D A [(mo, .inr (6, [.int z0, .ref q1, .int z2, .ref q3, .ref q4, .ref q5, .ref q6, .int z7, .int z8, .int z9, .long w10, .ref q11, .int z12, .long w13, .long w14])), (q11, .inl (cI, 24, .inl (upd (upd f11 (0 : Int32).toNatClampNeg 0) (1 : Int32).toNatClampNeg 0)))] := hD
  refine lv_iinc (v := 2) (lv' := [(1, .int 2), (0, .ref mo)]) hx hb dX6_begins_15 hl (k := 0) rfl (by first | rfl | decide) (by decide) rfl (fun ls hl => ?_)
  refine lv_goto (tgt := 2) hx hb dX6_begins_18 (by decide) ?_
  refine lv_iload_n hx hb dX6_begins_2 rfl (lv_at hl 0 rfl) ?_
  refine lv_bipush (v := 12) hx hb dX6_begins_3 (by decide) ?_
  refine lv_icmp_ge (tgt := 21) hx hb dX6_begins_5 (by decide) (fun c_3 => absurd c_3 (by decide)) (fun c_3 => ?_)
  refine lv_aload_n hx hb dX6_begins_8 rfl (lv_at hl 1 rfl) ?_
  refine va_get (D := D) (ci := 6) (v := .ref q11) (C := RX6) (T := TX6) (N := 15) hx hb hts (by decide +kernel) hown hK hP 0 rfl rfl 11 (by decide) (hts (.fieldLink RX6 25 "JoinDeskModel" "at" "[I") (by decide +kernel)) (fun _ h9 => h9) rfl dX6_begins_9 ?_
  refine lv_iload_n hx hb dX6_begins_12 rfl (lv_at hl 0 rfl) ?_
  refine lv_iconst (v := 0) hx hb dX6_begins_13 (by decide) ?_
  refine va_iast hx hb hK hP hD hS 1 0 rfl rfl (by unfold vp_in; decide) dX6_begins_14 (fun H locs hP hD hS => ?_)
  have hP : va_P D vwCl [(mo, .inr (6, [.int z0, .ref q1, .int z2, .ref q3, .ref q4, .ref q5, .ref q6, .int z7, .int z8, .int z9, .long w10, .ref q11, .int z12, .long w13, .long w14])), (q11, .inl (cI, 24, .inl (upd (upd (upd f11 (0 : Int32).toNatClampNeg 0) (1 : Int32).toNatClampNeg 0) (2 : Int32).toNatClampNeg 0)))] H := hP
  have hD : va_D A [(mo, .inr (6, [.int z0, .ref q1, .int z2, .ref q3, .ref q4, .ref q5, .ref q6, .int z7, .int z8, .int z9, .long w10, .ref q11, .int z12, .long w13, .long w14])), (q11, .inl (cI, 24, .inl (upd (upd (upd f11 (0 : Int32).toNatClampNeg 0) (1 : Int32).toNatClampNeg 0) (2 : Int32).toNatClampNeg 0)))] := hD
  refine lv_iinc (v := 3) (lv' := [(1, .int 3), (0, .ref mo)]) hx hb dX6_begins_15 hl (k := 0) rfl (by first | rfl | decide) (by decide) rfl (fun ls hl => ?_)
  refine lv_goto (tgt := 2) hx hb dX6_begins_18 (by decide) ?_
  refine lv_iload_n hx hb dX6_begins_2 rfl (lv_at hl 0 rfl) ?_
  refine lv_bipush (v := 12) hx hb dX6_begins_3 (by decide) ?_
  refine lv_icmp_ge (tgt := 21) hx hb dX6_begins_5 (by decide) (fun c_4 => absurd c_4 (by decide)) (fun c_4 => ?_)
  refine lv_aload_n hx hb dX6_begins_8 rfl (lv_at hl 1 rfl) ?_
  refine va_get (D := D) (ci := 6) (v := .ref q11) (C := RX6) (T := TX6) (N := 15) hx hb hts (by decide +kernel) hown hK hP 0 rfl rfl 11 (by decide) (hts (.fieldLink RX6 25 "JoinDeskModel" "at" "[I") (by decide +kernel)) (fun _ h9 => h9) rfl dX6_begins_9 ?_
  refine lv_iload_n hx hb dX6_begins_12 rfl (lv_at hl 0 rfl) ?_
  refine lv_iconst (v := 0) hx hb dX6_begins_13 (by decide) ?_
  refine va_iast hx hb hK hP hD hS 1 0 rfl rfl (by unfold vp_in; decide) dX6_begins_14 (fun H locs hP hD hS => ?_)
  have hP : va_P D vwCl [(mo, .inr (6, [.int z0, .ref q1, .int z2, .ref q3, .ref q4, .ref q5, .ref q6, .int z7, .int z8, .int z9, .long w10, .ref q11, .int z12, .long w13, .long w14])), (q11, .inl (cI, 24, .inl (upd (upd (upd (upd f11 (0 : Int32).toNatClampNeg 0) (1 : Int32).toNatClampNeg 0) (2 : Int32).toNatClampNeg 0) (3 : Int32).toNatClampNeg 0)))] H := hP
  have hD : va_D A [(mo, .inr (6, [.int z0, .ref q1, .int z2, .ref q3, .ref q4, .ref q5, .ref q6, .int z7, .int z8, .int z9, .long w10, .ref q11, .int z12, .long w13, .long w14])), (q11, .inl (cI, 24, .inl (upd (upd (upd (upd f11 (0 : Int32).toNatClampNeg 0) (1 : Int32).toNatClampNeg 0) (2 : Int32).toNatClampNeg 0) (3 : Int32).toNatClampNeg 0)))] := hD
  refine lv_iinc (v := 4) (lv' := [(1, .int 4), (0, .ref mo)]) hx hb dX6_begins_15 hl (k := 0) rfl (by first | rfl | decide) (by decide) rfl (fun ls hl => ?_)
  refine lv_goto (tgt := 2) hx hb dX6_begins_18 (by decide) ?_
  refine lv_iload_n hx hb dX6_begins_2 rfl (lv_at hl 0 rfl) ?_
  refine lv_bipush (v := 12) hx hb dX6_begins_3 (by decide) ?_
  refine lv_icmp_ge (tgt := 21) hx hb dX6_begins_5 (by decide) (fun c_5 => absurd c_5 (by decide)) (fun c_5 => ?_)
  refine lv_aload_n hx hb dX6_begins_8 rfl (lv_at hl 1 rfl) ?_
  refine va_get (D := D) (ci := 6) (v := .ref q11) (C := RX6) (T := TX6) (N := 15) hx hb hts (by decide +kernel) hown hK hP 0 rfl rfl 11 (by decide) (hts (.fieldLink RX6 25 "JoinDeskModel" "at" "[I") (by decide +kernel)) (fun _ h9 => h9) rfl dX6_begins_9 ?_
  refine lv_iload_n hx hb dX6_begins_12 rfl (lv_at hl 0 rfl) ?_
  refine lv_iconst (v := 0) hx hb dX6_begins_13 (by decide) ?_
  refine va_iast hx hb hK hP hD hS 1 0 rfl rfl (by unfold vp_in; decide) dX6_begins_14 (fun H locs hP hD hS => ?_)
  have hP : va_P D vwCl [(mo, .inr (6, [.int z0, .ref q1, .int z2, .ref q3, .ref q4, .ref q5, .ref q6, .int z7, .int z8, .int z9, .long w10, .ref q11, .int z12, .long w13, .long w14])), (q11, .inl (cI, 24, .inl (upd (upd (upd (upd (upd f11 (0 : Int32).toNatClampNeg 0) (1 : Int32).toNatClampNeg 0) (2 : Int32).toNatClampNeg 0) (3 : Int32).toNatClampNeg 0) (4 : Int32).toNatClampNeg 0)))] H := hP
  have hD : va_D A [(mo, .inr (6, [.int z0, .ref q1, .int z2, .ref q3, .ref q4, .ref q5, .ref q6, .int z7, .int z8, .int z9, .long w10, .ref q11, .int z12, .long w13, .long w14])), (q11, .inl (cI, 24, .inl (upd (upd (upd (upd (upd f11 (0 : Int32).toNatClampNeg 0) (1 : Int32).toNatClampNeg 0) (2 : Int32).toNatClampNeg 0) (3 : Int32).toNatClampNeg 0) (4 : Int32).toNatClampNeg 0)))] := hD
  refine lv_iinc (v := 5) (lv' := [(1, .int 5), (0, .ref mo)]) hx hb dX6_begins_15 hl (k := 0) rfl (by first | rfl | decide) (by decide) rfl (fun ls hl => ?_)
  refine lv_goto (tgt := 2) hx hb dX6_begins_18 (by decide) ?_
  refine lv_iload_n hx hb dX6_begins_2 rfl (lv_at hl 0 rfl) ?_
  refine lv_bipush (v := 12) hx hb dX6_begins_3 (by decide) ?_
  refine lv_icmp_ge (tgt := 21) hx hb dX6_begins_5 (by decide) (fun c_6 => absurd c_6 (by decide)) (fun c_6 => ?_)
  refine lv_aload_n hx hb dX6_begins_8 rfl (lv_at hl 1 rfl) ?_
  refine va_get (D := D) (ci := 6) (v := .ref q11) (C := RX6) (T := TX6) (N := 15) hx hb hts (by decide +kernel) hown hK hP 0 rfl rfl 11 (by decide) (hts (.fieldLink RX6 25 "JoinDeskModel" "at" "[I") (by decide +kernel)) (fun _ h9 => h9) rfl dX6_begins_9 ?_
  refine lv_iload_n hx hb dX6_begins_12 rfl (lv_at hl 0 rfl) ?_
  refine lv_iconst (v := 0) hx hb dX6_begins_13 (by decide) ?_
  refine va_iast hx hb hK hP hD hS 1 0 rfl rfl (by unfold vp_in; decide) dX6_begins_14 (fun H locs hP hD hS => ?_)
  have hP : va_P D vwCl [(mo, .inr (6, [.int z0, .ref q1, .int z2, .ref q3, .ref q4, .ref q5, .ref q6, .int z7, .int z8, .int z9, .long w10, .ref q11, .int z12, .long w13, .long w14])), (q11, .inl (cI, 24, .inl (upd (upd (upd (upd (upd (upd f11 (0 : Int32).toNatClampNeg 0) (1 : Int32).toNatClampNeg 0) (2 : Int32).toNatClampNeg 0) (3 : Int32).toNatClampNeg 0) (4 : Int32).toNatClampNeg 0) (5 : Int32).toNatClampNeg 0)))] H := hP
  have hD : va_D A [(mo, .inr (6, [.int z0, .ref q1, .int z2, .ref q3, .ref q4, .ref q5, .ref q6, .int z7, .int z8, .int z9, .long w10, .ref q11, .int z12, .long w13, .long w14])), (q11, .inl (cI, 24, .inl (upd (upd (upd (upd (upd (upd f11 (0 : Int32).toNatClampNeg 0) (1 : Int32).toNatClampNeg 0) (2 : Int32).toNatClampNeg 0) (3 : Int32).toNatClampNeg 0) (4 : Int32).toNatClampNeg 0) (5 : Int32).toNatClampNeg 0)))] := hD
  refine lv_iinc (v := 6) (lv' := [(1, .int 6), (0, .ref mo)]) hx hb dX6_begins_15 hl (k := 0) rfl (by first | rfl | decide) (by decide) rfl (fun ls hl => ?_)
  refine lv_goto (tgt := 2) hx hb dX6_begins_18 (by decide) ?_
  refine lv_iload_n hx hb dX6_begins_2 rfl (lv_at hl 0 rfl) ?_
  refine lv_bipush (v := 12) hx hb dX6_begins_3 (by decide) ?_
  refine lv_icmp_ge (tgt := 21) hx hb dX6_begins_5 (by decide) (fun c_7 => absurd c_7 (by decide)) (fun c_7 => ?_)
  refine lv_aload_n hx hb dX6_begins_8 rfl (lv_at hl 1 rfl) ?_
  refine va_get (D := D) (ci := 6) (v := .ref q11) (C := RX6) (T := TX6) (N := 15) hx hb hts (by decide +kernel) hown hK hP 0 rfl rfl 11 (by decide) (hts (.fieldLink RX6 25 "JoinDeskModel" "at" "[I") (by decide +kernel)) (fun _ h9 => h9) rfl dX6_begins_9 ?_
  refine lv_iload_n hx hb dX6_begins_12 rfl (lv_at hl 0 rfl) ?_
  refine lv_iconst (v := 0) hx hb dX6_begins_13 (by decide) ?_
  refine va_iast hx hb hK hP hD hS 1 0 rfl rfl (by unfold vp_in; decide) dX6_begins_14 (fun H locs hP hD hS => ?_)
  have hP : va_P D vwCl [(mo, .inr (6, [.int z0, .ref q1, .int z2, .ref q3, .ref q4, .ref q5, .ref q6, .int z7, .int z8, .int z9, .long w10, .ref q11, .int z12, .long w13, .long w14])), (q11, .inl (cI, 24, .inl (upd (upd (upd (upd (upd (upd (upd f11 (0 : Int32).toNatClampNeg 0) (1 : Int32).toNatClampNeg 0) (2 : Int32).toNatClampNeg 0) (3 : Int32).toNatClampNeg 0) (4 : Int32).toNatClampNeg 0) (5 : Int32).toNatClampNeg 0) (6 : Int32).toNatClampNeg 0)))] H := hP
  have hD : va_D A [(mo, .inr (6, [.int z0, .ref q1, .int z2, .ref q3, .ref q4, .ref q5, .ref q6, .int z7, .int z8, .int z9, .long w10, .ref q11, .int z12, .long w13, .long w14])), (q11, .inl (cI, 24, .inl (upd (upd (upd (upd (upd (upd (upd f11 (0 : Int32).toNatClampNeg 0) (1 : Int32).toNatClampNeg 0) (2 : Int32).toNatClampNeg 0) (3 : Int32).toNatClampNeg 0) (4 : Int32).toNatClampNeg 0) (5 : Int32).toNatClampNeg 0) (6 : Int32).toNatClampNeg 0)))] := hD
  refine lv_iinc (v := 7) (lv' := [(1, .int 7), (0, .ref mo)]) hx hb dX6_begins_15 hl (k := 0) rfl (by first | rfl | decide) (by decide) rfl (fun ls hl => ?_)
  refine lv_goto (tgt := 2) hx hb dX6_begins_18 (by decide) ?_
  refine lv_iload_n hx hb dX6_begins_2 rfl (lv_at hl 0 rfl) ?_
  refine lv_bipush (v := 12) hx hb dX6_begins_3 (by decide) ?_
  refine lv_icmp_ge (tgt := 21) hx hb dX6_begins_5 (by decide) (fun c_8 => absurd c_8 (by decide)) (fun c_8 => ?_)
  refine lv_aload_n hx hb dX6_begins_8 rfl (lv_at hl 1 rfl) ?_
  refine va_get (D := D) (ci := 6) (v := .ref q11) (C := RX6) (T := TX6) (N := 15) hx hb hts (by decide +kernel) hown hK hP 0 rfl rfl 11 (by decide) (hts (.fieldLink RX6 25 "JoinDeskModel" "at" "[I") (by decide +kernel)) (fun _ h9 => h9) rfl dX6_begins_9 ?_
  refine lv_iload_n hx hb dX6_begins_12 rfl (lv_at hl 0 rfl) ?_
  refine lv_iconst (v := 0) hx hb dX6_begins_13 (by decide) ?_
  refine va_iast hx hb hK hP hD hS 1 0 rfl rfl (by unfold vp_in; decide) dX6_begins_14 (fun H locs hP hD hS => ?_)
  have hP : va_P D vwCl [(mo, .inr (6, [.int z0, .ref q1, .int z2, .ref q3, .ref q4, .ref q5, .ref q6, .int z7, .int z8, .int z9, .long w10, .ref q11, .int z12, .long w13, .long w14])), (q11, .inl (cI, 24, .inl (upd (upd (upd (upd (upd (upd (upd (upd f11 (0 : Int32).toNatClampNeg 0) (1 : Int32).toNatClampNeg 0) (2 : Int32).toNatClampNeg 0) (3 : Int32).toNatClampNeg 0) (4 : Int32).toNatClampNeg 0) (5 : Int32).toNatClampNeg 0) (6 : Int32).toNatClampNeg 0) (7 : Int32).toNatClampNeg 0)))] H := hP
  have hD : va_D A [(mo, .inr (6, [.int z0, .ref q1, .int z2, .ref q3, .ref q4, .ref q5, .ref q6, .int z7, .int z8, .int z9, .long w10, .ref q11, .int z12, .long w13, .long w14])), (q11, .inl (cI, 24, .inl (upd (upd (upd (upd (upd (upd (upd (upd f11 (0 : Int32).toNatClampNeg 0) (1 : Int32).toNatClampNeg 0) (2 : Int32).toNatClampNeg 0) (3 : Int32).toNatClampNeg 0) (4 : Int32).toNatClampNeg 0) (5 : Int32).toNatClampNeg 0) (6 : Int32).toNatClampNeg 0) (7 : Int32).toNatClampNeg 0)))] := hD
  refine lv_iinc (v := 8) (lv' := [(1, .int 8), (0, .ref mo)]) hx hb dX6_begins_15 hl (k := 0) rfl (by first | rfl | decide) (by decide) rfl (fun ls hl => ?_)
  refine lv_goto (tgt := 2) hx hb dX6_begins_18 (by decide) ?_
  refine lv_iload_n hx hb dX6_begins_2 rfl (lv_at hl 0 rfl) ?_
  refine lv_bipush (v := 12) hx hb dX6_begins_3 (by decide) ?_
  refine lv_icmp_ge (tgt := 21) hx hb dX6_begins_5 (by decide) (fun c_9 => absurd c_9 (by decide)) (fun c_9 => ?_)
  refine lv_aload_n hx hb dX6_begins_8 rfl (lv_at hl 1 rfl) ?_
  refine va_get (D := D) (ci := 6) (v := .ref q11) (C := RX6) (T := TX6) (N := 15) hx hb hts (by decide +kernel) hown hK hP 0 rfl rfl 11 (by decide) (hts (.fieldLink RX6 25 "JoinDeskModel" "at" "[I") (by decide +kernel)) (fun _ h9 => h9) rfl dX6_begins_9 ?_
  refine lv_iload_n hx hb dX6_begins_12 rfl (lv_at hl 0 rfl) ?_
  refine lv_iconst (v := 0) hx hb dX6_begins_13 (by decide) ?_
  refine va_iast hx hb hK hP hD hS 1 0 rfl rfl (by unfold vp_in; decide) dX6_begins_14 (fun H locs hP hD hS => ?_)
  have hP : va_P D vwCl [(mo, .inr (6, [.int z0, .ref q1, .int z2, .ref q3, .ref q4, .ref q5, .ref q6, .int z7, .int z8, .int z9, .long w10, .ref q11, .int z12, .long w13, .long w14])), (q11, .inl (cI, 24, .inl (upd (upd (upd (upd (upd (upd (upd (upd (upd f11 (0 : Int32).toNatClampNeg 0) (1 : Int32).toNatClampNeg 0) (2 : Int32).toNatClampNeg 0) (3 : Int32).toNatClampNeg 0) (4 : Int32).toNatClampNeg 0) (5 : Int32).toNatClampNeg 0) (6 : Int32).toNatClampNeg 0) (7 : Int32).toNatClampNeg 0) (8 : Int32).toNatClampNeg 0)))] H := hP
  have hD : va_D A [(mo, .inr (6, [.int z0, .ref q1, .int z2, .ref q3, .ref q4, .ref q5, .ref q6, .int z7, .int z8, .int z9, .long w10, .ref q11, .int z12, .long w13, .long w14])), (q11, .inl (cI, 24, .inl (upd (upd (upd (upd (upd (upd (upd (upd (upd f11 (0 : Int32).toNatClampNeg 0) (1 : Int32).toNatClampNeg 0) (2 : Int32).toNatClampNeg 0) (3 : Int32).toNatClampNeg 0) (4 : Int32).toNatClampNeg 0) (5 : Int32).toNatClampNeg 0) (6 : Int32).toNatClampNeg 0) (7 : Int32).toNatClampNeg 0) (8 : Int32).toNatClampNeg 0)))] := hD
  refine lv_iinc (v := 9) (lv' := [(1, .int 9), (0, .ref mo)]) hx hb dX6_begins_15 hl (k := 0) rfl (by first | rfl | decide) (by decide) rfl (fun ls hl => ?_)
  refine lv_goto (tgt := 2) hx hb dX6_begins_18 (by decide) ?_
  refine lv_iload_n hx hb dX6_begins_2 rfl (lv_at hl 0 rfl) ?_
  refine lv_bipush (v := 12) hx hb dX6_begins_3 (by decide) ?_
  refine lv_icmp_ge (tgt := 21) hx hb dX6_begins_5 (by decide) (fun c_10 => absurd c_10 (by decide)) (fun c_10 => ?_)
  refine lv_aload_n hx hb dX6_begins_8 rfl (lv_at hl 1 rfl) ?_
  refine va_get (D := D) (ci := 6) (v := .ref q11) (C := RX6) (T := TX6) (N := 15) hx hb hts (by decide +kernel) hown hK hP 0 rfl rfl 11 (by decide) (hts (.fieldLink RX6 25 "JoinDeskModel" "at" "[I") (by decide +kernel)) (fun _ h9 => h9) rfl dX6_begins_9 ?_
  refine lv_iload_n hx hb dX6_begins_12 rfl (lv_at hl 0 rfl) ?_
  refine lv_iconst (v := 0) hx hb dX6_begins_13 (by decide) ?_
  refine va_iast hx hb hK hP hD hS 1 0 rfl rfl (by unfold vp_in; decide) dX6_begins_14 (fun H locs hP hD hS => ?_)
  have hP : va_P D vwCl [(mo, .inr (6, [.int z0, .ref q1, .int z2, .ref q3, .ref q4, .ref q5, .ref q6, .int z7, .int z8, .int z9, .long w10, .ref q11, .int z12, .long w13, .long w14])), (q11, .inl (cI, 24, .inl (upd (upd (upd (upd (upd (upd (upd (upd (upd (upd f11 (0 : Int32).toNatClampNeg 0) (1 : Int32).toNatClampNeg 0) (2 : Int32).toNatClampNeg 0) (3 : Int32).toNatClampNeg 0) (4 : Int32).toNatClampNeg 0) (5 : Int32).toNatClampNeg 0) (6 : Int32).toNatClampNeg 0) (7 : Int32).toNatClampNeg 0) (8 : Int32).toNatClampNeg 0) (9 : Int32).toNatClampNeg 0)))] H := hP
  have hD : va_D A [(mo, .inr (6, [.int z0, .ref q1, .int z2, .ref q3, .ref q4, .ref q5, .ref q6, .int z7, .int z8, .int z9, .long w10, .ref q11, .int z12, .long w13, .long w14])), (q11, .inl (cI, 24, .inl (upd (upd (upd (upd (upd (upd (upd (upd (upd (upd f11 (0 : Int32).toNatClampNeg 0) (1 : Int32).toNatClampNeg 0) (2 : Int32).toNatClampNeg 0) (3 : Int32).toNatClampNeg 0) (4 : Int32).toNatClampNeg 0) (5 : Int32).toNatClampNeg 0) (6 : Int32).toNatClampNeg 0) (7 : Int32).toNatClampNeg 0) (8 : Int32).toNatClampNeg 0) (9 : Int32).toNatClampNeg 0)))] := hD
  refine lv_iinc (v := 10) (lv' := [(1, .int 10), (0, .ref mo)]) hx hb dX6_begins_15 hl (k := 0) rfl (by first | rfl | decide) (by decide) rfl (fun ls hl => ?_)
  refine lv_goto (tgt := 2) hx hb dX6_begins_18 (by decide) ?_
  refine lv_iload_n hx hb dX6_begins_2 rfl (lv_at hl 0 rfl) ?_
  refine lv_bipush (v := 12) hx hb dX6_begins_3 (by decide) ?_
  refine lv_icmp_ge (tgt := 21) hx hb dX6_begins_5 (by decide) (fun c_11 => absurd c_11 (by decide)) (fun c_11 => ?_)
  refine lv_aload_n hx hb dX6_begins_8 rfl (lv_at hl 1 rfl) ?_
  refine va_get (D := D) (ci := 6) (v := .ref q11) (C := RX6) (T := TX6) (N := 15) hx hb hts (by decide +kernel) hown hK hP 0 rfl rfl 11 (by decide) (hts (.fieldLink RX6 25 "JoinDeskModel" "at" "[I") (by decide +kernel)) (fun _ h9 => h9) rfl dX6_begins_9 ?_
  refine lv_iload_n hx hb dX6_begins_12 rfl (lv_at hl 0 rfl) ?_
  refine lv_iconst (v := 0) hx hb dX6_begins_13 (by decide) ?_
  refine va_iast hx hb hK hP hD hS 1 0 rfl rfl (by unfold vp_in; decide) dX6_begins_14 (fun H locs hP hD hS => ?_)
  have hP : va_P D vwCl [(mo, .inr (6, [.int z0, .ref q1, .int z2, .ref q3, .ref q4, .ref q5, .ref q6, .int z7, .int z8, .int z9, .long w10, .ref q11, .int z12, .long w13, .long w14])), (q11, .inl (cI, 24, .inl (upd (upd (upd (upd (upd (upd (upd (upd (upd (upd (upd f11 (0 : Int32).toNatClampNeg 0) (1 : Int32).toNatClampNeg 0) (2 : Int32).toNatClampNeg 0) (3 : Int32).toNatClampNeg 0) (4 : Int32).toNatClampNeg 0) (5 : Int32).toNatClampNeg 0) (6 : Int32).toNatClampNeg 0) (7 : Int32).toNatClampNeg 0) (8 : Int32).toNatClampNeg 0) (9 : Int32).toNatClampNeg 0) (10 : Int32).toNatClampNeg 0)))] H := hP
  have hD : va_D A [(mo, .inr (6, [.int z0, .ref q1, .int z2, .ref q3, .ref q4, .ref q5, .ref q6, .int z7, .int z8, .int z9, .long w10, .ref q11, .int z12, .long w13, .long w14])), (q11, .inl (cI, 24, .inl (upd (upd (upd (upd (upd (upd (upd (upd (upd (upd (upd f11 (0 : Int32).toNatClampNeg 0) (1 : Int32).toNatClampNeg 0) (2 : Int32).toNatClampNeg 0) (3 : Int32).toNatClampNeg 0) (4 : Int32).toNatClampNeg 0) (5 : Int32).toNatClampNeg 0) (6 : Int32).toNatClampNeg 0) (7 : Int32).toNatClampNeg 0) (8 : Int32).toNatClampNeg 0) (9 : Int32).toNatClampNeg 0) (10 : Int32).toNatClampNeg 0)))] := hD
  refine lv_iinc (v := 11) (lv' := [(1, .int 11), (0, .ref mo)]) hx hb dX6_begins_15 hl (k := 0) rfl (by first | rfl | decide) (by decide) rfl (fun ls hl => ?_)
  refine lv_goto (tgt := 2) hx hb dX6_begins_18 (by decide) ?_
  refine lv_iload_n hx hb dX6_begins_2 rfl (lv_at hl 0 rfl) ?_
  refine lv_bipush (v := 12) hx hb dX6_begins_3 (by decide) ?_
  refine lv_icmp_ge (tgt := 21) hx hb dX6_begins_5 (by decide) (fun c_12 => absurd c_12 (by decide)) (fun c_12 => ?_)
  refine lv_aload_n hx hb dX6_begins_8 rfl (lv_at hl 1 rfl) ?_
  refine va_get (D := D) (ci := 6) (v := .ref q11) (C := RX6) (T := TX6) (N := 15) hx hb hts (by decide +kernel) hown hK hP 0 rfl rfl 11 (by decide) (hts (.fieldLink RX6 25 "JoinDeskModel" "at" "[I") (by decide +kernel)) (fun _ h9 => h9) rfl dX6_begins_9 ?_
  refine lv_iload_n hx hb dX6_begins_12 rfl (lv_at hl 0 rfl) ?_
  refine lv_iconst (v := 0) hx hb dX6_begins_13 (by decide) ?_
  refine va_iast hx hb hK hP hD hS 1 0 rfl rfl (by unfold vp_in; decide) dX6_begins_14 (fun H locs hP hD hS => ?_)
  have hP : va_P D vwCl [(mo, .inr (6, [.int z0, .ref q1, .int z2, .ref q3, .ref q4, .ref q5, .ref q6, .int z7, .int z8, .int z9, .long w10, .ref q11, .int z12, .long w13, .long w14])), (q11, .inl (cI, 24, .inl (upd (upd (upd (upd (upd (upd (upd (upd (upd (upd (upd (upd f11 (0 : Int32).toNatClampNeg 0) (1 : Int32).toNatClampNeg 0) (2 : Int32).toNatClampNeg 0) (3 : Int32).toNatClampNeg 0) (4 : Int32).toNatClampNeg 0) (5 : Int32).toNatClampNeg 0) (6 : Int32).toNatClampNeg 0) (7 : Int32).toNatClampNeg 0) (8 : Int32).toNatClampNeg 0) (9 : Int32).toNatClampNeg 0) (10 : Int32).toNatClampNeg 0) (11 : Int32).toNatClampNeg 0)))] H := hP
  have hD : va_D A [(mo, .inr (6, [.int z0, .ref q1, .int z2, .ref q3, .ref q4, .ref q5, .ref q6, .int z7, .int z8, .int z9, .long w10, .ref q11, .int z12, .long w13, .long w14])), (q11, .inl (cI, 24, .inl (upd (upd (upd (upd (upd (upd (upd (upd (upd (upd (upd (upd f11 (0 : Int32).toNatClampNeg 0) (1 : Int32).toNatClampNeg 0) (2 : Int32).toNatClampNeg 0) (3 : Int32).toNatClampNeg 0) (4 : Int32).toNatClampNeg 0) (5 : Int32).toNatClampNeg 0) (6 : Int32).toNatClampNeg 0) (7 : Int32).toNatClampNeg 0) (8 : Int32).toNatClampNeg 0) (9 : Int32).toNatClampNeg 0) (10 : Int32).toNatClampNeg 0) (11 : Int32).toNatClampNeg 0)))] := hD
  refine lv_iinc (v := 12) (lv' := [(1, .int 12), (0, .ref mo)]) hx hb dX6_begins_15 hl (k := 0) rfl (by first | rfl | decide) (by decide) rfl (fun ls hl => ?_)
  refine lv_goto (tgt := 2) hx hb dX6_begins_18 (by decide) ?_
  refine lv_iload_n hx hb dX6_begins_2 rfl (lv_at hl 0 rfl) ?_
  refine lv_bipush (v := 12) hx hb dX6_begins_3 (by decide) ?_
  refine lv_icmp_ge (tgt := 21) hx hb dX6_begins_5 (by decide) (fun c_13 => ?_) (fun c_13 => absurd c_13 (by decide))
  refine W.widen (k := 0) (n := 0) (by omega) (by omega) ?_
  exact W.vret hx hb hr (fun t ht hW => ⟨⟨[(mo, .inr (6, [.int z0, .ref q1, .int z2, .ref q3, .ref q4, .ref q5, .ref q6, .int z7, .int z8, .int z9, .long w10, .ref q11, .int z12, .long w13, .long w14])), (q11, .inl (cI, 24, .inl (upd (upd (upd (upd (upd (upd (upd (upd (upd (upd (upd (upd f11 (0 : Int32).toNatClampNeg 0) (1 : Int32).toNatClampNeg 0) (2 : Int32).toNatClampNeg 0) (3 : Int32).toNatClampNeg 0) (4 : Int32).toNatClampNeg 0) (5 : Int32).toNatClampNeg 0) (6 : Int32).toNatClampNeg 0) (7 : Int32).toNatClampNeg 0) (8 : Int32).toNatClampNeg 0) (9 : Int32).toNatClampNeg 0) (10 : Int32).toNatClampNeg 0) (11 : Int32).toNatClampNeg 0)))], rfl, (by exact ⟨_, rfl⟩), by rw [ht]; exact hP, hD⟩, hS.F ht⟩) hS.2.2 dX6_begins_21
set_option maxHeartbeats 1000000 in
set_option maxRecDepth 100000 in
theorem cM_init (l : Launch) (D : va_G) (cI cL cQ : ClassId) (mo : Nat) (x : Int32) (y : Int32) (z : Int32) (sz : Nat) : Met l yX6_init wsX6_init ({ frames := 1, cells := 6, slots := 2428, locals := 20 }) (jw_P D vwCl (jT cI cL cQ) cL cQ [.ref mo, .int x, .int y, .int z] [(mo, .inr (6, [.int 0, .null, .int 0, .null, .null, .null, .null, .int 0, .int 0, .int 0, .long 0, .null, .int 0, .long 0, .long 0]))] sz) (va_Qv (fun u : va_W => ∃ (q1 : Nat) (q3 : Nat) (q4 : Nat) (q5 : Nat) (q6 : Nat) (q11 : Nat), u = [(mo, .inr (6, [.int 0, .ref q1, .int (nI (jroom z)), .ref q3, .ref q4, .ref q5, .ref q6, .int 0, .int 0, .int 0, .long 0, .ref q11, .int 0, .long 0, .long 0])), (q1, .inl (cI, 2, .inl (upd (upd (fun _ => 0) (0 : Int32).toNatClampNeg (nI (jroom x))) (1 : Int32).toNatClampNeg (nI (jroom y))))), (q3, .inl (cI, 800, .inl (fun _ => 0))), (q4, .inl (cI, 800, .inl (fun _ => 0))), (q5, .inl (cI, 800, .inl (fun _ => 0))), (q6, .inl (cI, 2, .inl (fun _ => 0))), (q11, .inl (cI, 24, .inl (fun _ => 0)))]) (jw_B D vwCl (va_A [(mo, .inr (6, [.int 0, .null, .int 0, .null, .null, .null, .null, .int 0, .int 0, .int 0, .long 0, .null, .int 0, .long 0, .long 0]))] sz) (fun u : va_W => u)) (va_A [(mo, .inr (6, [.int 0, .null, .int 0, .null, .null, .null, .null, .int 0, .int 0, .int 0, .long 0, .null, .int 0, .long 0, .long 0]))] sz)) 6 2428 (va_A [(mo, .inr (6, [.int 0, .null, .int 0, .null, .null, .null, .null, .int 0, .int 0, .int 0, .long 0, .null, .int 0, .long 0, .long 0]))] sz) := by
  refine Met.ofW (cc := cX6_init) (maxL := 4) (ret := none) (by decide) rfl ?_
  intro p e s m args below meth c s₁ B hml hv
  obtain ⟨rfl, hsz, hP, hK, hN, hD0⟩ := hv
  have hx := B.exec
  have hb := B.bytes
  have hr := B.returns
  have hts := atoms_spec (ws := wsX6_init) B.pre
  have hown : s.vm.findClass RX6 = some m.cls := findClass_of_methodNamed B.named
  have hlocks := B.notSynchronized
  have hin : meth.name = "<init>" := (name_of_methodNamed B.named B.method).1
  subst hsz
  have hD := hD0.self (sz := s.heap.size)
  generalize hAe : va_A [(mo, .inr (6, [.int 0, .null, .int 0, .null, .null, .null, .null, .int 0, .int 0, .int 0, .long 0, .null, .int 0, .long 0, .long 0]))] s.heap.size = A at hD ⊢
  have hA : ∀ q : Nat, s.heap.size ≤ q → A q := fun q h => by rw [← hAe]; exact Or.inr h
  have hS : va_S A s.heap s.heap [] := va_S.rf
  have hl := lv_entry ([.ref mo, .int x, .int y, .int z]) (n := 4) (Nat.le_of_ble_eq_true rfl)
  rw [lg_entry_eq]
  generalize (lg_sl ([.ref mo, .int x, .int y, .int z]) ++ List.replicate (4 - (lg_sl ([.ref mo, .int x, .int y, .int z])).length) Slot.unset).toArray = ls at hl ⊢
  have hl : lv_has ls 4 [(0, .ref mo), (1, .int x), (2, .int y), (3, .int z)] := hl
  refine lv_aload_n hx hb dX6_init_0 rfl (lv_at hl 0 rfl) ?_
  refine W.objInit hx hb hown (hts (.methodLink RX6 1 objectInit) (by decide +kernel)) (hts (.instanceMethod objectInit) (by decide +kernel)) (hts (.code objectInit ⟨#[0xb1]⟩ 1 none) (by decide +kernel)) rfl (by rw [hml]; exact hl.1) rfl dX6_init_1 (Nat.le_of_ble_eq_true rfl) (Nat.le_of_ble_eq_true rfl) ?_
  refine W.eq (g2 := F0 m 4 ls []) rfl ?_
  refine lv_aload_n hx hb dX6_init_4 rfl (lv_at hl 0 rfl) ?_
  refine lv_iconst (v := 2) hx hb dX6_init_5 (by decide) ?_
  refine jx_newi (atype := .int) hx hb (hts (.arrayClass .int) (by decide +kernel)) rfl hK hP hD hS hA 0 rfl (N' := 2) (by decide) (by decide) (by omega) (Nat.le_of_ble_eq_true rfl) (Nat.le_trans (Nat.add_le_add_left (show 2 ≤ 2 by omega) _) (Nat.le_of_ble_eq_true rfl)) dX6_init_6 (fun q1 H hP hD hS => ?_)
  have hP : va_P D vwCl [(mo, .inr (6, [.int 0, .null, .int 0, .null, .null, .null, .null, .int 0, .int 0, .int 0, .long 0, .null, .int 0, .long 0, .long 0])), (q1, .inl (cI, 2, .inl (fun _ => 0)))] H := hP
  have hD : va_D A [(mo, .inr (6, [.int 0, .null, .int 0, .null, .null, .null, .null, .int 0, .int 0, .int 0, .long 0, .null, .int 0, .long 0, .long 0])), (q1, .inl (cI, 2, .inl (fun _ => 0)))] := hD
  refine W.widen (k := 1) (n := 2) (by omega) (by omega) ?_
  refine va_putF (D := D) (ci := 6) (v := .ref q1) (ty := .array .int) (C := RX6) (T := TX6) (N := 15) hx hb hts (by decide +kernel) tyX6 tyX6_ok nmX6 hown hK hP hD hS 0 rfl rfl 1 (by decide) (hts (.fieldLink RX6 7 "JoinDeskModel" "most" "[I") (by decide +kernel)) (fun _ h9 => h9) rfl hin rfl (by decide +kernel) rfl rfl (Nat.le_of_ble_eq_true rfl) dX6_init_8 (fun H locs hP hD hS => ?_)
  have hP : va_P D vwCl [(mo, .inr (6, [.int 0, .ref q1, .int 0, .null, .null, .null, .null, .int 0, .int 0, .int 0, .long 0, .null, .int 0, .long 0, .long 0])), (q1, .inl (cI, 2, .inl (fun _ => 0)))] H := hP
  have hD : va_D A [(mo, .inr (6, [.int 0, .ref q1, .int 0, .null, .null, .null, .null, .int 0, .int 0, .int 0, .long 0, .null, .int 0, .long 0, .long 0])), (q1, .inl (cI, 2, .inl (fun _ => 0)))] := hD
  refine lv_aload_n hx hb dX6_init_11 rfl (lv_at hl 0 rfl) ?_
  refine lv_sipush (v := 800) hx hb dX6_init_12 (by decide) ?_
  refine jx_newi (atype := .int) hx hb (hts (.arrayClass .int) (by decide +kernel)) rfl hK hP hD hS hA 0 rfl (N' := 800) (by decide) (by decide) (by omega) (Nat.le_of_ble_eq_true rfl) (Nat.le_trans (Nat.add_le_add_left (show 800 ≤ 800 by omega) _) (Nat.le_of_ble_eq_true rfl)) dX6_init_15 (fun q3 H hP hD hS => ?_)
  have hP : va_P D vwCl [(mo, .inr (6, [.int 0, .ref q1, .int 0, .null, .null, .null, .null, .int 0, .int 0, .int 0, .long 0, .null, .int 0, .long 0, .long 0])), (q1, .inl (cI, 2, .inl (fun _ => 0))), (q3, .inl (cI, 800, .inl (fun _ => 0)))] H := hP
  have hD : va_D A [(mo, .inr (6, [.int 0, .ref q1, .int 0, .null, .null, .null, .null, .int 0, .int 0, .int 0, .long 0, .null, .int 0, .long 0, .long 0])), (q1, .inl (cI, 2, .inl (fun _ => 0))), (q3, .inl (cI, 800, .inl (fun _ => 0)))] := hD
  refine W.widen (k := 2) (n := 802) (by omega) (by omega) ?_
  refine va_putF (D := D) (ci := 6) (v := .ref q3) (ty := .array .int) (C := RX6) (T := TX6) (N := 15) hx hb hts (by decide +kernel) tyX6 tyX6_ok nmX6 hown hK hP hD hS 0 rfl rfl 3 (by decide) (hts (.fieldLink RX6 13 "JoinDeskModel" "keys" "[I") (by decide +kernel)) (fun _ h9 => h9) rfl hin rfl (by decide +kernel) rfl rfl (Nat.le_of_ble_eq_true rfl) dX6_init_17 (fun H locs hP hD hS => ?_)
  have hP : va_P D vwCl [(mo, .inr (6, [.int 0, .ref q1, .int 0, .ref q3, .null, .null, .null, .int 0, .int 0, .int 0, .long 0, .null, .int 0, .long 0, .long 0])), (q1, .inl (cI, 2, .inl (fun _ => 0))), (q3, .inl (cI, 800, .inl (fun _ => 0)))] H := hP
  have hD : va_D A [(mo, .inr (6, [.int 0, .ref q1, .int 0, .ref q3, .null, .null, .null, .int 0, .int 0, .int 0, .long 0, .null, .int 0, .long 0, .long 0])), (q1, .inl (cI, 2, .inl (fun _ => 0))), (q3, .inl (cI, 800, .inl (fun _ => 0)))] := hD
  refine lv_aload_n hx hb dX6_init_20 rfl (lv_at hl 0 rfl) ?_
  refine lv_sipush (v := 800) hx hb dX6_init_21 (by decide) ?_
  refine jx_newi (atype := .int) hx hb (hts (.arrayClass .int) (by decide +kernel)) rfl hK hP hD hS hA 0 rfl (N' := 800) (by decide) (by decide) (by omega) (Nat.le_of_ble_eq_true rfl) (Nat.le_trans (Nat.add_le_add_left (show 800 ≤ 800 by omega) _) (Nat.le_of_ble_eq_true rfl)) dX6_init_24 (fun q4 H hP hD hS => ?_)
  have hP : va_P D vwCl [(mo, .inr (6, [.int 0, .ref q1, .int 0, .ref q3, .null, .null, .null, .int 0, .int 0, .int 0, .long 0, .null, .int 0, .long 0, .long 0])), (q1, .inl (cI, 2, .inl (fun _ => 0))), (q3, .inl (cI, 800, .inl (fun _ => 0))), (q4, .inl (cI, 800, .inl (fun _ => 0)))] H := hP
  have hD : va_D A [(mo, .inr (6, [.int 0, .ref q1, .int 0, .ref q3, .null, .null, .null, .int 0, .int 0, .int 0, .long 0, .null, .int 0, .long 0, .long 0])), (q1, .inl (cI, 2, .inl (fun _ => 0))), (q3, .inl (cI, 800, .inl (fun _ => 0))), (q4, .inl (cI, 800, .inl (fun _ => 0)))] := hD
  refine W.widen (k := 3) (n := 1602) (by omega) (by omega) ?_
  refine va_putF (D := D) (ci := 6) (v := .ref q4) (ty := .array .int) (C := RX6) (T := TX6) (N := 15) hx hb hts (by decide +kernel) tyX6 tyX6_ok nmX6 hown hK hP hD hS 0 rfl rfl 4 (by decide) (hts (.fieldLink RX6 16 "JoinDeskModel" "values" "[I") (by decide +kernel)) (fun _ h9 => h9) rfl hin rfl (by decide +kernel) rfl rfl (Nat.le_of_ble_eq_true rfl) dX6_init_26 (fun H locs hP hD hS => ?_)
  have hP : va_P D vwCl [(mo, .inr (6, [.int 0, .ref q1, .int 0, .ref q3, .ref q4, .null, .null, .int 0, .int 0, .int 0, .long 0, .null, .int 0, .long 0, .long 0])), (q1, .inl (cI, 2, .inl (fun _ => 0))), (q3, .inl (cI, 800, .inl (fun _ => 0))), (q4, .inl (cI, 800, .inl (fun _ => 0)))] H := hP
  have hD : va_D A [(mo, .inr (6, [.int 0, .ref q1, .int 0, .ref q3, .ref q4, .null, .null, .int 0, .int 0, .int 0, .long 0, .null, .int 0, .long 0, .long 0])), (q1, .inl (cI, 2, .inl (fun _ => 0))), (q3, .inl (cI, 800, .inl (fun _ => 0))), (q4, .inl (cI, 800, .inl (fun _ => 0)))] := hD
  refine lv_aload_n hx hb dX6_init_29 rfl (lv_at hl 0 rfl) ?_
  refine lv_sipush (v := 800) hx hb dX6_init_30 (by decide) ?_
  refine jx_newi (atype := .int) hx hb (hts (.arrayClass .int) (by decide +kernel)) rfl hK hP hD hS hA 0 rfl (N' := 800) (by decide) (by decide) (by omega) (Nat.le_of_ble_eq_true rfl) (Nat.le_trans (Nat.add_le_add_left (show 800 ≤ 800 by omega) _) (Nat.le_of_ble_eq_true rfl)) dX6_init_33 (fun q5 H hP hD hS => ?_)
  have hP : va_P D vwCl [(mo, .inr (6, [.int 0, .ref q1, .int 0, .ref q3, .ref q4, .null, .null, .int 0, .int 0, .int 0, .long 0, .null, .int 0, .long 0, .long 0])), (q1, .inl (cI, 2, .inl (fun _ => 0))), (q3, .inl (cI, 800, .inl (fun _ => 0))), (q4, .inl (cI, 800, .inl (fun _ => 0))), (q5, .inl (cI, 800, .inl (fun _ => 0)))] H := hP
  have hD : va_D A [(mo, .inr (6, [.int 0, .ref q1, .int 0, .ref q3, .ref q4, .null, .null, .int 0, .int 0, .int 0, .long 0, .null, .int 0, .long 0, .long 0])), (q1, .inl (cI, 2, .inl (fun _ => 0))), (q3, .inl (cI, 800, .inl (fun _ => 0))), (q4, .inl (cI, 800, .inl (fun _ => 0))), (q5, .inl (cI, 800, .inl (fun _ => 0)))] := hD
  refine W.widen (k := 4) (n := 2402) (by omega) (by omega) ?_
  refine va_putF (D := D) (ci := 6) (v := .ref q5) (ty := .array .int) (C := RX6) (T := TX6) (N := 15) hx hb hts (by decide +kernel) tyX6 tyX6_ok nmX6 hown hK hP hD hS 0 rfl rfl 5 (by decide) (hts (.fieldLink RX6 19 "JoinDeskModel" "order" "[I") (by decide +kernel)) (fun _ h9 => h9) rfl hin rfl (by decide +kernel) rfl rfl (Nat.le_of_ble_eq_true rfl) dX6_init_35 (fun H locs hP hD hS => ?_)
  have hP : va_P D vwCl [(mo, .inr (6, [.int 0, .ref q1, .int 0, .ref q3, .ref q4, .ref q5, .null, .int 0, .int 0, .int 0, .long 0, .null, .int 0, .long 0, .long 0])), (q1, .inl (cI, 2, .inl (fun _ => 0))), (q3, .inl (cI, 800, .inl (fun _ => 0))), (q4, .inl (cI, 800, .inl (fun _ => 0))), (q5, .inl (cI, 800, .inl (fun _ => 0)))] H := hP
  have hD : va_D A [(mo, .inr (6, [.int 0, .ref q1, .int 0, .ref q3, .ref q4, .ref q5, .null, .int 0, .int 0, .int 0, .long 0, .null, .int 0, .long 0, .long 0])), (q1, .inl (cI, 2, .inl (fun _ => 0))), (q3, .inl (cI, 800, .inl (fun _ => 0))), (q4, .inl (cI, 800, .inl (fun _ => 0))), (q5, .inl (cI, 800, .inl (fun _ => 0)))] := hD
  refine lv_aload_n hx hb dX6_init_38 rfl (lv_at hl 0 rfl) ?_
  refine lv_iconst (v := 2) hx hb dX6_init_39 (by decide) ?_
  refine jx_newi (atype := .int) hx hb (hts (.arrayClass .int) (by decide +kernel)) rfl hK hP hD hS hA 0 rfl (N' := 2) (by decide) (by decide) (by omega) (Nat.le_of_ble_eq_true rfl) (Nat.le_trans (Nat.add_le_add_left (show 2 ≤ 2 by omega) _) (Nat.le_of_ble_eq_true rfl)) dX6_init_40 (fun q6 H hP hD hS => ?_)
  have hP : va_P D vwCl [(mo, .inr (6, [.int 0, .ref q1, .int 0, .ref q3, .ref q4, .ref q5, .null, .int 0, .int 0, .int 0, .long 0, .null, .int 0, .long 0, .long 0])), (q1, .inl (cI, 2, .inl (fun _ => 0))), (q3, .inl (cI, 800, .inl (fun _ => 0))), (q4, .inl (cI, 800, .inl (fun _ => 0))), (q5, .inl (cI, 800, .inl (fun _ => 0))), (q6, .inl (cI, 2, .inl (fun _ => 0)))] H := hP
  have hD : va_D A [(mo, .inr (6, [.int 0, .ref q1, .int 0, .ref q3, .ref q4, .ref q5, .null, .int 0, .int 0, .int 0, .long 0, .null, .int 0, .long 0, .long 0])), (q1, .inl (cI, 2, .inl (fun _ => 0))), (q3, .inl (cI, 800, .inl (fun _ => 0))), (q4, .inl (cI, 800, .inl (fun _ => 0))), (q5, .inl (cI, 800, .inl (fun _ => 0))), (q6, .inl (cI, 2, .inl (fun _ => 0)))] := hD
  refine W.widen (k := 5) (n := 2404) (by omega) (by omega) ?_
  refine va_putF (D := D) (ci := 6) (v := .ref q6) (ty := .array .int) (C := RX6) (T := TX6) (N := 15) hx hb hts (by decide +kernel) tyX6 tyX6_ok nmX6 hown hK hP hD hS 0 rfl rfl 6 (by decide) (hts (.fieldLink RX6 22 "JoinDeskModel" "many" "[I") (by decide +kernel)) (fun _ h9 => h9) rfl hin rfl (by decide +kernel) rfl rfl (Nat.le_of_ble_eq_true rfl) dX6_init_42 (fun H locs hP hD hS => ?_)
  have hP : va_P D vwCl [(mo, .inr (6, [.int 0, .ref q1, .int 0, .ref q3, .ref q4, .ref q5, .ref q6, .int 0, .int 0, .int 0, .long 0, .null, .int 0, .long 0, .long 0])), (q1, .inl (cI, 2, .inl (fun _ => 0))), (q3, .inl (cI, 800, .inl (fun _ => 0))), (q4, .inl (cI, 800, .inl (fun _ => 0))), (q5, .inl (cI, 800, .inl (fun _ => 0))), (q6, .inl (cI, 2, .inl (fun _ => 0)))] H := hP
  have hD : va_D A [(mo, .inr (6, [.int 0, .ref q1, .int 0, .ref q3, .ref q4, .ref q5, .ref q6, .int 0, .int 0, .int 0, .long 0, .null, .int 0, .long 0, .long 0])), (q1, .inl (cI, 2, .inl (fun _ => 0))), (q3, .inl (cI, 800, .inl (fun _ => 0))), (q4, .inl (cI, 800, .inl (fun _ => 0))), (q5, .inl (cI, 800, .inl (fun _ => 0))), (q6, .inl (cI, 2, .inl (fun _ => 0)))] := hD
  refine lv_aload_n hx hb dX6_init_45 rfl (lv_at hl 0 rfl) ?_
  refine lv_bipush (v := 24) hx hb dX6_init_46 (by decide) ?_
  refine jx_newi (atype := .int) hx hb (hts (.arrayClass .int) (by decide +kernel)) rfl hK hP hD hS hA 0 rfl (N' := 24) (by decide) (by decide) (by omega) (Nat.le_of_ble_eq_true rfl) (Nat.le_trans (Nat.add_le_add_left (show 24 ≤ 24 by omega) _) (Nat.le_of_ble_eq_true rfl)) dX6_init_48 (fun q11 H hP hD hS => ?_)
  have hP : va_P D vwCl [(mo, .inr (6, [.int 0, .ref q1, .int 0, .ref q3, .ref q4, .ref q5, .ref q6, .int 0, .int 0, .int 0, .long 0, .null, .int 0, .long 0, .long 0])), (q1, .inl (cI, 2, .inl (fun _ => 0))), (q3, .inl (cI, 800, .inl (fun _ => 0))), (q4, .inl (cI, 800, .inl (fun _ => 0))), (q5, .inl (cI, 800, .inl (fun _ => 0))), (q6, .inl (cI, 2, .inl (fun _ => 0))), (q11, .inl (cI, 24, .inl (fun _ => 0)))] H := hP
  have hD : va_D A [(mo, .inr (6, [.int 0, .ref q1, .int 0, .ref q3, .ref q4, .ref q5, .ref q6, .int 0, .int 0, .int 0, .long 0, .null, .int 0, .long 0, .long 0])), (q1, .inl (cI, 2, .inl (fun _ => 0))), (q3, .inl (cI, 800, .inl (fun _ => 0))), (q4, .inl (cI, 800, .inl (fun _ => 0))), (q5, .inl (cI, 800, .inl (fun _ => 0))), (q6, .inl (cI, 2, .inl (fun _ => 0))), (q11, .inl (cI, 24, .inl (fun _ => 0)))] := hD
  refine W.widen (k := 6) (n := 2428) (by omega) (by omega) ?_
  refine va_putF (D := D) (ci := 6) (v := .ref q11) (ty := .array .int) (C := RX6) (T := TX6) (N := 15) hx hb hts (by decide +kernel) tyX6 tyX6_ok nmX6 hown hK hP hD hS 0 rfl rfl 11 (by decide) (hts (.fieldLink RX6 25 "JoinDeskModel" "at" "[I") (by decide +kernel)) (fun _ h9 => h9) rfl hin rfl (by decide +kernel) rfl rfl (Nat.le_of_ble_eq_true rfl) dX6_init_50 (fun H locs hP hD hS => ?_)
  have hP : va_P D vwCl [(mo, .inr (6, [.int 0, .ref q1, .int 0, .ref q3, .ref q4, .ref q5, .ref q6, .int 0, .int 0, .int 0, .long 0, .ref q11, .int 0, .long 0, .long 0])), (q1, .inl (cI, 2, .inl (fun _ => 0))), (q3, .inl (cI, 800, .inl (fun _ => 0))), (q4, .inl (cI, 800, .inl (fun _ => 0))), (q5, .inl (cI, 800, .inl (fun _ => 0))), (q6, .inl (cI, 2, .inl (fun _ => 0))), (q11, .inl (cI, 24, .inl (fun _ => 0)))] H := hP
  have hD : va_D A [(mo, .inr (6, [.int 0, .ref q1, .int 0, .ref q3, .ref q4, .ref q5, .ref q6, .int 0, .int 0, .int 0, .long 0, .ref q11, .int 0, .long 0, .long 0])), (q1, .inl (cI, 2, .inl (fun _ => 0))), (q3, .inl (cI, 800, .inl (fun _ => 0))), (q4, .inl (cI, 800, .inl (fun _ => 0))), (q5, .inl (cI, 800, .inl (fun _ => 0))), (q6, .inl (cI, 2, .inl (fun _ => 0))), (q11, .inl (cI, 24, .inl (fun _ => 0)))] := hD
  refine lv_aload_n hx hb dX6_init_53 rfl (lv_at hl 0 rfl) ?_
  refine va_get (D := D) (ci := 6) (v := .ref q1) (C := RX6) (T := TX6) (N := 15) hx hb hts (by decide +kernel) hown hK hP 0 rfl rfl 1 (by decide) (hts (.fieldLink RX6 7 "JoinDeskModel" "most" "[I") (by decide +kernel)) (fun _ h9 => h9) rfl dX6_init_54 ?_
  refine lv_iconst (v := 0) hx hb dX6_init_57 (by decide) ?_
  refine lv_iload_n hx hb dX6_init_58 rfl (lv_at hl 1 rfl) ?_
  refine vp_callSi (va_Run.run (va_runS (As := [.int x]) (rest := [.int 0, .ref q1]) ⟨hx, hb, hml, hown, hts⟩ (cM_between l D cI cL cQ x) (va_cwS 1 hts gX6_init_X6_between rfl rfl rfl (by decide +kernel) ⟨Nat.le_of_ble_eq_true rfl, Nat.le_of_ble_eq_true rfl⟩) (jr_S hK hN hP [] rfl) rfl rfl hl.1 rfl (lv_room (Nat.le_of_ble_eq_true rfl)) dX6_init_59 ⟨Nat.le_of_ble_eq_true rfl, Nat.le_of_ble_eq_true rfl⟩)) (fun r f_1 => ?_)
  obtain rfl := f_1
  refine va_iast hx hb hK hP hD hS 1 0 rfl rfl (by unfold vp_in; decide) dX6_init_62 (fun H locs hP hD hS => ?_)
  have hP : va_P D vwCl [(mo, .inr (6, [.int 0, .ref q1, .int 0, .ref q3, .ref q4, .ref q5, .ref q6, .int 0, .int 0, .int 0, .long 0, .ref q11, .int 0, .long 0, .long 0])), (q1, .inl (cI, 2, .inl (upd (fun _ => 0) (0 : Int32).toNatClampNeg (nI (jroom x))))), (q3, .inl (cI, 800, .inl (fun _ => 0))), (q4, .inl (cI, 800, .inl (fun _ => 0))), (q5, .inl (cI, 800, .inl (fun _ => 0))), (q6, .inl (cI, 2, .inl (fun _ => 0))), (q11, .inl (cI, 24, .inl (fun _ => 0)))] H := hP
  have hD : va_D A [(mo, .inr (6, [.int 0, .ref q1, .int 0, .ref q3, .ref q4, .ref q5, .ref q6, .int 0, .int 0, .int 0, .long 0, .ref q11, .int 0, .long 0, .long 0])), (q1, .inl (cI, 2, .inl (upd (fun _ => 0) (0 : Int32).toNatClampNeg (nI (jroom x))))), (q3, .inl (cI, 800, .inl (fun _ => 0))), (q4, .inl (cI, 800, .inl (fun _ => 0))), (q5, .inl (cI, 800, .inl (fun _ => 0))), (q6, .inl (cI, 2, .inl (fun _ => 0))), (q11, .inl (cI, 24, .inl (fun _ => 0)))] := hD
  refine lv_aload_n hx hb dX6_init_63 rfl (lv_at hl 0 rfl) ?_
  refine va_get (D := D) (ci := 6) (v := .ref q1) (C := RX6) (T := TX6) (N := 15) hx hb hts (by decide +kernel) hown hK hP 0 rfl rfl 1 (by decide) (hts (.fieldLink RX6 7 "JoinDeskModel" "most" "[I") (by decide +kernel)) (fun _ h9 => h9) rfl dX6_init_64 ?_
  refine lv_iconst (v := 1) hx hb dX6_init_67 (by decide) ?_
  refine lv_iload_n hx hb dX6_init_68 rfl (lv_at hl 2 rfl) ?_
  refine vp_callSi (va_Run.run (va_runS (As := [.int y]) (rest := [.int 1, .ref q1]) ⟨hx, hb, hml, hown, hts⟩ (cM_between l D cI cL cQ y) (va_cwS 1 hts gX6_init_X6_between rfl rfl rfl (by decide +kernel) ⟨Nat.le_of_ble_eq_true rfl, Nat.le_of_ble_eq_true rfl⟩) (jr_S hK hN hP [] rfl) rfl rfl hl.1 rfl (lv_room (Nat.le_of_ble_eq_true rfl)) dX6_init_69 ⟨Nat.le_of_ble_eq_true rfl, Nat.le_of_ble_eq_true rfl⟩)) (fun r f_2 => ?_)
  obtain rfl := f_2
  refine va_iast hx hb hK hP hD hS 1 0 rfl rfl (by unfold vp_in; decide) dX6_init_72 (fun H locs hP hD hS => ?_)
  have hP : va_P D vwCl [(mo, .inr (6, [.int 0, .ref q1, .int 0, .ref q3, .ref q4, .ref q5, .ref q6, .int 0, .int 0, .int 0, .long 0, .ref q11, .int 0, .long 0, .long 0])), (q1, .inl (cI, 2, .inl (upd (upd (fun _ => 0) (0 : Int32).toNatClampNeg (nI (jroom x))) (1 : Int32).toNatClampNeg (nI (jroom y))))), (q3, .inl (cI, 800, .inl (fun _ => 0))), (q4, .inl (cI, 800, .inl (fun _ => 0))), (q5, .inl (cI, 800, .inl (fun _ => 0))), (q6, .inl (cI, 2, .inl (fun _ => 0))), (q11, .inl (cI, 24, .inl (fun _ => 0)))] H := hP
  have hD : va_D A [(mo, .inr (6, [.int 0, .ref q1, .int 0, .ref q3, .ref q4, .ref q5, .ref q6, .int 0, .int 0, .int 0, .long 0, .ref q11, .int 0, .long 0, .long 0])), (q1, .inl (cI, 2, .inl (upd (upd (fun _ => 0) (0 : Int32).toNatClampNeg (nI (jroom x))) (1 : Int32).toNatClampNeg (nI (jroom y))))), (q3, .inl (cI, 800, .inl (fun _ => 0))), (q4, .inl (cI, 800, .inl (fun _ => 0))), (q5, .inl (cI, 800, .inl (fun _ => 0))), (q6, .inl (cI, 2, .inl (fun _ => 0))), (q11, .inl (cI, 24, .inl (fun _ => 0)))] := hD
  refine lv_aload_n hx hb dX6_init_73 rfl (lv_at hl 0 rfl) ?_
  refine lv_iload_n hx hb dX6_init_74 rfl (lv_at hl 3 rfl) ?_
  refine vp_callSi (va_Run.run (va_runS (As := [.int z]) (rest := [.ref mo]) ⟨hx, hb, hml, hown, hts⟩ (cM_between l D cI cL cQ z) (va_cwS 1 hts gX6_init_X6_between rfl rfl rfl (by decide +kernel) ⟨Nat.le_of_ble_eq_true rfl, Nat.le_of_ble_eq_true rfl⟩) (jr_S hK hN hP [] rfl) rfl rfl hl.1 rfl (lv_room (Nat.le_of_ble_eq_true rfl)) dX6_init_75 ⟨Nat.le_of_ble_eq_true rfl, Nat.le_of_ble_eq_true rfl⟩)) (fun r f_3 => ?_)
  obtain rfl := f_3
  refine va_putF (D := D) (ci := 6) (v := .int (nI (jroom z))) (ty := .int) (C := RX6) (T := TX6) (N := 15) hx hb hts (by decide +kernel) tyX6 tyX6_ok nmX6 hown hK hP hD hS 0 rfl rfl 2 (by decide) (hts (.fieldLink RX6 32 "JoinDeskModel" "room" "I") (by decide +kernel)) (fun _ h9 => h9) rfl hin rfl (by decide +kernel) rfl rfl (Nat.le_of_ble_eq_true rfl) dX6_init_78 (fun H locs hP hD hS => ?_)
  have hP : va_P D vwCl [(mo, .inr (6, [.int 0, .ref q1, .int (nI (jroom z)), .ref q3, .ref q4, .ref q5, .ref q6, .int 0, .int 0, .int 0, .long 0, .ref q11, .int 0, .long 0, .long 0])), (q1, .inl (cI, 2, .inl (upd (upd (fun _ => 0) (0 : Int32).toNatClampNeg (nI (jroom x))) (1 : Int32).toNatClampNeg (nI (jroom y))))), (q3, .inl (cI, 800, .inl (fun _ => 0))), (q4, .inl (cI, 800, .inl (fun _ => 0))), (q5, .inl (cI, 800, .inl (fun _ => 0))), (q6, .inl (cI, 2, .inl (fun _ => 0))), (q11, .inl (cI, 24, .inl (fun _ => 0)))] H := hP
  have hD : va_D A [(mo, .inr (6, [.int 0, .ref q1, .int (nI (jroom z)), .ref q3, .ref q4, .ref q5, .ref q6, .int 0, .int 0, .int 0, .long 0, .ref q11, .int 0, .long 0, .long 0])), (q1, .inl (cI, 2, .inl (upd (upd (fun _ => 0) (0 : Int32).toNatClampNeg (nI (jroom x))) (1 : Int32).toNatClampNeg (nI (jroom y))))), (q3, .inl (cI, 800, .inl (fun _ => 0))), (q4, .inl (cI, 800, .inl (fun _ => 0))), (q5, .inl (cI, 800, .inl (fun _ => 0))), (q6, .inl (cI, 2, .inl (fun _ => 0))), (q11, .inl (cI, 24, .inl (fun _ => 0)))] := hD
  refine W.widen (k := 6) (n := 2428) (by omega) (by omega) ?_
  exact W.vret hx hb hr (fun t ht hW => ⟨⟨[(mo, .inr (6, [.int 0, .ref q1, .int (nI (jroom z)), .ref q3, .ref q4, .ref q5, .ref q6, .int 0, .int 0, .int 0, .long 0, .ref q11, .int 0, .long 0, .long 0])), (q1, .inl (cI, 2, .inl (upd (upd (fun _ => 0) (0 : Int32).toNatClampNeg (nI (jroom x))) (1 : Int32).toNatClampNeg (nI (jroom y))))), (q3, .inl (cI, 800, .inl (fun _ => 0))), (q4, .inl (cI, 800, .inl (fun _ => 0))), (q5, .inl (cI, 800, .inl (fun _ => 0))), (q6, .inl (cI, 2, .inl (fun _ => 0))), (q11, .inl (cI, 24, .inl (fun _ => 0)))], rfl, (by exact ⟨_, _, _, _, _, _, rfl⟩), by rw [ht]; exact hP, hD⟩, hS.F ht⟩) hS.2.2 dX6_init_81
set_option maxHeartbeats 1000000 in
set_option maxRecDepth 100000 in
theorem cM_add_1 (l : Launch) (D : va_G) (cI cL cQ : ClassId) (a : Nat) (b : Nat) (g : Nat) (mo : Nat) (q1 : Nat) (q3 : Nat) (q4 : Nat) (q5 : Nat) (q6 : Nat) (q11 : Nat) (x : Int32) (y : Int32) (sz : Nat) (ha : a ≤ 400) (hb0 : 0 < a) : Met l yX6_add wsX6_add ({ frames := 1, cells := 0, slots := 0, locals := 21 }) (jw_P D vwCl (jT cI cL cQ) cL cQ [.ref mo, .int 1, .int x, .int y] [(mo, .inr (6, [.int 0, .ref q1, .int (nI g), .ref q3, .ref q4, .ref q5, .ref q6, .int 0, .int 0, .int 0, .long 0, .ref q11, .int 0, .long 0, .long 0])), (q1, .inl (cI, 2, .inl (upd (upd (fun _ => 0) (0 : Int32).toNatClampNeg (nI a)) (1 : Int32).toNatClampNeg (nI b)))), (q3, .inl (cI, 800, .inl (fun _ => 0))), (q4, .inl (cI, 800, .inl (fun _ => 0))), (q6, .inl (cI, 2, .inl (fun _ => 0)))] sz) (va_Qi (fun (r : Int32) (u : va_W) => ∃ (k3 : Nat → Int32) (k4 : Nat → Int32) (k6 : Nat → Int32), r = 0 ∧ u = [(mo, .inr (6, [.int 0, .ref q1, .int (nI g), .ref q3, .ref q4, .ref q5, .ref q6, .int 0, .int 0, .int 0, .long 0, .ref q11, .int 0, .long 0, .long 0])), (q1, .inl (cI, 2, .inl (upd (upd (fun _ => 0) (0 : Int32).toNatClampNeg (nI a)) (1 : Int32).toNatClampNeg (nI b)))), (q3, .inl (cI, 800, .inl k3)), (q4, .inl (cI, 800, .inl k4)), (q6, .inl (cI, 2, .inl k6))]) (jw_B D vwCl (va_A [(mo, .inr (6, [.int 0, .ref q1, .int (nI g), .ref q3, .ref q4, .ref q5, .ref q6, .int 0, .int 0, .int 0, .long 0, .ref q11, .int 0, .long 0, .long 0])), (q1, .inl (cI, 2, .inl (upd (upd (fun _ => 0) (0 : Int32).toNatClampNeg (nI a)) (1 : Int32).toNatClampNeg (nI b)))), (q3, .inl (cI, 800, .inl (fun _ => 0))), (q4, .inl (cI, 800, .inl (fun _ => 0))), (q6, .inl (cI, 2, .inl (fun _ => 0)))] sz) (fun u : va_W => u)) (va_A [(mo, .inr (6, [.int 0, .ref q1, .int (nI g), .ref q3, .ref q4, .ref q5, .ref q6, .int 0, .int 0, .int 0, .long 0, .ref q11, .int 0, .long 0, .long 0])), (q1, .inl (cI, 2, .inl (upd (upd (fun _ => 0) (0 : Int32).toNatClampNeg (nI a)) (1 : Int32).toNatClampNeg (nI b)))), (q3, .inl (cI, 800, .inl (fun _ => 0))), (q4, .inl (cI, 800, .inl (fun _ => 0))), (q6, .inl (cI, 2, .inl (fun _ => 0)))] sz)) 0 0 (va_A [(mo, .inr (6, [.int 0, .ref q1, .int (nI g), .ref q3, .ref q4, .ref q5, .ref q6, .int 0, .int 0, .int 0, .long 0, .ref q11, .int 0, .long 0, .long 0])), (q1, .inl (cI, 2, .inl (upd (upd (fun _ => 0) (0 : Int32).toNatClampNeg (nI a)) (1 : Int32).toNatClampNeg (nI b)))), (q3, .inl (cI, 800, .inl (fun _ => 0))), (q4, .inl (cI, 800, .inl (fun _ => 0))), (q6, .inl (cI, 2, .inl (fun _ => 0)))] sz) := by
  refine Met.ofW (cc := cX6_add) (maxL := 6) (ret := (some .int)) (by decide) rfl ?_
  intro p e s m args below meth c s₁ B hml hv
  obtain ⟨rfl, hsz, hP, hK, hN, hD0⟩ := hv
  have hx := B.exec
  have hb := B.bytes
  have hr := B.returns
  have hts := atoms_spec (ws := wsX6_add) B.pre
  have hown : s.vm.findClass RX6 = some m.cls := findClass_of_methodNamed B.named
  have hlocks := B.notSynchronized
  subst hsz
  have hD := hD0.self (sz := s.heap.size)
  generalize hAe : va_A [(mo, .inr (6, [.int 0, .ref q1, .int (nI g), .ref q3, .ref q4, .ref q5, .ref q6, .int 0, .int 0, .int 0, .long 0, .ref q11, .int 0, .long 0, .long 0])), (q1, .inl (cI, 2, .inl (upd (upd (fun _ => 0) (0 : Int32).toNatClampNeg (nI a)) (1 : Int32).toNatClampNeg (nI b)))), (q3, .inl (cI, 800, .inl (fun _ => 0))), (q4, .inl (cI, 800, .inl (fun _ => 0))), (q6, .inl (cI, 2, .inl (fun _ => 0)))] s.heap.size = A at hD ⊢
  have hA : ∀ q : Nat, s.heap.size ≤ q → A q := fun q h => by rw [← hAe]; exact Or.inr h
  have hS : va_S A s.heap s.heap [] := va_S.rf
  have hl := lv_entry ([.ref mo, .int 1, .int x, .int y]) (n := 6) (Nat.le_of_ble_eq_true rfl)
  rw [lg_entry_eq]
  generalize (lg_sl ([.ref mo, .int 1, .int x, .int y]) ++ List.replicate (6 - (lg_sl ([.ref mo, .int 1, .int x, .int y])).length) Slot.unset).toArray = ls at hl ⊢
  have hl : lv_has ls 6 [(0, .ref mo), (1, .int 1), (2, .int x), (3, .int y)] := hl
  refine lv_iload_n hx hb dX6_add_0 rfl (lv_at hl 1 rfl) ?_
  refine lv_if_eq (tgt := 8) hx hb dX6_add_1 (by decide) (fun c_1 => absurd c_1 (by decide)) (fun c_1 => ?_)
  refine lv_iconst (v := 0) hx hb dX6_add_4 (by decide) ?_
  refine lv_goto (tgt := 9) hx hb dX6_add_5 (by decide) ?_
  refine lv_istore (lv' := [(4, .int 0), (0, .ref mo), (1, .int 1), (2, .int x), (3, .int y)]) hx hb dX6_add_9 hl (by decide) rfl (fun ls hl => ?_)
  refine lv_aload_n hx hb dX6_add_11 rfl (lv_at hl 1 rfl) ?_
  refine lv_aload_n hx hb dX6_add_12 rfl (lv_at hl 1 rfl) ?_
  refine va_get (D := D) (ci := 6) (v := .ref q6) (C := RX6) (T := TX6) (N := 15) hx hb hts (by decide +kernel) hown hK hP 0 rfl rfl 6 (by decide) (hts (.fieldLink RX6 22 "JoinDeskModel" "many" "[I") (by decide +kernel)) (fun _ h9 => h9) rfl dX6_add_13 ?_
  refine lv_iload hx hb dX6_add_16 (lv_at hl 0 rfl) ?_
  refine va_iald hx hb hK hP 4 0 rfl rfl (by unfold vp_in; decide) dX6_add_18 ?_
  refine lv_topi (fun v_2 e_v_2 => ?_)
  obtain rfl : v_2 = 0 := e_v_2.trans (rfl)
  refine lv_aload_n hx hb dX6_add_19 rfl (lv_at hl 1 rfl) ?_
  refine va_get (D := D) (ci := 6) (v := .ref q1) (C := RX6) (T := TX6) (N := 15) hx hb hts (by decide +kernel) hown hK hP 0 rfl rfl 1 (by decide) (hts (.fieldLink RX6 7 "JoinDeskModel" "most" "[I") (by decide +kernel)) (fun _ h9 => h9) rfl dX6_add_20 ?_
  refine lv_iload hx hb dX6_add_23 (lv_at hl 0 rfl) ?_
  refine va_iald hx hb hK hP 1 0 rfl rfl (by unfold vp_in; decide) dX6_add_25 ?_
  refine lv_topi (fun v_3 e_v_3 => ?_)
  obtain rfl : v_3 = nI a := e_v_3.trans (rfl)
  refine lv_icmp_ne (tgt := 33) hx hb dX6_add_26 (by decide) (fun c_4 => ?_) (fun c_4 => absurd c_4 (by exact fun h => nI_ne0 hb0 (by omega) h.symm))
  refine lv_iconst (v := 0) hx hb dX6_add_33 (by decide) ?_
  refine jw_i (wr := [(q1, .inl (cI, 2, .inl (upd (upd (fun _ => 0) (0 : Int32).toNatClampNeg (nI a)) (1 : Int32).toNatClampNeg (nI b)))), (q3, .inl (cI, 800, .inl (fun _ => 0))), (q4, .inl (cI, 800, .inl (fun _ => 0))), (q6, .inl (cI, 2, .inl (fun _ => 0)))]) (va_runV (As := [.int 0]) (rest := []) ⟨hx, hb, hml, hown, hts⟩ (cM_refuses_0 l D cI cL cQ mo 0 q1 (nI g) q3 q4 q5 q6 0 0 0 0 q11 0 0 0 _) (cwV 1 hts gX6_add_X6_refuses rfl rfl rfl (by decide +kernel) ⟨Nat.le_of_ble_eq_true rfl, Nat.le_of_ble_eq_true rfl⟩) (jw_V hK hN hP hD [0] (by decide) rfl 6 0 rfl rfl rfl) rfl rfl hl.1 rfl (lv_room (Nat.le_of_ble_eq_true rfl)) dX6_add_34 ⟨Nat.le_of_ble_eq_true rfl, Nat.le_of_ble_eq_true rfl⟩) hP hD hS hA [0] [1, 2, 3, 4] rfl rfl (by decide) (by decide) (fun r u H locs f_5 hP hD hS => ?_)
  obtain ⟨rfl, rfl⟩ := f_5
  have hP : va_P D vwCl [(q1, .inl (cI, 2, .inl (upd (upd (fun _ => 0) (0 : Int32).toNatClampNeg (nI a)) (1 : Int32).toNatClampNeg (nI b)))), (q3, .inl (cI, 800, .inl (fun _ => 0))), (q4, .inl (cI, 800, .inl (fun _ => 0))), (q6, .inl (cI, 2, .inl (fun _ => 0))), (mo, .inr (6, [.int 0, .ref q1, .int (nI g), .ref q3, .ref q4, .ref q5, .ref q6, .int 0, .int 0, .int 0, .long 0, .ref q11, .int 0, .long 0, .long 0]))] H := hP
  have hD : va_D A [(q1, .inl (cI, 2, .inl (upd (upd (fun _ => 0) (0 : Int32).toNatClampNeg (nI a)) (1 : Int32).toNatClampNeg (nI b)))), (q3, .inl (cI, 800, .inl (fun _ => 0))), (q4, .inl (cI, 800, .inl (fun _ => 0))), (q6, .inl (cI, 2, .inl (fun _ => 0))), (mo, .inr (6, [.int 0, .ref q1, .int (nI g), .ref q3, .ref q4, .ref q5, .ref q6, .int 0, .int 0, .int 0, .long 0, .ref q11, .int 0, .long 0, .long 0]))] := hD
  refine lv_if_eq (tgt := 42) hx hb dX6_add_37 (by decide) (fun c_6 => ?_) (fun c_6 => absurd c_6 (by decide))
  refine lv_aload_n hx hb dX6_add_42 rfl (lv_at hl 1 rfl) ?_
  refine va_get (D := D) (ci := 6) (v := .ref q6) (C := RX6) (T := TX6) (N := 15) hx hb hts (by decide +kernel) hown hK hP 4 rfl rfl 6 (by decide) (hts (.fieldLink RX6 22 "JoinDeskModel" "many" "[I") (by decide +kernel)) (fun _ h9 => h9) rfl dX6_add_43 ?_
  refine lv_iload hx hb dX6_add_46 (lv_at hl 0 rfl) ?_
  refine va_iald hx hb hK hP 3 0 rfl rfl (by unfold vp_in; decide) dX6_add_48 ?_
  refine lv_topi (fun v_7 e_v_7 => ?_)
  obtain rfl : v_7 = 0 := e_v_7.trans (rfl)
  refine lv_istore (lv' := [(5, .int 0), (4, .int 0), (0, .ref mo), (1, .int 1), (2, .int x), (3, .int y)]) hx hb dX6_add_49 hl (by decide) rfl (fun ls hl => ?_)
  refine lv_aload_n hx hb dX6_add_51 rfl (lv_at hl 2 rfl) ?_
  refine va_get (D := D) (ci := 6) (v := .ref q3) (C := RX6) (T := TX6) (N := 15) hx hb hts (by decide +kernel) hown hK hP 4 rfl rfl 3 (by decide) (hts (.fieldLink RX6 13 "JoinDeskModel" "keys" "[I") (by decide +kernel)) (fun _ h9 => h9) rfl dX6_add_52 ?_
  refine lv_sipush (v := 400) hx hb dX6_add_55 (by decide) ?_
  refine lv_iload hx hb dX6_add_58 (lv_at hl 1 rfl) ?_
  refine lv_imul hx hb dX6_add_60 ?_
  refine lv_topi (fun z_8 e_z_8 => ?_)
  obtain rfl : z_8 = 0 := e_z_8.trans (by decide)
  refine lv_iload hx hb dX6_add_61 (lv_at hl 0 rfl) ?_
  refine lv_iadd hx hb dX6_add_63 ?_
  refine lv_topi (fun z_9 e_z_9 => ?_)
  obtain rfl : z_9 = 0 := e_z_9.trans (by decide)
  refine lv_iload_n hx hb dX6_add_64 rfl (lv_at hl 4 rfl) ?_
  refine va_iast hx hb hK hP hD hS 1 0 rfl rfl (by unfold vp_in; decide) dX6_add_65 (fun H locs hP hD hS => ?_)
  have hP : va_P D vwCl [(q1, .inl (cI, 2, .inl (upd (upd (fun _ => 0) (0 : Int32).toNatClampNeg (nI a)) (1 : Int32).toNatClampNeg (nI b)))), (q3, .inl (cI, 800, .inl (upd (fun _ => 0) (0 : Int32).toNatClampNeg x))), (q4, .inl (cI, 800, .inl (fun _ => 0))), (q6, .inl (cI, 2, .inl (fun _ => 0))), (mo, .inr (6, [.int 0, .ref q1, .int (nI g), .ref q3, .ref q4, .ref q5, .ref q6, .int 0, .int 0, .int 0, .long 0, .ref q11, .int 0, .long 0, .long 0]))] H := hP
  have hD : va_D A [(q1, .inl (cI, 2, .inl (upd (upd (fun _ => 0) (0 : Int32).toNatClampNeg (nI a)) (1 : Int32).toNatClampNeg (nI b)))), (q3, .inl (cI, 800, .inl (upd (fun _ => 0) (0 : Int32).toNatClampNeg x))), (q4, .inl (cI, 800, .inl (fun _ => 0))), (q6, .inl (cI, 2, .inl (fun _ => 0))), (mo, .inr (6, [.int 0, .ref q1, .int (nI g), .ref q3, .ref q4, .ref q5, .ref q6, .int 0, .int 0, .int 0, .long 0, .ref q11, .int 0, .long 0, .long 0]))] := hD
  refine lv_aload_n hx hb dX6_add_66 rfl (lv_at hl 2 rfl) ?_
  refine va_get (D := D) (ci := 6) (v := .ref q4) (C := RX6) (T := TX6) (N := 15) hx hb hts (by decide +kernel) hown hK hP 4 rfl rfl 4 (by decide) (hts (.fieldLink RX6 16 "JoinDeskModel" "values" "[I") (by decide +kernel)) (fun _ h9 => h9) rfl dX6_add_67 ?_
  refine lv_sipush (v := 400) hx hb dX6_add_70 (by decide) ?_
  refine lv_iload hx hb dX6_add_73 (lv_at hl 1 rfl) ?_
  refine lv_imul hx hb dX6_add_75 ?_
  refine lv_topi (fun z_10 e_z_10 => ?_)
  obtain rfl : z_10 = 0 := e_z_10.trans (by decide)
  refine lv_iload hx hb dX6_add_76 (lv_at hl 0 rfl) ?_
  refine lv_iadd hx hb dX6_add_78 ?_
  refine lv_topi (fun z_11 e_z_11 => ?_)
  obtain rfl : z_11 = 0 := e_z_11.trans (by decide)
  refine lv_iload_n hx hb dX6_add_79 rfl (lv_at hl 5 rfl) ?_
  refine va_iast hx hb hK hP hD hS 2 0 rfl rfl (by unfold vp_in; decide) dX6_add_80 (fun H locs hP hD hS => ?_)
  have hP : va_P D vwCl [(q1, .inl (cI, 2, .inl (upd (upd (fun _ => 0) (0 : Int32).toNatClampNeg (nI a)) (1 : Int32).toNatClampNeg (nI b)))), (q3, .inl (cI, 800, .inl (upd (fun _ => 0) (0 : Int32).toNatClampNeg x))), (q4, .inl (cI, 800, .inl (upd (fun _ => 0) (0 : Int32).toNatClampNeg y))), (q6, .inl (cI, 2, .inl (fun _ => 0))), (mo, .inr (6, [.int 0, .ref q1, .int (nI g), .ref q3, .ref q4, .ref q5, .ref q6, .int 0, .int 0, .int 0, .long 0, .ref q11, .int 0, .long 0, .long 0]))] H := hP
  have hD : va_D A [(q1, .inl (cI, 2, .inl (upd (upd (fun _ => 0) (0 : Int32).toNatClampNeg (nI a)) (1 : Int32).toNatClampNeg (nI b)))), (q3, .inl (cI, 800, .inl (upd (fun _ => 0) (0 : Int32).toNatClampNeg x))), (q4, .inl (cI, 800, .inl (upd (fun _ => 0) (0 : Int32).toNatClampNeg y))), (q6, .inl (cI, 2, .inl (fun _ => 0))), (mo, .inr (6, [.int 0, .ref q1, .int (nI g), .ref q3, .ref q4, .ref q5, .ref q6, .int 0, .int 0, .int 0, .long 0, .ref q11, .int 0, .long 0, .long 0]))] := hD
  refine lv_aload_n hx hb dX6_add_81 rfl (lv_at hl 2 rfl) ?_
  refine va_get (D := D) (ci := 6) (v := .ref q6) (C := RX6) (T := TX6) (N := 15) hx hb hts (by decide +kernel) hown hK hP 4 rfl rfl 6 (by decide) (hts (.fieldLink RX6 22 "JoinDeskModel" "many" "[I") (by decide +kernel)) (fun _ h9 => h9) rfl dX6_add_82 ?_
  refine lv_iload hx hb dX6_add_85 (lv_at hl 1 rfl) ?_
  refine lv_dup2_11 hx hb dX6_add_87 rfl rfl ?_
  refine va_iald hx hb hK hP 3 0 rfl rfl (by unfold vp_in; decide) dX6_add_88 ?_
  refine lv_topi (fun v_12 e_v_12 => ?_)
  obtain rfl : v_12 = 0 := e_v_12.trans (rfl)
  refine lv_iconst (v := 1) hx hb dX6_add_89 (by decide) ?_
  refine lv_iadd hx hb dX6_add_90 ?_
  refine lv_topi (fun z_13 e_z_13 => ?_)
  obtain rfl : z_13 = 1 := e_z_13.trans (by decide)
  refine va_iast hx hb hK hP hD hS 3 0 rfl rfl (by unfold vp_in; decide) dX6_add_91 (fun H locs hP hD hS => ?_)
  have hP : va_P D vwCl [(q1, .inl (cI, 2, .inl (upd (upd (fun _ => 0) (0 : Int32).toNatClampNeg (nI a)) (1 : Int32).toNatClampNeg (nI b)))), (q3, .inl (cI, 800, .inl (upd (fun _ => 0) (0 : Int32).toNatClampNeg x))), (q4, .inl (cI, 800, .inl (upd (fun _ => 0) (0 : Int32).toNatClampNeg y))), (q6, .inl (cI, 2, .inl (upd (fun _ => 0) (0 : Int32).toNatClampNeg 1))), (mo, .inr (6, [.int 0, .ref q1, .int (nI g), .ref q3, .ref q4, .ref q5, .ref q6, .int 0, .int 0, .int 0, .long 0, .ref q11, .int 0, .long 0, .long 0]))] H := hP
  have hD : va_D A [(q1, .inl (cI, 2, .inl (upd (upd (fun _ => 0) (0 : Int32).toNatClampNeg (nI a)) (1 : Int32).toNatClampNeg (nI b)))), (q3, .inl (cI, 800, .inl (upd (fun _ => 0) (0 : Int32).toNatClampNeg x))), (q4, .inl (cI, 800, .inl (upd (fun _ => 0) (0 : Int32).toNatClampNeg y))), (q6, .inl (cI, 2, .inl (upd (fun _ => 0) (0 : Int32).toNatClampNeg 1))), (mo, .inr (6, [.int 0, .ref q1, .int (nI g), .ref q3, .ref q4, .ref q5, .ref q6, .int 0, .int 0, .int 0, .long 0, .ref q11, .int 0, .long 0, .long 0]))] := hD
  refine lv_aload_n hx hb dX6_add_92 rfl (lv_at hl 2 rfl) ?_
  refine lv_iconst (v := 0) hx hb dX6_add_93 (by decide) ?_
  refine va_put (D := D) (ci := 6) (v := .int 0) (ty := .boolean) (C := RX6) (T := TX6) (N := 15) hx hb hts (by decide +kernel) tyX6 tyX6_ok nmX6 hown hK hP hD hS 4 rfl rfl 7 (by decide) (hts (.fieldLink RX6 43 "JoinDeskModel" "prepared" "Z") (by decide +kernel)) (fun _ h9 => h9) rfl (by decide +kernel) rfl rfl (Nat.le_of_ble_eq_true rfl) dX6_add_94 (fun H locs hP hD hS => ?_)
  have hP : va_P D vwCl [(q1, .inl (cI, 2, .inl (upd (upd (fun _ => 0) (0 : Int32).toNatClampNeg (nI a)) (1 : Int32).toNatClampNeg (nI b)))), (q3, .inl (cI, 800, .inl (upd (fun _ => 0) (0 : Int32).toNatClampNeg x))), (q4, .inl (cI, 800, .inl (upd (fun _ => 0) (0 : Int32).toNatClampNeg y))), (q6, .inl (cI, 2, .inl (upd (fun _ => 0) (0 : Int32).toNatClampNeg 1))), (mo, .inr (6, [.int 0, .ref q1, .int (nI g), .ref q3, .ref q4, .ref q5, .ref q6, .int 0, .int 0, .int 0, .long 0, .ref q11, .int 0, .long 0, .long 0]))] H := hP
  have hD : va_D A [(q1, .inl (cI, 2, .inl (upd (upd (fun _ => 0) (0 : Int32).toNatClampNeg (nI a)) (1 : Int32).toNatClampNeg (nI b)))), (q3, .inl (cI, 800, .inl (upd (fun _ => 0) (0 : Int32).toNatClampNeg x))), (q4, .inl (cI, 800, .inl (upd (fun _ => 0) (0 : Int32).toNatClampNeg y))), (q6, .inl (cI, 2, .inl (upd (fun _ => 0) (0 : Int32).toNatClampNeg 1))), (mo, .inr (6, [.int 0, .ref q1, .int (nI g), .ref q3, .ref q4, .ref q5, .ref q6, .int 0, .int 0, .int 0, .long 0, .ref q11, .int 0, .long 0, .long 0]))] := hD
  refine lv_aload_n hx hb dX6_add_97 rfl (lv_at hl 2 rfl) ?_
  refine lv_iconst (v := 0) hx hb dX6_add_98 (by decide) ?_
  refine va_put (D := D) (ci := 6) (v := .int 0) (ty := .boolean) (C := RX6) (T := TX6) (N := 15) hx hb hts (by decide +kernel) tyX6 tyX6_ok nmX6 hown hK hP hD hS 4 rfl rfl 8 (by decide) (hts (.fieldLink RX6 47 "JoinDeskModel" "grouped" "Z") (by decide +kernel)) (fun _ h9 => h9) rfl (by decide +kernel) rfl rfl (Nat.le_of_ble_eq_true rfl) dX6_add_99 (fun H locs hP hD hS => ?_)
  have hP : va_P D vwCl [(q1, .inl (cI, 2, .inl (upd (upd (fun _ => 0) (0 : Int32).toNatClampNeg (nI a)) (1 : Int32).toNatClampNeg (nI b)))), (q3, .inl (cI, 800, .inl (upd (fun _ => 0) (0 : Int32).toNatClampNeg x))), (q4, .inl (cI, 800, .inl (upd (fun _ => 0) (0 : Int32).toNatClampNeg y))), (q6, .inl (cI, 2, .inl (upd (fun _ => 0) (0 : Int32).toNatClampNeg 1))), (mo, .inr (6, [.int 0, .ref q1, .int (nI g), .ref q3, .ref q4, .ref q5, .ref q6, .int 0, .int 0, .int 0, .long 0, .ref q11, .int 0, .long 0, .long 0]))] H := hP
  have hD : va_D A [(q1, .inl (cI, 2, .inl (upd (upd (fun _ => 0) (0 : Int32).toNatClampNeg (nI a)) (1 : Int32).toNatClampNeg (nI b)))), (q3, .inl (cI, 800, .inl (upd (fun _ => 0) (0 : Int32).toNatClampNeg x))), (q4, .inl (cI, 800, .inl (upd (fun _ => 0) (0 : Int32).toNatClampNeg y))), (q6, .inl (cI, 2, .inl (upd (fun _ => 0) (0 : Int32).toNatClampNeg 1))), (mo, .inr (6, [.int 0, .ref q1, .int (nI g), .ref q3, .ref q4, .ref q5, .ref q6, .int 0, .int 0, .int 0, .long 0, .ref q11, .int 0, .long 0, .long 0]))] := hD
  refine lv_iload hx hb dX6_add_102 (lv_at hl 0 rfl) ?_
  have hP := hP.sub (ws' := [(mo, .inr (6, [.int 0, .ref q1, .int (nI g), .ref q3, .ref q4, .ref q5, .ref q6, .int 0, .int 0, .int 0, .long 0, .ref q11, .int 0, .long 0, .long 0])), (q1, .inl (cI, 2, .inl (upd (upd (fun _ => 0) (0 : Int32).toNatClampNeg (nI a)) (1 : Int32).toNatClampNeg (nI b)))), (q3, .inl (cI, 800, .inl (upd (fun _ => 0) (0 : Int32).toNatClampNeg x))), (q4, .inl (cI, 800, .inl (upd (fun _ => 0) (0 : Int32).toNatClampNeg y))), (q6, .inl (cI, 2, .inl (upd (fun _ => 0) (0 : Int32).toNatClampNeg 1)))]) [4, 0, 1, 2, 3] rfl
  have hD := hD.sub (ws' := [(mo, .inr (6, [.int 0, .ref q1, .int (nI g), .ref q3, .ref q4, .ref q5, .ref q6, .int 0, .int 0, .int 0, .long 0, .ref q11, .int 0, .long 0, .long 0])), (q1, .inl (cI, 2, .inl (upd (upd (fun _ => 0) (0 : Int32).toNatClampNeg (nI a)) (1 : Int32).toNatClampNeg (nI b)))), (q3, .inl (cI, 800, .inl (upd (fun _ => 0) (0 : Int32).toNatClampNeg x))), (q4, .inl (cI, 800, .inl (upd (fun _ => 0) (0 : Int32).toNatClampNeg y))), (q6, .inl (cI, 2, .inl (upd (fun _ => 0) (0 : Int32).toNatClampNeg 1)))]) [4, 0, 1, 2, 3] (by decide) rfl
  refine W.widen (k := 0) (n := 0) (by omega) (by omega) ?_
  exact W.iret (v := 0) hx hb hr (fun t ht hW => ⟨⟨0, [(mo, .inr (6, [.int 0, .ref q1, .int (nI g), .ref q3, .ref q4, .ref q5, .ref q6, .int 0, .int 0, .int 0, .long 0, .ref q11, .int 0, .long 0, .long 0])), (q1, .inl (cI, 2, .inl (upd (upd (fun _ => 0) (0 : Int32).toNatClampNeg (nI a)) (1 : Int32).toNatClampNeg (nI b)))), (q3, .inl (cI, 800, .inl (upd (fun _ => 0) (0 : Int32).toNatClampNeg x))), (q4, .inl (cI, 800, .inl (upd (fun _ => 0) (0 : Int32).toNatClampNeg y))), (q6, .inl (cI, 2, .inl (upd (fun _ => 0) (0 : Int32).toNatClampNeg 1)))], rfl, (by exact ⟨_, _, _, rfl, rfl⟩), by rw [ht]; exact hP, hD⟩, hS.F ht⟩) hS.2.2 dX6_add_104
set_option maxHeartbeats 1000000 in
set_option maxRecDepth 100000 in
theorem cM_add_1t (l : Launch) (D : va_G) (cI cL cQ : ClassId) (a : Nat) (b : Nat) (g : Nat) (mo : Nat) (q1 : Nat) (q3 : Nat) (q4 : Nat) (q5 : Nat) (q6 : Nat) (q11 : Nat) (x : Int32) (y : Int32) (sz : Nat) (hb0 : a = 0) : Met l yX6_add wsX6_add ({ frames := 1, cells := 0, slots := 0, locals := 21 }) (jw_P D vwCl (jT cI cL cQ) cL cQ [.ref mo, .int 1, .int x, .int y] [(mo, .inr (6, [.int 0, .ref q1, .int (nI g), .ref q3, .ref q4, .ref q5, .ref q6, .int 0, .int 0, .int 0, .long 0, .ref q11, .int 0, .long 0, .long 0])), (q1, .inl (cI, 2, .inl (upd (upd (fun _ => 0) (0 : Int32).toNatClampNeg (nI a)) (1 : Int32).toNatClampNeg (nI b)))), (q6, .inl (cI, 2, .inl (fun _ => 0)))] sz) (va_Qi (fun (r : Int32) (u : va_W) => r = 0 ∧ u = [(mo, .inr (6, [.int 1, .ref q1, .int (nI g), .ref q3, .ref q4, .ref q5, .ref q6, .int 0, .int 0, .int 0, .long 0, .ref q11, .int 0, .long 0, .long 0])), (q1, .inl (cI, 2, .inl (upd (upd (fun _ => 0) (0 : Int32).toNatClampNeg (nI a)) (1 : Int32).toNatClampNeg (nI b)))), (q6, .inl (cI, 2, .inl (fun _ => 0)))]) (jw_B D vwCl (va_A [(mo, .inr (6, [.int 0, .ref q1, .int (nI g), .ref q3, .ref q4, .ref q5, .ref q6, .int 0, .int 0, .int 0, .long 0, .ref q11, .int 0, .long 0, .long 0])), (q1, .inl (cI, 2, .inl (upd (upd (fun _ => 0) (0 : Int32).toNatClampNeg (nI a)) (1 : Int32).toNatClampNeg (nI b)))), (q6, .inl (cI, 2, .inl (fun _ => 0)))] sz) (fun u : va_W => u)) (va_A [(mo, .inr (6, [.int 0, .ref q1, .int (nI g), .ref q3, .ref q4, .ref q5, .ref q6, .int 0, .int 0, .int 0, .long 0, .ref q11, .int 0, .long 0, .long 0])), (q1, .inl (cI, 2, .inl (upd (upd (fun _ => 0) (0 : Int32).toNatClampNeg (nI a)) (1 : Int32).toNatClampNeg (nI b)))), (q6, .inl (cI, 2, .inl (fun _ => 0)))] sz)) 0 0 (va_A [(mo, .inr (6, [.int 0, .ref q1, .int (nI g), .ref q3, .ref q4, .ref q5, .ref q6, .int 0, .int 0, .int 0, .long 0, .ref q11, .int 0, .long 0, .long 0])), (q1, .inl (cI, 2, .inl (upd (upd (fun _ => 0) (0 : Int32).toNatClampNeg (nI a)) (1 : Int32).toNatClampNeg (nI b)))), (q6, .inl (cI, 2, .inl (fun _ => 0)))] sz) := by
  refine Met.ofW (cc := cX6_add) (maxL := 6) (ret := (some .int)) (by decide) rfl ?_
  intro p e s m args below meth c s₁ B hml hv
  obtain ⟨rfl, hsz, hP, hK, hN, hD0⟩ := hv
  have hx := B.exec
  have hb := B.bytes
  have hr := B.returns
  have hts := atoms_spec (ws := wsX6_add) B.pre
  have hown : s.vm.findClass RX6 = some m.cls := findClass_of_methodNamed B.named
  have hlocks := B.notSynchronized
  subst hsz
  have hD := hD0.self (sz := s.heap.size)
  generalize hAe : va_A [(mo, .inr (6, [.int 0, .ref q1, .int (nI g), .ref q3, .ref q4, .ref q5, .ref q6, .int 0, .int 0, .int 0, .long 0, .ref q11, .int 0, .long 0, .long 0])), (q1, .inl (cI, 2, .inl (upd (upd (fun _ => 0) (0 : Int32).toNatClampNeg (nI a)) (1 : Int32).toNatClampNeg (nI b)))), (q6, .inl (cI, 2, .inl (fun _ => 0)))] s.heap.size = A at hD ⊢
  have hA : ∀ q : Nat, s.heap.size ≤ q → A q := fun q h => by rw [← hAe]; exact Or.inr h
  have hS : va_S A s.heap s.heap [] := va_S.rf
  have hl := lv_entry ([.ref mo, .int 1, .int x, .int y]) (n := 6) (Nat.le_of_ble_eq_true rfl)
  rw [lg_entry_eq]
  generalize (lg_sl ([.ref mo, .int 1, .int x, .int y]) ++ List.replicate (6 - (lg_sl ([.ref mo, .int 1, .int x, .int y])).length) Slot.unset).toArray = ls at hl ⊢
  have hl : lv_has ls 6 [(0, .ref mo), (1, .int 1), (2, .int x), (3, .int y)] := hl
  refine lv_iload_n hx hb dX6_add_0 rfl (lv_at hl 1 rfl) ?_
  refine lv_if_eq (tgt := 8) hx hb dX6_add_1 (by decide) (fun c_1 => absurd c_1 (by decide)) (fun c_1 => ?_)
  refine lv_iconst (v := 0) hx hb dX6_add_4 (by decide) ?_
  refine lv_goto (tgt := 9) hx hb dX6_add_5 (by decide) ?_
  refine lv_istore (lv' := [(4, .int 0), (0, .ref mo), (1, .int 1), (2, .int x), (3, .int y)]) hx hb dX6_add_9 hl (by decide) rfl (fun ls hl => ?_)
  refine lv_aload_n hx hb dX6_add_11 rfl (lv_at hl 1 rfl) ?_
  refine lv_aload_n hx hb dX6_add_12 rfl (lv_at hl 1 rfl) ?_
  refine va_get (D := D) (ci := 6) (v := .ref q6) (C := RX6) (T := TX6) (N := 15) hx hb hts (by decide +kernel) hown hK hP 0 rfl rfl 6 (by decide) (hts (.fieldLink RX6 22 "JoinDeskModel" "many" "[I") (by decide +kernel)) (fun _ h9 => h9) rfl dX6_add_13 ?_
  refine lv_iload hx hb dX6_add_16 (lv_at hl 0 rfl) ?_
  refine va_iald hx hb hK hP 2 0 rfl rfl (by unfold vp_in; decide) dX6_add_18 ?_
  refine lv_topi (fun v_2 e_v_2 => ?_)
  obtain rfl : v_2 = 0 := e_v_2.trans (rfl)
  refine lv_aload_n hx hb dX6_add_19 rfl (lv_at hl 1 rfl) ?_
  refine va_get (D := D) (ci := 6) (v := .ref q1) (C := RX6) (T := TX6) (N := 15) hx hb hts (by decide +kernel) hown hK hP 0 rfl rfl 1 (by decide) (hts (.fieldLink RX6 7 "JoinDeskModel" "most" "[I") (by decide +kernel)) (fun _ h9 => h9) rfl dX6_add_20 ?_
  refine lv_iload hx hb dX6_add_23 (lv_at hl 0 rfl) ?_
  refine va_iald hx hb hK hP 1 0 rfl rfl (by unfold vp_in; decide) dX6_add_25 ?_
  refine lv_topi (fun v_3 e_v_3 => ?_)
  obtain rfl : v_3 = nI a := e_v_3.trans (rfl)
  refine lv_icmp_ne (tgt := 33) hx hb dX6_add_26 (by decide) (fun c_4 => absurd c_4 (by exact fun h => h (by rw [hb0]; rfl))) (fun c_4 => ?_)
  refine lv_iconst (v := 1) hx hb dX6_add_29 (by decide) ?_
  refine lv_goto (tgt := 34) hx hb dX6_add_30 (by decide) ?_
  refine jw_i (wr := [(q1, .inl (cI, 2, .inl (upd (upd (fun _ => 0) (0 : Int32).toNatClampNeg (nI a)) (1 : Int32).toNatClampNeg (nI b)))), (q6, .inl (cI, 2, .inl (fun _ => 0)))]) (va_runV (As := [.int 1]) (rest := []) ⟨hx, hb, hml, hown, hts⟩ (cM_refuses_1 l D cI cL cQ mo 0 q1 (nI g) q3 q4 q5 q6 0 0 0 0 q11 0 0 0 _) (cwV 1 hts gX6_add_X6_refuses rfl rfl rfl (by decide +kernel) ⟨Nat.le_of_ble_eq_true rfl, Nat.le_of_ble_eq_true rfl⟩) (jw_V hK hN hP hD [0] (by decide) rfl 6 0 rfl rfl rfl) rfl rfl hl.1 rfl (lv_room (Nat.le_of_ble_eq_true rfl)) dX6_add_34 ⟨Nat.le_of_ble_eq_true rfl, Nat.le_of_ble_eq_true rfl⟩) hP hD hS hA [0] [1, 2] rfl rfl (by decide) (by decide) (fun r u H locs f_5 hP hD hS => ?_)
  obtain ⟨rfl, rfl⟩ := f_5
  have hP : va_P D vwCl [(q1, .inl (cI, 2, .inl (upd (upd (fun _ => 0) (0 : Int32).toNatClampNeg (nI a)) (1 : Int32).toNatClampNeg (nI b)))), (q6, .inl (cI, 2, .inl (fun _ => 0))), (mo, .inr (6, [.int 1, .ref q1, .int (nI g), .ref q3, .ref q4, .ref q5, .ref q6, .int 0, .int 0, .int 0, .long 0, .ref q11, .int 0, .long 0, .long 0]))] H := hP
  have hD : va_D A [(q1, .inl (cI, 2, .inl (upd (upd (fun _ => 0) (0 : Int32).toNatClampNeg (nI a)) (1 : Int32).toNatClampNeg (nI b)))), (q6, .inl (cI, 2, .inl (fun _ => 0))), (mo, .inr (6, [.int 1, .ref q1, .int (nI g), .ref q3, .ref q4, .ref q5, .ref q6, .int 0, .int 0, .int 0, .long 0, .ref q11, .int 0, .long 0, .long 0]))] := hD
  refine lv_if_eq (tgt := 42) hx hb dX6_add_37 (by decide) (fun c_6 => absurd c_6 (by decide)) (fun c_6 => ?_)
  refine lv_iconst (v := 0) hx hb dX6_add_40 (by decide) ?_
  have hP := hP.sub (ws' := [(mo, .inr (6, [.int 1, .ref q1, .int (nI g), .ref q3, .ref q4, .ref q5, .ref q6, .int 0, .int 0, .int 0, .long 0, .ref q11, .int 0, .long 0, .long 0])), (q1, .inl (cI, 2, .inl (upd (upd (fun _ => 0) (0 : Int32).toNatClampNeg (nI a)) (1 : Int32).toNatClampNeg (nI b)))), (q6, .inl (cI, 2, .inl (fun _ => 0)))]) [2, 0, 1] rfl
  have hD := hD.sub (ws' := [(mo, .inr (6, [.int 1, .ref q1, .int (nI g), .ref q3, .ref q4, .ref q5, .ref q6, .int 0, .int 0, .int 0, .long 0, .ref q11, .int 0, .long 0, .long 0])), (q1, .inl (cI, 2, .inl (upd (upd (fun _ => 0) (0 : Int32).toNatClampNeg (nI a)) (1 : Int32).toNatClampNeg (nI b)))), (q6, .inl (cI, 2, .inl (fun _ => 0)))]) [2, 0, 1] (by decide) rfl
  refine W.widen (k := 0) (n := 0) (by omega) (by omega) ?_
  exact W.iret (v := 0) hx hb hr (fun t ht hW => ⟨⟨0, [(mo, .inr (6, [.int 1, .ref q1, .int (nI g), .ref q3, .ref q4, .ref q5, .ref q6, .int 0, .int 0, .int 0, .long 0, .ref q11, .int 0, .long 0, .long 0])), (q1, .inl (cI, 2, .inl (upd (upd (fun _ => 0) (0 : Int32).toNatClampNeg (nI a)) (1 : Int32).toNatClampNeg (nI b)))), (q6, .inl (cI, 2, .inl (fun _ => 0)))], rfl, (by exact ⟨rfl, rfl⟩), by rw [ht]; exact hP, hD⟩, hS.F ht⟩) hS.2.2 dX6_add_41
set_option maxHeartbeats 1000000 in
set_option maxRecDepth 100000 in
theorem cM_add_0 (l : Launch) (D : va_G) (cI cL cQ : ClassId) (a : Nat) (b : Nat) (g : Nat) (mo : Nat) (q1 : Nat) (q3 : Nat) (q4 : Nat) (q5 : Nat) (q6 : Nat) (q11 : Nat) (x : Int32) (y : Int32) (sz : Nat) (ha : b ≤ 400) (hb0 : 0 < b) : Met l yX6_add wsX6_add ({ frames := 1, cells := 0, slots := 0, locals := 21 }) (jw_P D vwCl (jT cI cL cQ) cL cQ [.ref mo, .int 0, .int x, .int y] [(mo, .inr (6, [.int 0, .ref q1, .int (nI g), .ref q3, .ref q4, .ref q5, .ref q6, .int 0, .int 0, .int 0, .long 0, .ref q11, .int 0, .long 0, .long 0])), (q1, .inl (cI, 2, .inl (upd (upd (fun _ => 0) (0 : Int32).toNatClampNeg (nI a)) (1 : Int32).toNatClampNeg (nI b)))), (q3, .inl (cI, 800, .inl (fun _ => 0))), (q4, .inl (cI, 800, .inl (fun _ => 0))), (q6, .inl (cI, 2, .inl (fun _ => 0)))] sz) (va_Qi (fun (r : Int32) (u : va_W) => ∃ (k3 : Nat → Int32) (k4 : Nat → Int32) (k6 : Nat → Int32), r = 0 ∧ u = [(mo, .inr (6, [.int 0, .ref q1, .int (nI g), .ref q3, .ref q4, .ref q5, .ref q6, .int 0, .int 0, .int 0, .long 0, .ref q11, .int 0, .long 0, .long 0])), (q1, .inl (cI, 2, .inl (upd (upd (fun _ => 0) (0 : Int32).toNatClampNeg (nI a)) (1 : Int32).toNatClampNeg (nI b)))), (q3, .inl (cI, 800, .inl k3)), (q4, .inl (cI, 800, .inl k4)), (q6, .inl (cI, 2, .inl k6))]) (jw_B D vwCl (va_A [(mo, .inr (6, [.int 0, .ref q1, .int (nI g), .ref q3, .ref q4, .ref q5, .ref q6, .int 0, .int 0, .int 0, .long 0, .ref q11, .int 0, .long 0, .long 0])), (q1, .inl (cI, 2, .inl (upd (upd (fun _ => 0) (0 : Int32).toNatClampNeg (nI a)) (1 : Int32).toNatClampNeg (nI b)))), (q3, .inl (cI, 800, .inl (fun _ => 0))), (q4, .inl (cI, 800, .inl (fun _ => 0))), (q6, .inl (cI, 2, .inl (fun _ => 0)))] sz) (fun u : va_W => u)) (va_A [(mo, .inr (6, [.int 0, .ref q1, .int (nI g), .ref q3, .ref q4, .ref q5, .ref q6, .int 0, .int 0, .int 0, .long 0, .ref q11, .int 0, .long 0, .long 0])), (q1, .inl (cI, 2, .inl (upd (upd (fun _ => 0) (0 : Int32).toNatClampNeg (nI a)) (1 : Int32).toNatClampNeg (nI b)))), (q3, .inl (cI, 800, .inl (fun _ => 0))), (q4, .inl (cI, 800, .inl (fun _ => 0))), (q6, .inl (cI, 2, .inl (fun _ => 0)))] sz)) 0 0 (va_A [(mo, .inr (6, [.int 0, .ref q1, .int (nI g), .ref q3, .ref q4, .ref q5, .ref q6, .int 0, .int 0, .int 0, .long 0, .ref q11, .int 0, .long 0, .long 0])), (q1, .inl (cI, 2, .inl (upd (upd (fun _ => 0) (0 : Int32).toNatClampNeg (nI a)) (1 : Int32).toNatClampNeg (nI b)))), (q3, .inl (cI, 800, .inl (fun _ => 0))), (q4, .inl (cI, 800, .inl (fun _ => 0))), (q6, .inl (cI, 2, .inl (fun _ => 0)))] sz) := by
  refine Met.ofW (cc := cX6_add) (maxL := 6) (ret := (some .int)) (by decide) rfl ?_
  intro p e s m args below meth c s₁ B hml hv
  obtain ⟨rfl, hsz, hP, hK, hN, hD0⟩ := hv
  have hx := B.exec
  have hb := B.bytes
  have hr := B.returns
  have hts := atoms_spec (ws := wsX6_add) B.pre
  have hown : s.vm.findClass RX6 = some m.cls := findClass_of_methodNamed B.named
  have hlocks := B.notSynchronized
  subst hsz
  have hD := hD0.self (sz := s.heap.size)
  generalize hAe : va_A [(mo, .inr (6, [.int 0, .ref q1, .int (nI g), .ref q3, .ref q4, .ref q5, .ref q6, .int 0, .int 0, .int 0, .long 0, .ref q11, .int 0, .long 0, .long 0])), (q1, .inl (cI, 2, .inl (upd (upd (fun _ => 0) (0 : Int32).toNatClampNeg (nI a)) (1 : Int32).toNatClampNeg (nI b)))), (q3, .inl (cI, 800, .inl (fun _ => 0))), (q4, .inl (cI, 800, .inl (fun _ => 0))), (q6, .inl (cI, 2, .inl (fun _ => 0)))] s.heap.size = A at hD ⊢
  have hA : ∀ q : Nat, s.heap.size ≤ q → A q := fun q h => by rw [← hAe]; exact Or.inr h
  have hS : va_S A s.heap s.heap [] := va_S.rf
  have hl := lv_entry ([.ref mo, .int 0, .int x, .int y]) (n := 6) (Nat.le_of_ble_eq_true rfl)
  rw [lg_entry_eq]
  generalize (lg_sl ([.ref mo, .int 0, .int x, .int y]) ++ List.replicate (6 - (lg_sl ([.ref mo, .int 0, .int x, .int y])).length) Slot.unset).toArray = ls at hl ⊢
  have hl : lv_has ls 6 [(0, .ref mo), (1, .int 0), (2, .int x), (3, .int y)] := hl
  refine lv_iload_n hx hb dX6_add_0 rfl (lv_at hl 1 rfl) ?_
  refine lv_if_eq (tgt := 8) hx hb dX6_add_1 (by decide) (fun c_1 => ?_) (fun c_1 => absurd c_1 (by decide))
  refine lv_iconst (v := 1) hx hb dX6_add_8 (by decide) ?_
  refine lv_istore (lv' := [(4, .int 1), (0, .ref mo), (1, .int 0), (2, .int x), (3, .int y)]) hx hb dX6_add_9 hl (by decide) rfl (fun ls hl => ?_)
  refine lv_aload_n hx hb dX6_add_11 rfl (lv_at hl 1 rfl) ?_
  refine lv_aload_n hx hb dX6_add_12 rfl (lv_at hl 1 rfl) ?_
  refine va_get (D := D) (ci := 6) (v := .ref q6) (C := RX6) (T := TX6) (N := 15) hx hb hts (by decide +kernel) hown hK hP 0 rfl rfl 6 (by decide) (hts (.fieldLink RX6 22 "JoinDeskModel" "many" "[I") (by decide +kernel)) (fun _ h9 => h9) rfl dX6_add_13 ?_
  refine lv_iload hx hb dX6_add_16 (lv_at hl 0 rfl) ?_
  refine va_iald hx hb hK hP 4 0 rfl rfl (by unfold vp_in; decide) dX6_add_18 ?_
  refine lv_topi (fun v_2 e_v_2 => ?_)
  obtain rfl : v_2 = 0 := e_v_2.trans (rfl)
  refine lv_aload_n hx hb dX6_add_19 rfl (lv_at hl 1 rfl) ?_
  refine va_get (D := D) (ci := 6) (v := .ref q1) (C := RX6) (T := TX6) (N := 15) hx hb hts (by decide +kernel) hown hK hP 0 rfl rfl 1 (by decide) (hts (.fieldLink RX6 7 "JoinDeskModel" "most" "[I") (by decide +kernel)) (fun _ h9 => h9) rfl dX6_add_20 ?_
  refine lv_iload hx hb dX6_add_23 (lv_at hl 0 rfl) ?_
  refine va_iald hx hb hK hP 1 0 rfl rfl (by unfold vp_in; decide) dX6_add_25 ?_
  refine lv_topi (fun v_3 e_v_3 => ?_)
  obtain rfl : v_3 = nI b := e_v_3.trans (rfl)
  refine lv_icmp_ne (tgt := 33) hx hb dX6_add_26 (by decide) (fun c_4 => ?_) (fun c_4 => absurd c_4 (by exact fun h => nI_ne0 hb0 (by omega) h.symm))
  refine lv_iconst (v := 0) hx hb dX6_add_33 (by decide) ?_
  refine jw_i (wr := [(q1, .inl (cI, 2, .inl (upd (upd (fun _ => 0) (0 : Int32).toNatClampNeg (nI a)) (1 : Int32).toNatClampNeg (nI b)))), (q3, .inl (cI, 800, .inl (fun _ => 0))), (q4, .inl (cI, 800, .inl (fun _ => 0))), (q6, .inl (cI, 2, .inl (fun _ => 0)))]) (va_runV (As := [.int 0]) (rest := []) ⟨hx, hb, hml, hown, hts⟩ (cM_refuses_0 l D cI cL cQ mo 0 q1 (nI g) q3 q4 q5 q6 0 0 0 0 q11 0 0 0 _) (cwV 1 hts gX6_add_X6_refuses rfl rfl rfl (by decide +kernel) ⟨Nat.le_of_ble_eq_true rfl, Nat.le_of_ble_eq_true rfl⟩) (jw_V hK hN hP hD [0] (by decide) rfl 6 0 rfl rfl rfl) rfl rfl hl.1 rfl (lv_room (Nat.le_of_ble_eq_true rfl)) dX6_add_34 ⟨Nat.le_of_ble_eq_true rfl, Nat.le_of_ble_eq_true rfl⟩) hP hD hS hA [0] [1, 2, 3, 4] rfl rfl (by decide) (by decide) (fun r u H locs f_5 hP hD hS => ?_)
  obtain ⟨rfl, rfl⟩ := f_5
  have hP : va_P D vwCl [(q1, .inl (cI, 2, .inl (upd (upd (fun _ => 0) (0 : Int32).toNatClampNeg (nI a)) (1 : Int32).toNatClampNeg (nI b)))), (q3, .inl (cI, 800, .inl (fun _ => 0))), (q4, .inl (cI, 800, .inl (fun _ => 0))), (q6, .inl (cI, 2, .inl (fun _ => 0))), (mo, .inr (6, [.int 0, .ref q1, .int (nI g), .ref q3, .ref q4, .ref q5, .ref q6, .int 0, .int 0, .int 0, .long 0, .ref q11, .int 0, .long 0, .long 0]))] H := hP
  have hD : va_D A [(q1, .inl (cI, 2, .inl (upd (upd (fun _ => 0) (0 : Int32).toNatClampNeg (nI a)) (1 : Int32).toNatClampNeg (nI b)))), (q3, .inl (cI, 800, .inl (fun _ => 0))), (q4, .inl (cI, 800, .inl (fun _ => 0))), (q6, .inl (cI, 2, .inl (fun _ => 0))), (mo, .inr (6, [.int 0, .ref q1, .int (nI g), .ref q3, .ref q4, .ref q5, .ref q6, .int 0, .int 0, .int 0, .long 0, .ref q11, .int 0, .long 0, .long 0]))] := hD
  refine lv_if_eq (tgt := 42) hx hb dX6_add_37 (by decide) (fun c_6 => ?_) (fun c_6 => absurd c_6 (by decide))
  refine lv_aload_n hx hb dX6_add_42 rfl (lv_at hl 1 rfl) ?_
  refine va_get (D := D) (ci := 6) (v := .ref q6) (C := RX6) (T := TX6) (N := 15) hx hb hts (by decide +kernel) hown hK hP 4 rfl rfl 6 (by decide) (hts (.fieldLink RX6 22 "JoinDeskModel" "many" "[I") (by decide +kernel)) (fun _ h9 => h9) rfl dX6_add_43 ?_
  refine lv_iload hx hb dX6_add_46 (lv_at hl 0 rfl) ?_
  refine va_iald hx hb hK hP 3 0 rfl rfl (by unfold vp_in; decide) dX6_add_48 ?_
  refine lv_topi (fun v_7 e_v_7 => ?_)
  obtain rfl : v_7 = 0 := e_v_7.trans (rfl)
  refine lv_istore (lv' := [(5, .int 0), (4, .int 1), (0, .ref mo), (1, .int 0), (2, .int x), (3, .int y)]) hx hb dX6_add_49 hl (by decide) rfl (fun ls hl => ?_)
  refine lv_aload_n hx hb dX6_add_51 rfl (lv_at hl 2 rfl) ?_
  refine va_get (D := D) (ci := 6) (v := .ref q3) (C := RX6) (T := TX6) (N := 15) hx hb hts (by decide +kernel) hown hK hP 4 rfl rfl 3 (by decide) (hts (.fieldLink RX6 13 "JoinDeskModel" "keys" "[I") (by decide +kernel)) (fun _ h9 => h9) rfl dX6_add_52 ?_
  refine lv_sipush (v := 400) hx hb dX6_add_55 (by decide) ?_
  refine lv_iload hx hb dX6_add_58 (lv_at hl 1 rfl) ?_
  refine lv_imul hx hb dX6_add_60 ?_
  refine lv_topi (fun z_8 e_z_8 => ?_)
  obtain rfl : z_8 = 400 := e_z_8.trans (by decide)
  refine lv_iload hx hb dX6_add_61 (lv_at hl 0 rfl) ?_
  refine lv_iadd hx hb dX6_add_63 ?_
  refine lv_topi (fun z_9 e_z_9 => ?_)
  obtain rfl : z_9 = 400 := e_z_9.trans (by decide)
  refine lv_iload_n hx hb dX6_add_64 rfl (lv_at hl 4 rfl) ?_
  refine va_iast hx hb hK hP hD hS 1 0 rfl rfl (by unfold vp_in; decide) dX6_add_65 (fun H locs hP hD hS => ?_)
  have hP : va_P D vwCl [(q1, .inl (cI, 2, .inl (upd (upd (fun _ => 0) (0 : Int32).toNatClampNeg (nI a)) (1 : Int32).toNatClampNeg (nI b)))), (q3, .inl (cI, 800, .inl (upd (fun _ => 0) (400 : Int32).toNatClampNeg x))), (q4, .inl (cI, 800, .inl (fun _ => 0))), (q6, .inl (cI, 2, .inl (fun _ => 0))), (mo, .inr (6, [.int 0, .ref q1, .int (nI g), .ref q3, .ref q4, .ref q5, .ref q6, .int 0, .int 0, .int 0, .long 0, .ref q11, .int 0, .long 0, .long 0]))] H := hP
  have hD : va_D A [(q1, .inl (cI, 2, .inl (upd (upd (fun _ => 0) (0 : Int32).toNatClampNeg (nI a)) (1 : Int32).toNatClampNeg (nI b)))), (q3, .inl (cI, 800, .inl (upd (fun _ => 0) (400 : Int32).toNatClampNeg x))), (q4, .inl (cI, 800, .inl (fun _ => 0))), (q6, .inl (cI, 2, .inl (fun _ => 0))), (mo, .inr (6, [.int 0, .ref q1, .int (nI g), .ref q3, .ref q4, .ref q5, .ref q6, .int 0, .int 0, .int 0, .long 0, .ref q11, .int 0, .long 0, .long 0]))] := hD
  refine lv_aload_n hx hb dX6_add_66 rfl (lv_at hl 2 rfl) ?_
  refine va_get (D := D) (ci := 6) (v := .ref q4) (C := RX6) (T := TX6) (N := 15) hx hb hts (by decide +kernel) hown hK hP 4 rfl rfl 4 (by decide) (hts (.fieldLink RX6 16 "JoinDeskModel" "values" "[I") (by decide +kernel)) (fun _ h9 => h9) rfl dX6_add_67 ?_
  refine lv_sipush (v := 400) hx hb dX6_add_70 (by decide) ?_
  refine lv_iload hx hb dX6_add_73 (lv_at hl 1 rfl) ?_
  refine lv_imul hx hb dX6_add_75 ?_
  refine lv_topi (fun z_10 e_z_10 => ?_)
  obtain rfl : z_10 = 400 := e_z_10.trans (by decide)
  refine lv_iload hx hb dX6_add_76 (lv_at hl 0 rfl) ?_
  refine lv_iadd hx hb dX6_add_78 ?_
  refine lv_topi (fun z_11 e_z_11 => ?_)
  obtain rfl : z_11 = 400 := e_z_11.trans (by decide)
  refine lv_iload_n hx hb dX6_add_79 rfl (lv_at hl 5 rfl) ?_
  refine va_iast hx hb hK hP hD hS 2 0 rfl rfl (by unfold vp_in; decide) dX6_add_80 (fun H locs hP hD hS => ?_)
  have hP : va_P D vwCl [(q1, .inl (cI, 2, .inl (upd (upd (fun _ => 0) (0 : Int32).toNatClampNeg (nI a)) (1 : Int32).toNatClampNeg (nI b)))), (q3, .inl (cI, 800, .inl (upd (fun _ => 0) (400 : Int32).toNatClampNeg x))), (q4, .inl (cI, 800, .inl (upd (fun _ => 0) (400 : Int32).toNatClampNeg y))), (q6, .inl (cI, 2, .inl (fun _ => 0))), (mo, .inr (6, [.int 0, .ref q1, .int (nI g), .ref q3, .ref q4, .ref q5, .ref q6, .int 0, .int 0, .int 0, .long 0, .ref q11, .int 0, .long 0, .long 0]))] H := hP
  have hD : va_D A [(q1, .inl (cI, 2, .inl (upd (upd (fun _ => 0) (0 : Int32).toNatClampNeg (nI a)) (1 : Int32).toNatClampNeg (nI b)))), (q3, .inl (cI, 800, .inl (upd (fun _ => 0) (400 : Int32).toNatClampNeg x))), (q4, .inl (cI, 800, .inl (upd (fun _ => 0) (400 : Int32).toNatClampNeg y))), (q6, .inl (cI, 2, .inl (fun _ => 0))), (mo, .inr (6, [.int 0, .ref q1, .int (nI g), .ref q3, .ref q4, .ref q5, .ref q6, .int 0, .int 0, .int 0, .long 0, .ref q11, .int 0, .long 0, .long 0]))] := hD
  refine lv_aload_n hx hb dX6_add_81 rfl (lv_at hl 2 rfl) ?_
  refine va_get (D := D) (ci := 6) (v := .ref q6) (C := RX6) (T := TX6) (N := 15) hx hb hts (by decide +kernel) hown hK hP 4 rfl rfl 6 (by decide) (hts (.fieldLink RX6 22 "JoinDeskModel" "many" "[I") (by decide +kernel)) (fun _ h9 => h9) rfl dX6_add_82 ?_
  refine lv_iload hx hb dX6_add_85 (lv_at hl 1 rfl) ?_
  refine lv_dup2_11 hx hb dX6_add_87 rfl rfl ?_
  refine va_iald hx hb hK hP 3 0 rfl rfl (by unfold vp_in; decide) dX6_add_88 ?_
  refine lv_topi (fun v_12 e_v_12 => ?_)
  obtain rfl : v_12 = 0 := e_v_12.trans (rfl)
  refine lv_iconst (v := 1) hx hb dX6_add_89 (by decide) ?_
  refine lv_iadd hx hb dX6_add_90 ?_
  refine lv_topi (fun z_13 e_z_13 => ?_)
  obtain rfl : z_13 = 1 := e_z_13.trans (by decide)
  refine va_iast hx hb hK hP hD hS 3 0 rfl rfl (by unfold vp_in; decide) dX6_add_91 (fun H locs hP hD hS => ?_)
  have hP : va_P D vwCl [(q1, .inl (cI, 2, .inl (upd (upd (fun _ => 0) (0 : Int32).toNatClampNeg (nI a)) (1 : Int32).toNatClampNeg (nI b)))), (q3, .inl (cI, 800, .inl (upd (fun _ => 0) (400 : Int32).toNatClampNeg x))), (q4, .inl (cI, 800, .inl (upd (fun _ => 0) (400 : Int32).toNatClampNeg y))), (q6, .inl (cI, 2, .inl (upd (fun _ => 0) (1 : Int32).toNatClampNeg 1))), (mo, .inr (6, [.int 0, .ref q1, .int (nI g), .ref q3, .ref q4, .ref q5, .ref q6, .int 0, .int 0, .int 0, .long 0, .ref q11, .int 0, .long 0, .long 0]))] H := hP
  have hD : va_D A [(q1, .inl (cI, 2, .inl (upd (upd (fun _ => 0) (0 : Int32).toNatClampNeg (nI a)) (1 : Int32).toNatClampNeg (nI b)))), (q3, .inl (cI, 800, .inl (upd (fun _ => 0) (400 : Int32).toNatClampNeg x))), (q4, .inl (cI, 800, .inl (upd (fun _ => 0) (400 : Int32).toNatClampNeg y))), (q6, .inl (cI, 2, .inl (upd (fun _ => 0) (1 : Int32).toNatClampNeg 1))), (mo, .inr (6, [.int 0, .ref q1, .int (nI g), .ref q3, .ref q4, .ref q5, .ref q6, .int 0, .int 0, .int 0, .long 0, .ref q11, .int 0, .long 0, .long 0]))] := hD
  refine lv_aload_n hx hb dX6_add_92 rfl (lv_at hl 2 rfl) ?_
  refine lv_iconst (v := 0) hx hb dX6_add_93 (by decide) ?_
  refine va_put (D := D) (ci := 6) (v := .int 0) (ty := .boolean) (C := RX6) (T := TX6) (N := 15) hx hb hts (by decide +kernel) tyX6 tyX6_ok nmX6 hown hK hP hD hS 4 rfl rfl 7 (by decide) (hts (.fieldLink RX6 43 "JoinDeskModel" "prepared" "Z") (by decide +kernel)) (fun _ h9 => h9) rfl (by decide +kernel) rfl rfl (Nat.le_of_ble_eq_true rfl) dX6_add_94 (fun H locs hP hD hS => ?_)
  have hP : va_P D vwCl [(q1, .inl (cI, 2, .inl (upd (upd (fun _ => 0) (0 : Int32).toNatClampNeg (nI a)) (1 : Int32).toNatClampNeg (nI b)))), (q3, .inl (cI, 800, .inl (upd (fun _ => 0) (400 : Int32).toNatClampNeg x))), (q4, .inl (cI, 800, .inl (upd (fun _ => 0) (400 : Int32).toNatClampNeg y))), (q6, .inl (cI, 2, .inl (upd (fun _ => 0) (1 : Int32).toNatClampNeg 1))), (mo, .inr (6, [.int 0, .ref q1, .int (nI g), .ref q3, .ref q4, .ref q5, .ref q6, .int 0, .int 0, .int 0, .long 0, .ref q11, .int 0, .long 0, .long 0]))] H := hP
  have hD : va_D A [(q1, .inl (cI, 2, .inl (upd (upd (fun _ => 0) (0 : Int32).toNatClampNeg (nI a)) (1 : Int32).toNatClampNeg (nI b)))), (q3, .inl (cI, 800, .inl (upd (fun _ => 0) (400 : Int32).toNatClampNeg x))), (q4, .inl (cI, 800, .inl (upd (fun _ => 0) (400 : Int32).toNatClampNeg y))), (q6, .inl (cI, 2, .inl (upd (fun _ => 0) (1 : Int32).toNatClampNeg 1))), (mo, .inr (6, [.int 0, .ref q1, .int (nI g), .ref q3, .ref q4, .ref q5, .ref q6, .int 0, .int 0, .int 0, .long 0, .ref q11, .int 0, .long 0, .long 0]))] := hD
  refine lv_aload_n hx hb dX6_add_97 rfl (lv_at hl 2 rfl) ?_
  refine lv_iconst (v := 0) hx hb dX6_add_98 (by decide) ?_
  refine va_put (D := D) (ci := 6) (v := .int 0) (ty := .boolean) (C := RX6) (T := TX6) (N := 15) hx hb hts (by decide +kernel) tyX6 tyX6_ok nmX6 hown hK hP hD hS 4 rfl rfl 8 (by decide) (hts (.fieldLink RX6 47 "JoinDeskModel" "grouped" "Z") (by decide +kernel)) (fun _ h9 => h9) rfl (by decide +kernel) rfl rfl (Nat.le_of_ble_eq_true rfl) dX6_add_99 (fun H locs hP hD hS => ?_)
  have hP : va_P D vwCl [(q1, .inl (cI, 2, .inl (upd (upd (fun _ => 0) (0 : Int32).toNatClampNeg (nI a)) (1 : Int32).toNatClampNeg (nI b)))), (q3, .inl (cI, 800, .inl (upd (fun _ => 0) (400 : Int32).toNatClampNeg x))), (q4, .inl (cI, 800, .inl (upd (fun _ => 0) (400 : Int32).toNatClampNeg y))), (q6, .inl (cI, 2, .inl (upd (fun _ => 0) (1 : Int32).toNatClampNeg 1))), (mo, .inr (6, [.int 0, .ref q1, .int (nI g), .ref q3, .ref q4, .ref q5, .ref q6, .int 0, .int 0, .int 0, .long 0, .ref q11, .int 0, .long 0, .long 0]))] H := hP
  have hD : va_D A [(q1, .inl (cI, 2, .inl (upd (upd (fun _ => 0) (0 : Int32).toNatClampNeg (nI a)) (1 : Int32).toNatClampNeg (nI b)))), (q3, .inl (cI, 800, .inl (upd (fun _ => 0) (400 : Int32).toNatClampNeg x))), (q4, .inl (cI, 800, .inl (upd (fun _ => 0) (400 : Int32).toNatClampNeg y))), (q6, .inl (cI, 2, .inl (upd (fun _ => 0) (1 : Int32).toNatClampNeg 1))), (mo, .inr (6, [.int 0, .ref q1, .int (nI g), .ref q3, .ref q4, .ref q5, .ref q6, .int 0, .int 0, .int 0, .long 0, .ref q11, .int 0, .long 0, .long 0]))] := hD
  refine lv_iload hx hb dX6_add_102 (lv_at hl 0 rfl) ?_
  have hP := hP.sub (ws' := [(mo, .inr (6, [.int 0, .ref q1, .int (nI g), .ref q3, .ref q4, .ref q5, .ref q6, .int 0, .int 0, .int 0, .long 0, .ref q11, .int 0, .long 0, .long 0])), (q1, .inl (cI, 2, .inl (upd (upd (fun _ => 0) (0 : Int32).toNatClampNeg (nI a)) (1 : Int32).toNatClampNeg (nI b)))), (q3, .inl (cI, 800, .inl (upd (fun _ => 0) (400 : Int32).toNatClampNeg x))), (q4, .inl (cI, 800, .inl (upd (fun _ => 0) (400 : Int32).toNatClampNeg y))), (q6, .inl (cI, 2, .inl (upd (fun _ => 0) (1 : Int32).toNatClampNeg 1)))]) [4, 0, 1, 2, 3] rfl
  have hD := hD.sub (ws' := [(mo, .inr (6, [.int 0, .ref q1, .int (nI g), .ref q3, .ref q4, .ref q5, .ref q6, .int 0, .int 0, .int 0, .long 0, .ref q11, .int 0, .long 0, .long 0])), (q1, .inl (cI, 2, .inl (upd (upd (fun _ => 0) (0 : Int32).toNatClampNeg (nI a)) (1 : Int32).toNatClampNeg (nI b)))), (q3, .inl (cI, 800, .inl (upd (fun _ => 0) (400 : Int32).toNatClampNeg x))), (q4, .inl (cI, 800, .inl (upd (fun _ => 0) (400 : Int32).toNatClampNeg y))), (q6, .inl (cI, 2, .inl (upd (fun _ => 0) (1 : Int32).toNatClampNeg 1)))]) [4, 0, 1, 2, 3] (by decide) rfl
  refine W.widen (k := 0) (n := 0) (by omega) (by omega) ?_
  exact W.iret (v := 0) hx hb hr (fun t ht hW => ⟨⟨0, [(mo, .inr (6, [.int 0, .ref q1, .int (nI g), .ref q3, .ref q4, .ref q5, .ref q6, .int 0, .int 0, .int 0, .long 0, .ref q11, .int 0, .long 0, .long 0])), (q1, .inl (cI, 2, .inl (upd (upd (fun _ => 0) (0 : Int32).toNatClampNeg (nI a)) (1 : Int32).toNatClampNeg (nI b)))), (q3, .inl (cI, 800, .inl (upd (fun _ => 0) (400 : Int32).toNatClampNeg x))), (q4, .inl (cI, 800, .inl (upd (fun _ => 0) (400 : Int32).toNatClampNeg y))), (q6, .inl (cI, 2, .inl (upd (fun _ => 0) (1 : Int32).toNatClampNeg 1)))], rfl, (by exact ⟨_, _, _, rfl, rfl⟩), by rw [ht]; exact hP, hD⟩, hS.F ht⟩) hS.2.2 dX6_add_104
set_option maxHeartbeats 1000000 in
set_option maxRecDepth 100000 in
theorem cM_add_0t (l : Launch) (D : va_G) (cI cL cQ : ClassId) (a : Nat) (b : Nat) (g : Nat) (mo : Nat) (q1 : Nat) (q3 : Nat) (q4 : Nat) (q5 : Nat) (q6 : Nat) (q11 : Nat) (x : Int32) (y : Int32) (sz : Nat) (hb0 : b = 0) : Met l yX6_add wsX6_add ({ frames := 1, cells := 0, slots := 0, locals := 21 }) (jw_P D vwCl (jT cI cL cQ) cL cQ [.ref mo, .int 0, .int x, .int y] [(mo, .inr (6, [.int 0, .ref q1, .int (nI g), .ref q3, .ref q4, .ref q5, .ref q6, .int 0, .int 0, .int 0, .long 0, .ref q11, .int 0, .long 0, .long 0])), (q1, .inl (cI, 2, .inl (upd (upd (fun _ => 0) (0 : Int32).toNatClampNeg (nI a)) (1 : Int32).toNatClampNeg (nI b)))), (q6, .inl (cI, 2, .inl (fun _ => 0)))] sz) (va_Qi (fun (r : Int32) (u : va_W) => r = 0 ∧ u = [(mo, .inr (6, [.int 1, .ref q1, .int (nI g), .ref q3, .ref q4, .ref q5, .ref q6, .int 0, .int 0, .int 0, .long 0, .ref q11, .int 0, .long 0, .long 0])), (q1, .inl (cI, 2, .inl (upd (upd (fun _ => 0) (0 : Int32).toNatClampNeg (nI a)) (1 : Int32).toNatClampNeg (nI b)))), (q6, .inl (cI, 2, .inl (fun _ => 0)))]) (jw_B D vwCl (va_A [(mo, .inr (6, [.int 0, .ref q1, .int (nI g), .ref q3, .ref q4, .ref q5, .ref q6, .int 0, .int 0, .int 0, .long 0, .ref q11, .int 0, .long 0, .long 0])), (q1, .inl (cI, 2, .inl (upd (upd (fun _ => 0) (0 : Int32).toNatClampNeg (nI a)) (1 : Int32).toNatClampNeg (nI b)))), (q6, .inl (cI, 2, .inl (fun _ => 0)))] sz) (fun u : va_W => u)) (va_A [(mo, .inr (6, [.int 0, .ref q1, .int (nI g), .ref q3, .ref q4, .ref q5, .ref q6, .int 0, .int 0, .int 0, .long 0, .ref q11, .int 0, .long 0, .long 0])), (q1, .inl (cI, 2, .inl (upd (upd (fun _ => 0) (0 : Int32).toNatClampNeg (nI a)) (1 : Int32).toNatClampNeg (nI b)))), (q6, .inl (cI, 2, .inl (fun _ => 0)))] sz)) 0 0 (va_A [(mo, .inr (6, [.int 0, .ref q1, .int (nI g), .ref q3, .ref q4, .ref q5, .ref q6, .int 0, .int 0, .int 0, .long 0, .ref q11, .int 0, .long 0, .long 0])), (q1, .inl (cI, 2, .inl (upd (upd (fun _ => 0) (0 : Int32).toNatClampNeg (nI a)) (1 : Int32).toNatClampNeg (nI b)))), (q6, .inl (cI, 2, .inl (fun _ => 0)))] sz) := by
  refine Met.ofW (cc := cX6_add) (maxL := 6) (ret := (some .int)) (by decide) rfl ?_
  intro p e s m args below meth c s₁ B hml hv
  obtain ⟨rfl, hsz, hP, hK, hN, hD0⟩ := hv
  have hx := B.exec
  have hb := B.bytes
  have hr := B.returns
  have hts := atoms_spec (ws := wsX6_add) B.pre
  have hown : s.vm.findClass RX6 = some m.cls := findClass_of_methodNamed B.named
  have hlocks := B.notSynchronized
  subst hsz
  have hD := hD0.self (sz := s.heap.size)
  generalize hAe : va_A [(mo, .inr (6, [.int 0, .ref q1, .int (nI g), .ref q3, .ref q4, .ref q5, .ref q6, .int 0, .int 0, .int 0, .long 0, .ref q11, .int 0, .long 0, .long 0])), (q1, .inl (cI, 2, .inl (upd (upd (fun _ => 0) (0 : Int32).toNatClampNeg (nI a)) (1 : Int32).toNatClampNeg (nI b)))), (q6, .inl (cI, 2, .inl (fun _ => 0)))] s.heap.size = A at hD ⊢
  have hA : ∀ q : Nat, s.heap.size ≤ q → A q := fun q h => by rw [← hAe]; exact Or.inr h
  have hS : va_S A s.heap s.heap [] := va_S.rf
  have hl := lv_entry ([.ref mo, .int 0, .int x, .int y]) (n := 6) (Nat.le_of_ble_eq_true rfl)
  rw [lg_entry_eq]
  generalize (lg_sl ([.ref mo, .int 0, .int x, .int y]) ++ List.replicate (6 - (lg_sl ([.ref mo, .int 0, .int x, .int y])).length) Slot.unset).toArray = ls at hl ⊢
  have hl : lv_has ls 6 [(0, .ref mo), (1, .int 0), (2, .int x), (3, .int y)] := hl
  refine lv_iload_n hx hb dX6_add_0 rfl (lv_at hl 1 rfl) ?_
  refine lv_if_eq (tgt := 8) hx hb dX6_add_1 (by decide) (fun c_1 => ?_) (fun c_1 => absurd c_1 (by decide))
  refine lv_iconst (v := 1) hx hb dX6_add_8 (by decide) ?_
  refine lv_istore (lv' := [(4, .int 1), (0, .ref mo), (1, .int 0), (2, .int x), (3, .int y)]) hx hb dX6_add_9 hl (by decide) rfl (fun ls hl => ?_)
  refine lv_aload_n hx hb dX6_add_11 rfl (lv_at hl 1 rfl) ?_
  refine lv_aload_n hx hb dX6_add_12 rfl (lv_at hl 1 rfl) ?_
  refine va_get (D := D) (ci := 6) (v := .ref q6) (C := RX6) (T := TX6) (N := 15) hx hb hts (by decide +kernel) hown hK hP 0 rfl rfl 6 (by decide) (hts (.fieldLink RX6 22 "JoinDeskModel" "many" "[I") (by decide +kernel)) (fun _ h9 => h9) rfl dX6_add_13 ?_
  refine lv_iload hx hb dX6_add_16 (lv_at hl 0 rfl) ?_
  refine va_iald hx hb hK hP 2 0 rfl rfl (by unfold vp_in; decide) dX6_add_18 ?_
  refine lv_topi (fun v_2 e_v_2 => ?_)
  obtain rfl : v_2 = 0 := e_v_2.trans (rfl)
  refine lv_aload_n hx hb dX6_add_19 rfl (lv_at hl 1 rfl) ?_
  refine va_get (D := D) (ci := 6) (v := .ref q1) (C := RX6) (T := TX6) (N := 15) hx hb hts (by decide +kernel) hown hK hP 0 rfl rfl 1 (by decide) (hts (.fieldLink RX6 7 "JoinDeskModel" "most" "[I") (by decide +kernel)) (fun _ h9 => h9) rfl dX6_add_20 ?_
  refine lv_iload hx hb dX6_add_23 (lv_at hl 0 rfl) ?_
  refine va_iald hx hb hK hP 1 0 rfl rfl (by unfold vp_in; decide) dX6_add_25 ?_
  refine lv_topi (fun v_3 e_v_3 => ?_)
  obtain rfl : v_3 = nI b := e_v_3.trans (rfl)
  refine lv_icmp_ne (tgt := 33) hx hb dX6_add_26 (by decide) (fun c_4 => absurd c_4 (by exact fun h => h (by rw [hb0]; rfl))) (fun c_4 => ?_)
  refine lv_iconst (v := 1) hx hb dX6_add_29 (by decide) ?_
  refine lv_goto (tgt := 34) hx hb dX6_add_30 (by decide) ?_
  refine jw_i (wr := [(q1, .inl (cI, 2, .inl (upd (upd (fun _ => 0) (0 : Int32).toNatClampNeg (nI a)) (1 : Int32).toNatClampNeg (nI b)))), (q6, .inl (cI, 2, .inl (fun _ => 0)))]) (va_runV (As := [.int 1]) (rest := []) ⟨hx, hb, hml, hown, hts⟩ (cM_refuses_1 l D cI cL cQ mo 0 q1 (nI g) q3 q4 q5 q6 0 0 0 0 q11 0 0 0 _) (cwV 1 hts gX6_add_X6_refuses rfl rfl rfl (by decide +kernel) ⟨Nat.le_of_ble_eq_true rfl, Nat.le_of_ble_eq_true rfl⟩) (jw_V hK hN hP hD [0] (by decide) rfl 6 0 rfl rfl rfl) rfl rfl hl.1 rfl (lv_room (Nat.le_of_ble_eq_true rfl)) dX6_add_34 ⟨Nat.le_of_ble_eq_true rfl, Nat.le_of_ble_eq_true rfl⟩) hP hD hS hA [0] [1, 2] rfl rfl (by decide) (by decide) (fun r u H locs f_5 hP hD hS => ?_)
  obtain ⟨rfl, rfl⟩ := f_5
  have hP : va_P D vwCl [(q1, .inl (cI, 2, .inl (upd (upd (fun _ => 0) (0 : Int32).toNatClampNeg (nI a)) (1 : Int32).toNatClampNeg (nI b)))), (q6, .inl (cI, 2, .inl (fun _ => 0))), (mo, .inr (6, [.int 1, .ref q1, .int (nI g), .ref q3, .ref q4, .ref q5, .ref q6, .int 0, .int 0, .int 0, .long 0, .ref q11, .int 0, .long 0, .long 0]))] H := hP
  have hD : va_D A [(q1, .inl (cI, 2, .inl (upd (upd (fun _ => 0) (0 : Int32).toNatClampNeg (nI a)) (1 : Int32).toNatClampNeg (nI b)))), (q6, .inl (cI, 2, .inl (fun _ => 0))), (mo, .inr (6, [.int 1, .ref q1, .int (nI g), .ref q3, .ref q4, .ref q5, .ref q6, .int 0, .int 0, .int 0, .long 0, .ref q11, .int 0, .long 0, .long 0]))] := hD
  refine lv_if_eq (tgt := 42) hx hb dX6_add_37 (by decide) (fun c_6 => absurd c_6 (by decide)) (fun c_6 => ?_)
  refine lv_iconst (v := 0) hx hb dX6_add_40 (by decide) ?_
  have hP := hP.sub (ws' := [(mo, .inr (6, [.int 1, .ref q1, .int (nI g), .ref q3, .ref q4, .ref q5, .ref q6, .int 0, .int 0, .int 0, .long 0, .ref q11, .int 0, .long 0, .long 0])), (q1, .inl (cI, 2, .inl (upd (upd (fun _ => 0) (0 : Int32).toNatClampNeg (nI a)) (1 : Int32).toNatClampNeg (nI b)))), (q6, .inl (cI, 2, .inl (fun _ => 0)))]) [2, 0, 1] rfl
  have hD := hD.sub (ws' := [(mo, .inr (6, [.int 1, .ref q1, .int (nI g), .ref q3, .ref q4, .ref q5, .ref q6, .int 0, .int 0, .int 0, .long 0, .ref q11, .int 0, .long 0, .long 0])), (q1, .inl (cI, 2, .inl (upd (upd (fun _ => 0) (0 : Int32).toNatClampNeg (nI a)) (1 : Int32).toNatClampNeg (nI b)))), (q6, .inl (cI, 2, .inl (fun _ => 0)))]) [2, 0, 1] (by decide) rfl
  refine W.widen (k := 0) (n := 0) (by omega) (by omega) ?_
  exact W.iret (v := 0) hx hb hr (fun t ht hW => ⟨⟨0, [(mo, .inr (6, [.int 1, .ref q1, .int (nI g), .ref q3, .ref q4, .ref q5, .ref q6, .int 0, .int 0, .int 0, .long 0, .ref q11, .int 0, .long 0, .long 0])), (q1, .inl (cI, 2, .inl (upd (upd (fun _ => 0) (0 : Int32).toNatClampNeg (nI a)) (1 : Int32).toNatClampNeg (nI b)))), (q6, .inl (cI, 2, .inl (fun _ => 0)))], rfl, (by exact ⟨rfl, rfl⟩), by rw [ht]; exact hP, hD⟩, hS.F ht⟩) hS.2.2 dX6_add_41
set_option maxHeartbeats 1000000 in
set_option maxRecDepth 100000 in
theorem cM_prepare (l : Launch) (D : va_G) (cI cL cQ : ClassId) (g : Nat) (mo : Nat) (q1 : Nat) (q3 : Nat) (q4 : Nat) (q5 : Nat) (q6 : Nat) (q11 : Nat) (sz : Nat) : Met l yX6_prepare wsX6_prepare ({ frames := 1, cells := 0, slots := 0, locals := 21 }) (jw_P D vwCl (jT cI cL cQ) cL cQ [.ref mo] [(mo, .inr (6, [.int 0, .ref q1, .int (nI g), .ref q3, .ref q4, .ref q5, .ref q6, .int 0, .int 0, .int 0, .long 0, .ref q11, .int 0, .long 0, .long 0])), (q6, .inl (cI, 2, .inl (fun _ => 0))), (q11, .inl (cI, 24, .inl (fun _ => 0)))] sz) (va_Qv (fun u : va_W => ∃ (g11 : Nat → Int32), u = [(mo, .inr (6, [.int 0, .ref q1, .int (nI g), .ref q3, .ref q4, .ref q5, .ref q6, .int 1, .int 0, .int 0, .long 0, .ref q11, .int 0, .long 0, .long 0])), (q6, .inl (cI, 2, .inl (fun _ => 0))), (q11, .inl (cI, 24, .inl g11))]) (jw_B D vwCl (va_A [(mo, .inr (6, [.int 0, .ref q1, .int (nI g), .ref q3, .ref q4, .ref q5, .ref q6, .int 0, .int 0, .int 0, .long 0, .ref q11, .int 0, .long 0, .long 0])), (q6, .inl (cI, 2, .inl (fun _ => 0))), (q11, .inl (cI, 24, .inl (fun _ => 0)))] sz) (fun u : va_W => u)) (va_A [(mo, .inr (6, [.int 0, .ref q1, .int (nI g), .ref q3, .ref q4, .ref q5, .ref q6, .int 0, .int 0, .int 0, .long 0, .ref q11, .int 0, .long 0, .long 0])), (q6, .inl (cI, 2, .inl (fun _ => 0))), (q11, .inl (cI, 24, .inl (fun _ => 0)))] sz)) 0 0 (va_A [(mo, .inr (6, [.int 0, .ref q1, .int (nI g), .ref q3, .ref q4, .ref q5, .ref q6, .int 0, .int 0, .int 0, .long 0, .ref q11, .int 0, .long 0, .long 0])), (q6, .inl (cI, 2, .inl (fun _ => 0))), (q11, .inl (cI, 24, .inl (fun _ => 0)))] sz) := by
  refine Met.ofW (cc := cX6_prepare) (maxL := 4) (ret := none) (by decide) rfl ?_
  intro p e s m args below meth c s₁ B hml hv
  obtain ⟨rfl, hsz, hP, hK, hN, hD0⟩ := hv
  have hx := B.exec
  have hb := B.bytes
  have hr := B.returns
  have hts := atoms_spec (ws := wsX6_prepare) B.pre
  have hown : s.vm.findClass RX6 = some m.cls := findClass_of_methodNamed B.named
  have hlocks := B.notSynchronized
  subst hsz
  have hD := hD0.self (sz := s.heap.size)
  generalize hAe : va_A [(mo, .inr (6, [.int 0, .ref q1, .int (nI g), .ref q3, .ref q4, .ref q5, .ref q6, .int 0, .int 0, .int 0, .long 0, .ref q11, .int 0, .long 0, .long 0])), (q6, .inl (cI, 2, .inl (fun _ => 0))), (q11, .inl (cI, 24, .inl (fun _ => 0)))] s.heap.size = A at hD ⊢
  have hA : ∀ q : Nat, s.heap.size ≤ q → A q := fun q h => by rw [← hAe]; exact Or.inr h
  have hS : va_S A s.heap s.heap [] := va_S.rf
  have hl := lv_entry ([.ref mo]) (n := 4) (Nat.le_of_ble_eq_true rfl)
  rw [lg_entry_eq]
  generalize (lg_sl ([.ref mo]) ++ List.replicate (4 - (lg_sl ([.ref mo])).length) Slot.unset).toArray = ls at hl ⊢
  have hl : lv_has ls 4 [(0, .ref mo)] := hl
  refine lv_aload_n hx hb dX6_prepare_0 rfl (lv_at hl 0 rfl) ?_
  refine lv_iconst (v := 0) hx hb dX6_prepare_1 (by decide) ?_
  refine va_put (D := D) (ci := 6) (v := .int 0) (ty := .int) (C := RX6) (T := TX6) (N := 15) hx hb hts (by decide +kernel) tyX6 tyX6_ok nmX6 hown hK hP hD hS 0 rfl rfl 0 (by decide) (hts (.fieldLink RX6 36 "JoinDeskModel" "code" "I") (by decide +kernel)) (fun _ h9 => h9) rfl (by decide +kernel) rfl rfl (Nat.le_of_ble_eq_true rfl) dX6_prepare_2 (fun H locs hP hD hS => ?_)
  have hP : va_P D vwCl [(mo, .inr (6, [.int 0, .ref q1, .int (nI g), .ref q3, .ref q4, .ref q5, .ref q6, .int 0, .int 0, .int 0, .long 0, .ref q11, .int 0, .long 0, .long 0])), (q6, .inl (cI, 2, .inl (fun _ => 0))), (q11, .inl (cI, 24, .inl (fun _ => 0)))] H := hP
  have hD : va_D A [(mo, .inr (6, [.int 0, .ref q1, .int (nI g), .ref q3, .ref q4, .ref q5, .ref q6, .int 0, .int 0, .int 0, .long 0, .ref q11, .int 0, .long 0, .long 0])), (q6, .inl (cI, 2, .inl (fun _ => 0))), (q11, .inl (cI, 24, .inl (fun _ => 0)))] := hD
  refine lv_iconst (v := 0) hx hb dX6_prepare_5 (by decide) ?_
  refine lv_istore_n (lv' := [(1, .int 0), (0, .ref mo)]) hx hb dX6_prepare_6 rfl hl (by decide) rfl (fun ls hl => ?_)
  refine lv_iload_n hx hb dX6_prepare_7 rfl (lv_at hl 0 rfl) ?_
  refine lv_iconst (v := 2) hx hb dX6_prepare_8 (by decide) ?_
  refine lv_icmp_ge (tgt := 127) hx hb dX6_prepare_9 (by decide) (fun c_1 => absurd c_1 (by decide)) (fun c_1 => ?_)
  refine lv_iconst (v := 0) hx hb dX6_prepare_12 (by decide) ?_
  refine lv_istore_n (lv' := [(2, .int 0), (1, .int 0), (0, .ref mo)]) hx hb dX6_prepare_13 rfl hl (by decide) rfl (fun ls hl => ?_)
  refine lv_iload_n hx hb dX6_prepare_14 rfl (lv_at hl 0 rfl) ?_
  refine lv_aload_n hx hb dX6_prepare_15 rfl (lv_at hl 2 rfl) ?_
  refine va_get (D := D) (ci := 6) (v := .ref q6) (C := RX6) (T := TX6) (N := 15) hx hb hts (by decide +kernel) hown hK hP 0 rfl rfl 6 (by decide) (hts (.fieldLink RX6 22 "JoinDeskModel" "many" "[I") (by decide +kernel)) (fun _ h9 => h9) rfl dX6_prepare_16 ?_
  refine lv_iload_n hx hb dX6_prepare_19 rfl (lv_at hl 1 rfl) ?_
  refine va_iald hx hb hK hP 1 0 rfl rfl (by unfold vp_in; decide) dX6_prepare_20 ?_
  refine lv_topi (fun v_2 e_v_2 => ?_)
  obtain rfl : v_2 = 0 := e_v_2.trans (rfl)
  refine lv_icmp_ge (tgt := 121) hx hb dX6_prepare_21 (by decide) (fun c_3 => ?_) (fun c_3 => absurd c_3 (by decide))
  refine lv_iinc (v := 1) (lv' := [(1, .int 1), (2, .int 0), (0, .ref mo)]) hx hb dX6_prepare_121 hl (k := 1) rfl (by first | rfl | decide) (by decide) rfl (fun ls hl => ?_)
  refine lv_goto (tgt := 7) hx hb dX6_prepare_124 (by decide) ?_
  refine lv_iload_n hx hb dX6_prepare_7 rfl (lv_at hl 0 rfl) ?_
  refine lv_iconst (v := 2) hx hb dX6_prepare_8 (by decide) ?_
  refine lv_icmp_ge (tgt := 127) hx hb dX6_prepare_9 (by decide) (fun c_4 => absurd c_4 (by decide)) (fun c_4 => ?_)
  refine lv_iconst (v := 0) hx hb dX6_prepare_12 (by decide) ?_
  refine lv_istore_n (lv' := [(2, .int 0), (1, .int 1), (0, .ref mo)]) hx hb dX6_prepare_13 rfl hl (by decide) rfl (fun ls hl => ?_)
  refine lv_iload_n hx hb dX6_prepare_14 rfl (lv_at hl 0 rfl) ?_
  refine lv_aload_n hx hb dX6_prepare_15 rfl (lv_at hl 2 rfl) ?_
  refine va_get (D := D) (ci := 6) (v := .ref q6) (C := RX6) (T := TX6) (N := 15) hx hb hts (by decide +kernel) hown hK hP 0 rfl rfl 6 (by decide) (hts (.fieldLink RX6 22 "JoinDeskModel" "many" "[I") (by decide +kernel)) (fun _ h9 => h9) rfl dX6_prepare_16 ?_
  refine lv_iload_n hx hb dX6_prepare_19 rfl (lv_at hl 1 rfl) ?_
  refine va_iald hx hb hK hP 1 0 rfl rfl (by unfold vp_in; decide) dX6_prepare_20 ?_
  refine lv_topi (fun v_5 e_v_5 => ?_)
  obtain rfl : v_5 = 0 := e_v_5.trans (rfl)
  refine lv_icmp_ge (tgt := 121) hx hb dX6_prepare_21 (by decide) (fun c_6 => ?_) (fun c_6 => absurd c_6 (by decide))
  refine lv_iinc (v := 2) (lv' := [(1, .int 2), (2, .int 0), (0, .ref mo)]) hx hb dX6_prepare_121 hl (k := 1) rfl (by first | rfl | decide) (by decide) rfl (fun ls hl => ?_)
  refine lv_goto (tgt := 7) hx hb dX6_prepare_124 (by decide) ?_
  refine lv_iload_n hx hb dX6_prepare_7 rfl (lv_at hl 0 rfl) ?_
  refine lv_iconst (v := 2) hx hb dX6_prepare_8 (by decide) ?_
  refine lv_icmp_ge (tgt := 127) hx hb dX6_prepare_9 (by decide) (fun c_7 => ?_) (fun c_7 => absurd c_7 (by decide))
  refine lv_aload_n hx hb dX6_prepare_127 rfl (lv_at hl 2 rfl) ?_
  refine jw_v (wr := [(q6, .inl (cI, 2, .inl (fun _ => 0)))]) (va_runV (As := []) (rest := []) ⟨hx, hb, hml, hown, hts⟩ (cM_begins l D cI cL cQ mo 0 q1 (nI g) q3 q4 q5 q6 0 0 0 0 q11 0 0 0 (fun _ => 0) _) (cwV 0 hts gX6_prepare_X6_begins rfl rfl rfl (by decide +kernel) ⟨Nat.le_of_ble_eq_true rfl, Nat.le_of_ble_eq_true rfl⟩) (jw_V hK hN hP hD [0, 2] (by decide) rfl 6 0 rfl rfl rfl) rfl rfl hl.1 rfl (lv_room (Nat.le_of_ble_eq_true rfl)) dX6_prepare_128 ⟨Nat.le_of_ble_eq_true rfl, Nat.le_of_ble_eq_true rfl⟩) hP hD hS hA [0, 2] [1] rfl rfl (by decide) (by decide) (fun u H locs f_8 hP hD hS => ?_)
  obtain ⟨g11, rfl⟩ := f_8
  have hP : va_P D vwCl [(q6, .inl (cI, 2, .inl (fun _ => 0))), (mo, .inr (6, [.int 0, .ref q1, .int (nI g), .ref q3, .ref q4, .ref q5, .ref q6, .int 0, .int 0, .int 0, .long 0, .ref q11, .int 0, .long 0, .long 0])), (q11, .inl (cI, 24, .inl g11))] H := hP
  have hD : va_D A [(q6, .inl (cI, 2, .inl (fun _ => 0))), (mo, .inr (6, [.int 0, .ref q1, .int (nI g), .ref q3, .ref q4, .ref q5, .ref q6, .int 0, .int 0, .int 0, .long 0, .ref q11, .int 0, .long 0, .long 0])), (q11, .inl (cI, 24, .inl g11))] := hD
  refine lv_aload_n hx hb dX6_prepare_131 rfl (lv_at hl 2 rfl) ?_
  refine lv_lconst (v := 0) hx hb dX6_prepare_132 (by decide) ?_
  refine va_put (D := D) (ci := 6) (v := .long 0) (ty := .long) (C := RX6) (T := TX6) (N := 15) hx hb hts (by decide +kernel) tyX6 tyX6_ok nmX6 hown hK hP hD hS 1 rfl rfl 10 (by decide) (hts (.fieldLink RX6 53 "JoinDeskModel" "cells" "J") (by decide +kernel)) (fun _ h9 => h9) rfl (by decide +kernel) rfl rfl (Nat.le_of_ble_eq_true rfl) dX6_prepare_133 (fun H locs hP hD hS => ?_)
  have hP : va_P D vwCl [(q6, .inl (cI, 2, .inl (fun _ => 0))), (mo, .inr (6, [.int 0, .ref q1, .int (nI g), .ref q3, .ref q4, .ref q5, .ref q6, .int 0, .int 0, .int 0, .long 0, .ref q11, .int 0, .long 0, .long 0])), (q11, .inl (cI, 24, .inl g11))] H := hP
  have hD : va_D A [(q6, .inl (cI, 2, .inl (fun _ => 0))), (mo, .inr (6, [.int 0, .ref q1, .int (nI g), .ref q3, .ref q4, .ref q5, .ref q6, .int 0, .int 0, .int 0, .long 0, .ref q11, .int 0, .long 0, .long 0])), (q11, .inl (cI, 24, .inl g11))] := hD
  refine lv_aload_n hx hb dX6_prepare_136 rfl (lv_at hl 2 rfl) ?_
  refine lv_iconst (v := 0) hx hb dX6_prepare_137 (by decide) ?_
  refine va_put (D := D) (ci := 6) (v := .int 0) (ty := .boolean) (C := RX6) (T := TX6) (N := 15) hx hb hts (by decide +kernel) tyX6 tyX6_ok nmX6 hown hK hP hD hS 1 rfl rfl 12 (by decide) (hts (.fieldLink RX6 57 "JoinDeskModel" "marked" "Z") (by decide +kernel)) (fun _ h9 => h9) rfl (by decide +kernel) rfl rfl (Nat.le_of_ble_eq_true rfl) dX6_prepare_138 (fun H locs hP hD hS => ?_)
  have hP : va_P D vwCl [(q6, .inl (cI, 2, .inl (fun _ => 0))), (mo, .inr (6, [.int 0, .ref q1, .int (nI g), .ref q3, .ref q4, .ref q5, .ref q6, .int 0, .int 0, .int 0, .long 0, .ref q11, .int 0, .long 0, .long 0])), (q11, .inl (cI, 24, .inl g11))] H := hP
  have hD : va_D A [(q6, .inl (cI, 2, .inl (fun _ => 0))), (mo, .inr (6, [.int 0, .ref q1, .int (nI g), .ref q3, .ref q4, .ref q5, .ref q6, .int 0, .int 0, .int 0, .long 0, .ref q11, .int 0, .long 0, .long 0])), (q11, .inl (cI, 24, .inl g11))] := hD
  refine lv_aload_n hx hb dX6_prepare_141 rfl (lv_at hl 2 rfl) ?_
  refine lv_iconst (v := 0) hx hb dX6_prepare_142 (by decide) ?_
  refine va_put (D := D) (ci := 6) (v := .int 0) (ty := .boolean) (C := RX6) (T := TX6) (N := 15) hx hb hts (by decide +kernel) tyX6 tyX6_ok nmX6 hown hK hP hD hS 1 rfl rfl 8 (by decide) (hts (.fieldLink RX6 47 "JoinDeskModel" "grouped" "Z") (by decide +kernel)) (fun _ h9 => h9) rfl (by decide +kernel) rfl rfl (Nat.le_of_ble_eq_true rfl) dX6_prepare_143 (fun H locs hP hD hS => ?_)
  have hP : va_P D vwCl [(q6, .inl (cI, 2, .inl (fun _ => 0))), (mo, .inr (6, [.int 0, .ref q1, .int (nI g), .ref q3, .ref q4, .ref q5, .ref q6, .int 0, .int 0, .int 0, .long 0, .ref q11, .int 0, .long 0, .long 0])), (q11, .inl (cI, 24, .inl g11))] H := hP
  have hD : va_D A [(q6, .inl (cI, 2, .inl (fun _ => 0))), (mo, .inr (6, [.int 0, .ref q1, .int (nI g), .ref q3, .ref q4, .ref q5, .ref q6, .int 0, .int 0, .int 0, .long 0, .ref q11, .int 0, .long 0, .long 0])), (q11, .inl (cI, 24, .inl g11))] := hD
  refine lv_aload_n hx hb dX6_prepare_146 rfl (lv_at hl 2 rfl) ?_
  refine lv_iconst (v := 1) hx hb dX6_prepare_147 (by decide) ?_
  refine va_put (D := D) (ci := 6) (v := .int 1) (ty := .boolean) (C := RX6) (T := TX6) (N := 15) hx hb hts (by decide +kernel) tyX6 tyX6_ok nmX6 hown hK hP hD hS 1 rfl rfl 7 (by decide) (hts (.fieldLink RX6 43 "JoinDeskModel" "prepared" "Z") (by decide +kernel)) (fun _ h9 => h9) rfl (by decide +kernel) rfl rfl (Nat.le_of_ble_eq_true rfl) dX6_prepare_148 (fun H locs hP hD hS => ?_)
  have hP : va_P D vwCl [(q6, .inl (cI, 2, .inl (fun _ => 0))), (mo, .inr (6, [.int 0, .ref q1, .int (nI g), .ref q3, .ref q4, .ref q5, .ref q6, .int 1, .int 0, .int 0, .long 0, .ref q11, .int 0, .long 0, .long 0])), (q11, .inl (cI, 24, .inl g11))] H := hP
  have hD : va_D A [(q6, .inl (cI, 2, .inl (fun _ => 0))), (mo, .inr (6, [.int 0, .ref q1, .int (nI g), .ref q3, .ref q4, .ref q5, .ref q6, .int 1, .int 0, .int 0, .long 0, .ref q11, .int 0, .long 0, .long 0])), (q11, .inl (cI, 24, .inl g11))] := hD
  have hP := hP.sub (ws' := [(mo, .inr (6, [.int 0, .ref q1, .int (nI g), .ref q3, .ref q4, .ref q5, .ref q6, .int 1, .int 0, .int 0, .long 0, .ref q11, .int 0, .long 0, .long 0])), (q6, .inl (cI, 2, .inl (fun _ => 0))), (q11, .inl (cI, 24, .inl g11))]) [1, 0, 2] rfl
  have hD := hD.sub (ws' := [(mo, .inr (6, [.int 0, .ref q1, .int (nI g), .ref q3, .ref q4, .ref q5, .ref q6, .int 1, .int 0, .int 0, .long 0, .ref q11, .int 0, .long 0, .long 0])), (q6, .inl (cI, 2, .inl (fun _ => 0))), (q11, .inl (cI, 24, .inl g11))]) [1, 0, 2] (by decide) rfl
  refine W.widen (k := 0) (n := 0) (by omega) (by omega) ?_
  exact W.vret hx hb hr (fun t ht hW => ⟨⟨[(mo, .inr (6, [.int 0, .ref q1, .int (nI g), .ref q3, .ref q4, .ref q5, .ref q6, .int 1, .int 0, .int 0, .long 0, .ref q11, .int 0, .long 0, .long 0])), (q6, .inl (cI, 2, .inl (fun _ => 0))), (q11, .inl (cI, 24, .inl g11))], rfl, (by exact ⟨_, rfl⟩), by rw [ht]; exact hP, hD⟩, hS.F ht⟩) hS.2.2 dX6_prepare_151
set_option maxHeartbeats 1000000 in
set_option maxRecDepth 100000 in
theorem cM_kind (l : Launch) (D : va_G) (cI cL cQ : ClassId) (g : Nat) (mo : Nat) (q1 : Nat) (q3 : Nat) (q4 : Nat) (q5 : Nat) (q6 : Nat) (q11 : Nat) (x : Int32) (sz : Nat) (h1 : ¬ x < 0) (h2 : x ≤ 3) : Met l yX6_kind wsX6_kind ({ frames := 1, cells := 0, slots := 0, locals := 21 }) (jw_P D vwCl (jT cI cL cQ) cL cQ [.ref mo, .int x] [(mo, .inr (6, [.int 0, .ref q1, .int (nI g), .ref q3, .ref q4, .ref q5, .ref q6, .int 0, .int 0, .int 0, .long 0, .ref q11, .int 0, .long 0, .long 0])), (q11, .inl (cI, 24, .inl (fun _ => 0)))] sz) (va_Qv (fun u : va_W => ∃ (g11 : Nat → Int32), u = [(mo, .inr (6, [.int 0, .ref q1, .int (nI g), .ref q3, .ref q4, .ref q5, .ref q6, .int 0, .int 0, .int x, .long 0, .ref q11, .int 0, .long 0, .long 0])), (q11, .inl (cI, 24, .inl g11))]) (jw_B D vwCl (va_A [(mo, .inr (6, [.int 0, .ref q1, .int (nI g), .ref q3, .ref q4, .ref q5, .ref q6, .int 0, .int 0, .int 0, .long 0, .ref q11, .int 0, .long 0, .long 0])), (q11, .inl (cI, 24, .inl (fun _ => 0)))] sz) (fun u : va_W => u)) (va_A [(mo, .inr (6, [.int 0, .ref q1, .int (nI g), .ref q3, .ref q4, .ref q5, .ref q6, .int 0, .int 0, .int 0, .long 0, .ref q11, .int 0, .long 0, .long 0])), (q11, .inl (cI, 24, .inl (fun _ => 0)))] sz)) 0 0 (va_A [(mo, .inr (6, [.int 0, .ref q1, .int (nI g), .ref q3, .ref q4, .ref q5, .ref q6, .int 0, .int 0, .int 0, .long 0, .ref q11, .int 0, .long 0, .long 0])), (q11, .inl (cI, 24, .inl (fun _ => 0)))] sz) := by
  refine Met.ofW (cc := cX6_kind) (maxL := 2) (ret := none) (by decide) rfl ?_
  intro p e s m args below meth c s₁ B hml hv
  obtain ⟨rfl, hsz, hP, hK, hN, hD0⟩ := hv
  have hx := B.exec
  have hb := B.bytes
  have hr := B.returns
  have hts := atoms_spec (ws := wsX6_kind) B.pre
  have hown : s.vm.findClass RX6 = some m.cls := findClass_of_methodNamed B.named
  have hlocks := B.notSynchronized
  subst hsz
  have hD := hD0.self (sz := s.heap.size)
  generalize hAe : va_A [(mo, .inr (6, [.int 0, .ref q1, .int (nI g), .ref q3, .ref q4, .ref q5, .ref q6, .int 0, .int 0, .int 0, .long 0, .ref q11, .int 0, .long 0, .long 0])), (q11, .inl (cI, 24, .inl (fun _ => 0)))] s.heap.size = A at hD ⊢
  have hA : ∀ q : Nat, s.heap.size ≤ q → A q := fun q h => by rw [← hAe]; exact Or.inr h
  have hS : va_S A s.heap s.heap [] := va_S.rf
  have hl := lv_entry ([.ref mo, .int x]) (n := 2) (Nat.le_of_ble_eq_true rfl)
  rw [lg_entry_eq]
  generalize (lg_sl ([.ref mo, .int x]) ++ List.replicate (2 - (lg_sl ([.ref mo, .int x])).length) Slot.unset).toArray = ls at hl ⊢
  have hl : lv_has ls 2 [(0, .ref mo), (1, .int x)] := hl
  refine lv_aload_n hx hb dX6_kind_0 rfl (lv_at hl 0 rfl) ?_
  refine lv_iload_n hx hb dX6_kind_1 rfl (lv_at hl 1 rfl) ?_
  refine lv_if_lt (tgt := 10) hx hb dX6_kind_2 (by decide) (fun c_1 => absurd c_1 (by exact h1)) (fun c_1 => ?_)
  refine lv_iload_n hx hb dX6_kind_5 rfl (lv_at hl 1 rfl) ?_
  refine lv_iconst (v := 3) hx hb dX6_kind_6 (by decide) ?_
  refine lv_icmp_le (tgt := 14) hx hb dX6_kind_7 (by decide) (fun c_2 => ?_) (fun c_2 => absurd c_2 (by exact fun h => h h2))
  refine lv_iconst (v := 0) hx hb dX6_kind_14 (by decide) ?_
  refine jw_i (wr := [(q11, .inl (cI, 24, .inl (fun _ => 0)))]) (va_runV (As := [.int 0]) (rest := []) ⟨hx, hb, hml, hown, hts⟩ (cM_refuses_0 l D cI cL cQ mo 0 q1 (nI g) q3 q4 q5 q6 0 0 0 0 q11 0 0 0 _) (cwV 1 hts gX6_kind_X6_refuses rfl rfl rfl (by decide +kernel) ⟨Nat.le_of_ble_eq_true rfl, Nat.le_of_ble_eq_true rfl⟩) (jw_V hK hN hP hD [0] (by decide) rfl 6 0 rfl rfl rfl) rfl rfl hl.1 rfl (lv_room (Nat.le_of_ble_eq_true rfl)) dX6_kind_15 ⟨Nat.le_of_ble_eq_true rfl, Nat.le_of_ble_eq_true rfl⟩) hP hD hS hA [0] [1] rfl rfl (by decide) (by decide) (fun r u H locs f_3 hP hD hS => ?_)
  obtain ⟨rfl, rfl⟩ := f_3
  have hP : va_P D vwCl [(q11, .inl (cI, 24, .inl (fun _ => 0))), (mo, .inr (6, [.int 0, .ref q1, .int (nI g), .ref q3, .ref q4, .ref q5, .ref q6, .int 0, .int 0, .int 0, .long 0, .ref q11, .int 0, .long 0, .long 0]))] H := hP
  have hD : va_D A [(q11, .inl (cI, 24, .inl (fun _ => 0))), (mo, .inr (6, [.int 0, .ref q1, .int (nI g), .ref q3, .ref q4, .ref q5, .ref q6, .int 0, .int 0, .int 0, .long 0, .ref q11, .int 0, .long 0, .long 0]))] := hD
  refine lv_if_eq (tgt := 22) hx hb dX6_kind_18 (by decide) (fun c_4 => ?_) (fun c_4 => absurd c_4 (by decide))
  refine lv_aload_n hx hb dX6_kind_22 rfl (lv_at hl 0 rfl) ?_
  refine lv_iload_n hx hb dX6_kind_23 rfl (lv_at hl 1 rfl) ?_
  refine va_put (D := D) (ci := 6) (v := .int x) (ty := .int) (C := RX6) (T := TX6) (N := 15) hx hb hts (by decide +kernel) tyX6 tyX6_ok nmX6 hown hK hP hD hS 1 rfl rfl 9 (by decide) (hts (.fieldLink RX6 60 "JoinDeskModel" "kind" "I") (by decide +kernel)) (fun _ h9 => h9) rfl (by decide +kernel) rfl rfl (Nat.le_of_ble_eq_true rfl) dX6_kind_24 (fun H locs hP hD hS => ?_)
  have hP : va_P D vwCl [(q11, .inl (cI, 24, .inl (fun _ => 0))), (mo, .inr (6, [.int 0, .ref q1, .int (nI g), .ref q3, .ref q4, .ref q5, .ref q6, .int 0, .int 0, .int x, .long 0, .ref q11, .int 0, .long 0, .long 0]))] H := hP
  have hD : va_D A [(q11, .inl (cI, 24, .inl (fun _ => 0))), (mo, .inr (6, [.int 0, .ref q1, .int (nI g), .ref q3, .ref q4, .ref q5, .ref q6, .int 0, .int 0, .int x, .long 0, .ref q11, .int 0, .long 0, .long 0]))] := hD
  refine lv_aload_n hx hb dX6_kind_27 rfl (lv_at hl 0 rfl) ?_
  refine jw_v (wr := []) (va_runV (As := []) (rest := []) ⟨hx, hb, hml, hown, hts⟩ (cM_begins l D cI cL cQ mo 0 q1 (nI g) q3 q4 q5 q6 0 0 x 0 q11 0 0 0 (fun _ => 0) _) (cwV 0 hts gX6_kind_X6_begins rfl rfl rfl (by decide +kernel) ⟨Nat.le_of_ble_eq_true rfl, Nat.le_of_ble_eq_true rfl⟩) (jw_V hK hN hP hD [1, 0] (by decide) rfl 6 1 rfl rfl rfl) rfl rfl hl.1 rfl (lv_room (Nat.le_of_ble_eq_true rfl)) dX6_kind_28 ⟨Nat.le_of_ble_eq_true rfl, Nat.le_of_ble_eq_true rfl⟩) hP hD hS hA [1, 0] [] rfl rfl (by decide) (by decide) (fun u H locs f_5 hP hD hS => ?_)
  obtain ⟨g11, rfl⟩ := f_5
  have hP : va_P D vwCl [(mo, .inr (6, [.int 0, .ref q1, .int (nI g), .ref q3, .ref q4, .ref q5, .ref q6, .int 0, .int 0, .int x, .long 0, .ref q11, .int 0, .long 0, .long 0])), (q11, .inl (cI, 24, .inl g11))] H := hP
  have hD : va_D A [(mo, .inr (6, [.int 0, .ref q1, .int (nI g), .ref q3, .ref q4, .ref q5, .ref q6, .int 0, .int 0, .int x, .long 0, .ref q11, .int 0, .long 0, .long 0])), (q11, .inl (cI, 24, .inl g11))] := hD
  refine lv_aload_n hx hb dX6_kind_31 rfl (lv_at hl 0 rfl) ?_
  refine lv_lconst (v := 0) hx hb dX6_kind_32 (by decide) ?_
  refine va_put (D := D) (ci := 6) (v := .long 0) (ty := .long) (C := RX6) (T := TX6) (N := 15) hx hb hts (by decide +kernel) tyX6 tyX6_ok nmX6 hown hK hP hD hS 0 rfl rfl 10 (by decide) (hts (.fieldLink RX6 53 "JoinDeskModel" "cells" "J") (by decide +kernel)) (fun _ h9 => h9) rfl (by decide +kernel) rfl rfl (Nat.le_of_ble_eq_true rfl) dX6_kind_33 (fun H locs hP hD hS => ?_)
  have hP : va_P D vwCl [(mo, .inr (6, [.int 0, .ref q1, .int (nI g), .ref q3, .ref q4, .ref q5, .ref q6, .int 0, .int 0, .int x, .long 0, .ref q11, .int 0, .long 0, .long 0])), (q11, .inl (cI, 24, .inl g11))] H := hP
  have hD : va_D A [(mo, .inr (6, [.int 0, .ref q1, .int (nI g), .ref q3, .ref q4, .ref q5, .ref q6, .int 0, .int 0, .int x, .long 0, .ref q11, .int 0, .long 0, .long 0])), (q11, .inl (cI, 24, .inl g11))] := hD
  refine lv_aload_n hx hb dX6_kind_36 rfl (lv_at hl 0 rfl) ?_
  refine lv_iconst (v := 0) hx hb dX6_kind_37 (by decide) ?_
  refine va_put (D := D) (ci := 6) (v := .int 0) (ty := .boolean) (C := RX6) (T := TX6) (N := 15) hx hb hts (by decide +kernel) tyX6 tyX6_ok nmX6 hown hK hP hD hS 0 rfl rfl 12 (by decide) (hts (.fieldLink RX6 57 "JoinDeskModel" "marked" "Z") (by decide +kernel)) (fun _ h9 => h9) rfl (by decide +kernel) rfl rfl (Nat.le_of_ble_eq_true rfl) dX6_kind_38 (fun H locs hP hD hS => ?_)
  have hP : va_P D vwCl [(mo, .inr (6, [.int 0, .ref q1, .int (nI g), .ref q3, .ref q4, .ref q5, .ref q6, .int 0, .int 0, .int x, .long 0, .ref q11, .int 0, .long 0, .long 0])), (q11, .inl (cI, 24, .inl g11))] H := hP
  have hD : va_D A [(mo, .inr (6, [.int 0, .ref q1, .int (nI g), .ref q3, .ref q4, .ref q5, .ref q6, .int 0, .int 0, .int x, .long 0, .ref q11, .int 0, .long 0, .long 0])), (q11, .inl (cI, 24, .inl g11))] := hD
  refine W.widen (k := 0) (n := 0) (by omega) (by omega) ?_
  exact W.vret hx hb hr (fun t ht hW => ⟨⟨[(mo, .inr (6, [.int 0, .ref q1, .int (nI g), .ref q3, .ref q4, .ref q5, .ref q6, .int 0, .int 0, .int x, .long 0, .ref q11, .int 0, .long 0, .long 0])), (q11, .inl (cI, 24, .inl g11))], rfl, (by exact ⟨_, rfl⟩), by rw [ht]; exact hP, hD⟩, hS.F ht⟩) hS.2.2 dX6_kind_41
set_option maxHeartbeats 1000000 in
set_option maxRecDepth 100000 in
theorem cM_kind_t (l : Launch) (D : va_G) (cI cL cQ : ClassId) (g : Nat) (mo : Nat) (q1 : Nat) (q3 : Nat) (q4 : Nat) (q5 : Nat) (q6 : Nat) (q11 : Nat) (x : Int32) (sz : Nat) (h1 : x < 0 ∨ 3 < x) : Met l yX6_kind wsX6_kind ({ frames := 1, cells := 0, slots := 0, locals := 21 }) (jw_P D vwCl (jT cI cL cQ) cL cQ [.ref mo, .int x] [(mo, .inr (6, [.int 0, .ref q1, .int (nI g), .ref q3, .ref q4, .ref q5, .ref q6, .int 0, .int 0, .int 0, .long 0, .ref q11, .int 0, .long 0, .long 0]))] sz) (va_Qv (fun u : va_W => u = [(mo, .inr (6, [.int 1, .ref q1, .int (nI g), .ref q3, .ref q4, .ref q5, .ref q6, .int 0, .int 0, .int 0, .long 0, .ref q11, .int 0, .long 0, .long 0]))]) (jw_B D vwCl (va_A [(mo, .inr (6, [.int 0, .ref q1, .int (nI g), .ref q3, .ref q4, .ref q5, .ref q6, .int 0, .int 0, .int 0, .long 0, .ref q11, .int 0, .long 0, .long 0]))] sz) (fun u : va_W => u)) (va_A [(mo, .inr (6, [.int 0, .ref q1, .int (nI g), .ref q3, .ref q4, .ref q5, .ref q6, .int 0, .int 0, .int 0, .long 0, .ref q11, .int 0, .long 0, .long 0]))] sz)) 0 0 (va_A [(mo, .inr (6, [.int 0, .ref q1, .int (nI g), .ref q3, .ref q4, .ref q5, .ref q6, .int 0, .int 0, .int 0, .long 0, .ref q11, .int 0, .long 0, .long 0]))] sz) := by
  refine Met.ofW (cc := cX6_kind) (maxL := 2) (ret := none) (by decide) rfl ?_
  intro p e s m args below meth c s₁ B hml hv
  obtain ⟨rfl, hsz, hP, hK, hN, hD0⟩ := hv
  have hx := B.exec
  have hb := B.bytes
  have hr := B.returns
  have hts := atoms_spec (ws := wsX6_kind) B.pre
  have hown : s.vm.findClass RX6 = some m.cls := findClass_of_methodNamed B.named
  have hlocks := B.notSynchronized
  subst hsz
  have hD := hD0.self (sz := s.heap.size)
  generalize hAe : va_A [(mo, .inr (6, [.int 0, .ref q1, .int (nI g), .ref q3, .ref q4, .ref q5, .ref q6, .int 0, .int 0, .int 0, .long 0, .ref q11, .int 0, .long 0, .long 0]))] s.heap.size = A at hD ⊢
  have hA : ∀ q : Nat, s.heap.size ≤ q → A q := fun q h => by rw [← hAe]; exact Or.inr h
  have hS : va_S A s.heap s.heap [] := va_S.rf
  have hl := lv_entry ([.ref mo, .int x]) (n := 2) (Nat.le_of_ble_eq_true rfl)
  rw [lg_entry_eq]
  generalize (lg_sl ([.ref mo, .int x]) ++ List.replicate (2 - (lg_sl ([.ref mo, .int x])).length) Slot.unset).toArray = ls at hl ⊢
  have hl : lv_has ls 2 [(0, .ref mo), (1, .int x)] := hl
  refine lv_aload_n hx hb dX6_kind_0 rfl (lv_at hl 0 rfl) ?_
  refine lv_iload_n hx hb dX6_kind_1 rfl (lv_at hl 1 rfl) ?_
  refine lv_if_lt (tgt := 10) hx hb dX6_kind_2 (by decide) (fun c_1 => ?_) (fun c_1 => ?_)
  · refine lv_iconst (v := 1) hx hb dX6_kind_10 (by decide) ?_
    refine lv_goto (tgt := 15) hx hb dX6_kind_11 (by decide) ?_
    refine jw_i (wr := []) (va_runV (As := [.int 1]) (rest := []) ⟨hx, hb, hml, hown, hts⟩ (cM_refuses_1 l D cI cL cQ mo 0 q1 (nI g) q3 q4 q5 q6 0 0 0 0 q11 0 0 0 _) (cwV 1 hts gX6_kind_X6_refuses rfl rfl rfl (by decide +kernel) ⟨Nat.le_of_ble_eq_true rfl, Nat.le_of_ble_eq_true rfl⟩) (jw_V hK hN hP hD [0] (by decide) rfl 6 0 rfl rfl rfl) rfl rfl hl.1 rfl (lv_room (Nat.le_of_ble_eq_true rfl)) dX6_kind_15 ⟨Nat.le_of_ble_eq_true rfl, Nat.le_of_ble_eq_true rfl⟩) hP hD hS hA [0] [] rfl rfl (by decide) (by decide) (fun r u H locs f_2 hP hD hS => ?_)
    obtain ⟨rfl, rfl⟩ := f_2
    have hP : va_P D vwCl [(mo, .inr (6, [.int 1, .ref q1, .int (nI g), .ref q3, .ref q4, .ref q5, .ref q6, .int 0, .int 0, .int 0, .long 0, .ref q11, .int 0, .long 0, .long 0]))] H := hP
    have hD : va_D A [(mo, .inr (6, [.int 1, .ref q1, .int (nI g), .ref q3, .ref q4, .ref q5, .ref q6, .int 0, .int 0, .int 0, .long 0, .ref q11, .int 0, .long 0, .long 0]))] := hD
    refine lv_if_eq (tgt := 22) hx hb dX6_kind_18 (by decide) (fun c_3 => absurd c_3 (by decide)) (fun c_3 => ?_)
    refine W.widen (k := 0) (n := 0) (by omega) (by omega) ?_
    exact W.vret hx hb hr (fun t ht hW => ⟨⟨[(mo, .inr (6, [.int 1, .ref q1, .int (nI g), .ref q3, .ref q4, .ref q5, .ref q6, .int 0, .int 0, .int 0, .long 0, .ref q11, .int 0, .long 0, .long 0]))], rfl, (by exact rfl), by rw [ht]; exact hP, hD⟩, hS.F ht⟩) hS.2.2 dX6_kind_21
  · refine lv_iload_n hx hb dX6_kind_5 rfl (lv_at hl 1 rfl) ?_
    refine lv_iconst (v := 3) hx hb dX6_kind_6 (by decide) ?_
    refine lv_icmp_le (tgt := 14) hx hb dX6_kind_7 (by decide) (fun c_4 => absurd c_4 (by exact j_nle (h1.resolve_left (by assumption)))) (fun c_4 => ?_)
    refine lv_iconst (v := 1) hx hb dX6_kind_10 (by decide) ?_
    refine lv_goto (tgt := 15) hx hb dX6_kind_11 (by decide) ?_
    refine jw_i (wr := []) (va_runV (As := [.int 1]) (rest := []) ⟨hx, hb, hml, hown, hts⟩ (cM_refuses_1 l D cI cL cQ mo 0 q1 (nI g) q3 q4 q5 q6 0 0 0 0 q11 0 0 0 _) (cwV 1 hts gX6_kind_X6_refuses rfl rfl rfl (by decide +kernel) ⟨Nat.le_of_ble_eq_true rfl, Nat.le_of_ble_eq_true rfl⟩) (jw_V hK hN hP hD [0] (by decide) rfl 6 0 rfl rfl rfl) rfl rfl hl.1 rfl (lv_room (Nat.le_of_ble_eq_true rfl)) dX6_kind_15 ⟨Nat.le_of_ble_eq_true rfl, Nat.le_of_ble_eq_true rfl⟩) hP hD hS hA [0] [] rfl rfl (by decide) (by decide) (fun r u H locs f_5 hP hD hS => ?_)
    obtain ⟨rfl, rfl⟩ := f_5
    have hP : va_P D vwCl [(mo, .inr (6, [.int 1, .ref q1, .int (nI g), .ref q3, .ref q4, .ref q5, .ref q6, .int 0, .int 0, .int 0, .long 0, .ref q11, .int 0, .long 0, .long 0]))] H := hP
    have hD : va_D A [(mo, .inr (6, [.int 1, .ref q1, .int (nI g), .ref q3, .ref q4, .ref q5, .ref q6, .int 0, .int 0, .int 0, .long 0, .ref q11, .int 0, .long 0, .long 0]))] := hD
    refine lv_if_eq (tgt := 22) hx hb dX6_kind_18 (by decide) (fun c_6 => absurd c_6 (by decide)) (fun c_6 => ?_)
    refine W.widen (k := 0) (n := 0) (by omega) (by omega) ?_
    exact W.vret hx hb hr (fun t ht hW => ⟨⟨[(mo, .inr (6, [.int 1, .ref q1, .int (nI g), .ref q3, .ref q4, .ref q5, .ref q6, .int 0, .int 0, .int 0, .long 0, .ref q11, .int 0, .long 0, .long 0]))], rfl, (by exact rfl), by rw [ht]; exact hP, hD⟩, hS.F ht⟩) hS.2.2 dX6_kind_21
set_option maxHeartbeats 1000000 in
set_option maxRecDepth 100000 in
theorem cM_next_t (l : Launch) (D : va_G) (cI cL cQ : ClassId) (g : Nat) (mo : Nat) (q1 : Nat) (q3 : Nat) (q4 : Nat) (q5 : Nat) (q6 : Nat) (q11 : Nat) (sz : Nat) : Met l yX6_next wsX6_next ({ frames := 1, cells := 0, slots := 0, locals := 21 }) (jw_P D vwCl (jT cI cL cQ) cL cQ [.ref mo] [(mo, .inr (6, [.int 0, .ref q1, .int (nI g), .ref q3, .ref q4, .ref q5, .ref q6, .int 0, .int 0, .int 0, .long 0, .ref q11, .int 0, .long 0, .long 0]))] sz) (va_Qi (fun (r : Int32) (u : va_W) => r = 0 ∧ u = [(mo, .inr (6, [.int 1, .ref q1, .int (nI g), .ref q3, .ref q4, .ref q5, .ref q6, .int 0, .int 0, .int 0, .long 0, .ref q11, .int 0, .long 0, .long 0]))]) (jw_B D vwCl (va_A [(mo, .inr (6, [.int 0, .ref q1, .int (nI g), .ref q3, .ref q4, .ref q5, .ref q6, .int 0, .int 0, .int 0, .long 0, .ref q11, .int 0, .long 0, .long 0]))] sz) (fun u : va_W => u)) (va_A [(mo, .inr (6, [.int 0, .ref q1, .int (nI g), .ref q3, .ref q4, .ref q5, .ref q6, .int 0, .int 0, .int 0, .long 0, .ref q11, .int 0, .long 0, .long 0]))] sz)) 0 0 (va_A [(mo, .inr (6, [.int 0, .ref q1, .int (nI g), .ref q3, .ref q4, .ref q5, .ref q6, .int 0, .int 0, .int 0, .long 0, .ref q11, .int 0, .long 0, .long 0]))] sz) := by
  refine Met.ofW (cc := cX6_next) (maxL := 5) (ret := (some .boolean)) (by decide) rfl ?_
  intro p e s m args below meth c s₁ B hml hv
  obtain ⟨rfl, hsz, hP, hK, hN, hD0⟩ := hv
  have hx := B.exec
  have hb := B.bytes
  have hr := B.returns
  have hts := atoms_spec (ws := wsX6_next) B.pre
  have hown : s.vm.findClass RX6 = some m.cls := findClass_of_methodNamed B.named
  have hlocks := B.notSynchronized
  subst hsz
  have hD := hD0.self (sz := s.heap.size)
  generalize hAe : va_A [(mo, .inr (6, [.int 0, .ref q1, .int (nI g), .ref q3, .ref q4, .ref q5, .ref q6, .int 0, .int 0, .int 0, .long 0, .ref q11, .int 0, .long 0, .long 0]))] s.heap.size = A at hD ⊢
  have hA : ∀ q : Nat, s.heap.size ≤ q → A q := fun q h => by rw [← hAe]; exact Or.inr h
  have hS : va_S A s.heap s.heap [] := va_S.rf
  have hl := lv_entry ([.ref mo]) (n := 5) (Nat.le_of_ble_eq_true rfl)
  rw [lg_entry_eq]
  generalize (lg_sl ([.ref mo]) ++ List.replicate (5 - (lg_sl ([.ref mo])).length) Slot.unset).toArray = ls at hl ⊢
  have hl : lv_has ls 5 [(0, .ref mo)] := hl
  refine lv_aload_n hx hb dX6_next_0 rfl (lv_at hl 0 rfl) ?_
  refine lv_aload_n hx hb dX6_next_1 rfl (lv_at hl 0 rfl) ?_
  refine va_get (D := D) (ci := 6) (v := .int 0) (C := RX6) (T := TX6) (N := 15) hx hb hts (by decide +kernel) hown hK hP 0 rfl rfl 7 (by decide) (hts (.fieldLink RX6 43 "JoinDeskModel" "prepared" "Z") (by decide +kernel)) (fun _ h9 => h9) rfl dX6_next_2 ?_
  refine lv_if_eq (tgt := 12) hx hb dX6_next_5 (by decide) (fun c_1 => ?_) (fun c_1 => absurd c_1 (by decide))
  refine lv_iconst (v := 1) hx hb dX6_next_12 (by decide) ?_
  refine jw_i (wr := []) (va_runV (As := [.int 1]) (rest := []) ⟨hx, hb, hml, hown, hts⟩ (cM_refuses_1 l D cI cL cQ mo 0 q1 (nI g) q3 q4 q5 q6 0 0 0 0 q11 0 0 0 _) (cwV 1 hts gX6_next_X6_refuses rfl rfl rfl (by decide +kernel) ⟨Nat.le_of_ble_eq_true rfl, Nat.le_of_ble_eq_true rfl⟩) (jw_V hK hN hP hD [0] (by decide) rfl 6 0 rfl rfl rfl) rfl rfl hl.1 rfl (lv_room (Nat.le_of_ble_eq_true rfl)) dX6_next_13 ⟨Nat.le_of_ble_eq_true rfl, Nat.le_of_ble_eq_true rfl⟩) hP hD hS hA [0] [] rfl rfl (by decide) (by decide) (fun r u H locs f_2 hP hD hS => ?_)
  obtain ⟨rfl, rfl⟩ := f_2
  have hP : va_P D vwCl [(mo, .inr (6, [.int 1, .ref q1, .int (nI g), .ref q3, .ref q4, .ref q5, .ref q6, .int 0, .int 0, .int 0, .long 0, .ref q11, .int 0, .long 0, .long 0]))] H := hP
  have hD : va_D A [(mo, .inr (6, [.int 1, .ref q1, .int (nI g), .ref q3, .ref q4, .ref q5, .ref q6, .int 0, .int 0, .int 0, .long 0, .ref q11, .int 0, .long 0, .long 0]))] := hD
  refine lv_if_eq (tgt := 21) hx hb dX6_next_16 (by decide) (fun c_3 => absurd c_3 (by decide)) (fun c_3 => ?_)
  refine lv_iconst (v := 0) hx hb dX6_next_19 (by decide) ?_
  refine W.widen (k := 0) (n := 0) (by omega) (by omega) ?_
  exact W.zret (v := 0) (ty := .boolean) hx hb hr rfl (fun t ht hW => ⟨⟨0, [(mo, .inr (6, [.int 1, .ref q1, .int (nI g), .ref q3, .ref q4, .ref q5, .ref q6, .int 0, .int 0, .int 0, .long 0, .ref q11, .int 0, .long 0, .long 0]))], rfl, (by exact ⟨rfl, rfl⟩), by rw [ht]; exact hP, hD⟩, hS.F ht⟩) hS.2.2 dX6_next_20
set_option maxHeartbeats 1000000 in
set_option maxRecDepth 100000 in
theorem cM_mark_t (l : Launch) (D : va_G) (cI cL cQ : ClassId) (g : Nat) (mo : Nat) (q1 : Nat) (q3 : Nat) (q4 : Nat) (q5 : Nat) (q6 : Nat) (q11 : Nat) (sz : Nat) : Met l yX6_mark wsX6_mark ({ frames := 1, cells := 0, slots := 0, locals := 21 }) (jw_P D vwCl (jT cI cL cQ) cL cQ [.ref mo] [(mo, .inr (6, [.int 0, .ref q1, .int (nI g), .ref q3, .ref q4, .ref q5, .ref q6, .int 0, .int 0, .int 0, .long 0, .ref q11, .int 0, .long 0, .long 0]))] sz) (va_Qi (fun (r : Int32) (u : va_W) => r = 0 ∧ u = [(mo, .inr (6, [.int 1, .ref q1, .int (nI g), .ref q3, .ref q4, .ref q5, .ref q6, .int 0, .int 0, .int 0, .long 0, .ref q11, .int 0, .long 0, .long 0]))]) (jw_B D vwCl (va_A [(mo, .inr (6, [.int 0, .ref q1, .int (nI g), .ref q3, .ref q4, .ref q5, .ref q6, .int 0, .int 0, .int 0, .long 0, .ref q11, .int 0, .long 0, .long 0]))] sz) (fun u : va_W => u)) (va_A [(mo, .inr (6, [.int 0, .ref q1, .int (nI g), .ref q3, .ref q4, .ref q5, .ref q6, .int 0, .int 0, .int 0, .long 0, .ref q11, .int 0, .long 0, .long 0]))] sz)) 0 0 (va_A [(mo, .inr (6, [.int 0, .ref q1, .int (nI g), .ref q3, .ref q4, .ref q5, .ref q6, .int 0, .int 0, .int 0, .long 0, .ref q11, .int 0, .long 0, .long 0]))] sz) := by
  refine Met.ofW (cc := cX6_mark) (maxL := 2) (ret := (some .int)) (by decide) rfl ?_
  intro p e s m args below meth c s₁ B hml hv
  obtain ⟨rfl, hsz, hP, hK, hN, hD0⟩ := hv
  have hx := B.exec
  have hb := B.bytes
  have hr := B.returns
  have hts := atoms_spec (ws := wsX6_mark) B.pre
  have hown : s.vm.findClass RX6 = some m.cls := findClass_of_methodNamed B.named
  have hlocks := B.notSynchronized
  subst hsz
  have hD := hD0.self (sz := s.heap.size)
  generalize hAe : va_A [(mo, .inr (6, [.int 0, .ref q1, .int (nI g), .ref q3, .ref q4, .ref q5, .ref q6, .int 0, .int 0, .int 0, .long 0, .ref q11, .int 0, .long 0, .long 0]))] s.heap.size = A at hD ⊢
  have hA : ∀ q : Nat, s.heap.size ≤ q → A q := fun q h => by rw [← hAe]; exact Or.inr h
  have hS : va_S A s.heap s.heap [] := va_S.rf
  have hl := lv_entry ([.ref mo]) (n := 2) (Nat.le_of_ble_eq_true rfl)
  rw [lg_entry_eq]
  generalize (lg_sl ([.ref mo]) ++ List.replicate (2 - (lg_sl ([.ref mo])).length) Slot.unset).toArray = ls at hl ⊢
  have hl : lv_has ls 2 [(0, .ref mo)] := hl
  refine lv_aload_n hx hb dX6_mark_0 rfl (lv_at hl 0 rfl) ?_
  refine lv_aload_n hx hb dX6_mark_1 rfl (lv_at hl 0 rfl) ?_
  refine va_get (D := D) (ci := 6) (v := .int 0) (C := RX6) (T := TX6) (N := 15) hx hb hts (by decide +kernel) hown hK hP 0 rfl rfl 7 (by decide) (hts (.fieldLink RX6 43 "JoinDeskModel" "prepared" "Z") (by decide +kernel)) (fun _ h9 => h9) rfl dX6_mark_2 ?_
  refine lv_if_eq (tgt := 12) hx hb dX6_mark_5 (by decide) (fun c_1 => ?_) (fun c_1 => absurd c_1 (by decide))
  refine lv_iconst (v := 1) hx hb dX6_mark_12 (by decide) ?_
  refine jw_i (wr := []) (va_runV (As := [.int 1]) (rest := []) ⟨hx, hb, hml, hown, hts⟩ (cM_refuses_1 l D cI cL cQ mo 0 q1 (nI g) q3 q4 q5 q6 0 0 0 0 q11 0 0 0 _) (cwV 1 hts gX6_mark_X6_refuses rfl rfl rfl (by decide +kernel) ⟨Nat.le_of_ble_eq_true rfl, Nat.le_of_ble_eq_true rfl⟩) (jw_V hK hN hP hD [0] (by decide) rfl 6 0 rfl rfl rfl) rfl rfl hl.1 rfl (lv_room (Nat.le_of_ble_eq_true rfl)) dX6_mark_13 ⟨Nat.le_of_ble_eq_true rfl, Nat.le_of_ble_eq_true rfl⟩) hP hD hS hA [0] [] rfl rfl (by decide) (by decide) (fun r u H locs f_2 hP hD hS => ?_)
  obtain ⟨rfl, rfl⟩ := f_2
  have hP : va_P D vwCl [(mo, .inr (6, [.int 1, .ref q1, .int (nI g), .ref q3, .ref q4, .ref q5, .ref q6, .int 0, .int 0, .int 0, .long 0, .ref q11, .int 0, .long 0, .long 0]))] H := hP
  have hD : va_D A [(mo, .inr (6, [.int 1, .ref q1, .int (nI g), .ref q3, .ref q4, .ref q5, .ref q6, .int 0, .int 0, .int 0, .long 0, .ref q11, .int 0, .long 0, .long 0]))] := hD
  refine lv_if_eq (tgt := 21) hx hb dX6_mark_16 (by decide) (fun c_3 => absurd c_3 (by decide)) (fun c_3 => ?_)
  refine lv_iconst (v := 0) hx hb dX6_mark_19 (by decide) ?_
  refine W.widen (k := 0) (n := 0) (by omega) (by omega) ?_
  exact W.iret (v := 0) hx hb hr (fun t ht hW => ⟨⟨0, [(mo, .inr (6, [.int 1, .ref q1, .int (nI g), .ref q3, .ref q4, .ref q5, .ref q6, .int 0, .int 0, .int 0, .long 0, .ref q11, .int 0, .long 0, .long 0]))], rfl, (by exact ⟨rfl, rfl⟩), by rw [ht]; exact hP, hD⟩, hS.F ht⟩) hS.2.2 dX6_mark_20
set_option maxHeartbeats 1000000 in
set_option maxRecDepth 100000 in
theorem cM_back_t (l : Launch) (D : va_G) (cI cL cQ : ClassId) (g : Nat) (mo : Nat) (q1 : Nat) (q3 : Nat) (q4 : Nat) (q5 : Nat) (q6 : Nat) (q11 : Nat) (sz : Nat) : Met l yX6_back wsX6_back ({ frames := 1, cells := 0, slots := 0, locals := 21 }) (jw_P D vwCl (jT cI cL cQ) cL cQ [.ref mo] [(mo, .inr (6, [.int 0, .ref q1, .int (nI g), .ref q3, .ref q4, .ref q5, .ref q6, .int 0, .int 0, .int 0, .long 0, .ref q11, .int 0, .long 0, .long 0]))] sz) (va_Qi (fun (r : Int32) (u : va_W) => r = 0 ∧ u = [(mo, .inr (6, [.int 1, .ref q1, .int (nI g), .ref q3, .ref q4, .ref q5, .ref q6, .int 0, .int 0, .int 0, .long 0, .ref q11, .int 0, .long 0, .long 0]))]) (jw_B D vwCl (va_A [(mo, .inr (6, [.int 0, .ref q1, .int (nI g), .ref q3, .ref q4, .ref q5, .ref q6, .int 0, .int 0, .int 0, .long 0, .ref q11, .int 0, .long 0, .long 0]))] sz) (fun u : va_W => u)) (va_A [(mo, .inr (6, [.int 0, .ref q1, .int (nI g), .ref q3, .ref q4, .ref q5, .ref q6, .int 0, .int 0, .int 0, .long 0, .ref q11, .int 0, .long 0, .long 0]))] sz)) 0 0 (va_A [(mo, .inr (6, [.int 0, .ref q1, .int (nI g), .ref q3, .ref q4, .ref q5, .ref q6, .int 0, .int 0, .int 0, .long 0, .ref q11, .int 0, .long 0, .long 0]))] sz) := by
  refine Met.ofW (cc := cX6_back) (maxL := 2) (ret := (some .int)) (by decide) rfl ?_
  intro p e s m args below meth c s₁ B hml hv
  obtain ⟨rfl, hsz, hP, hK, hN, hD0⟩ := hv
  have hx := B.exec
  have hb := B.bytes
  have hr := B.returns
  have hts := atoms_spec (ws := wsX6_back) B.pre
  have hown : s.vm.findClass RX6 = some m.cls := findClass_of_methodNamed B.named
  have hlocks := B.notSynchronized
  subst hsz
  have hD := hD0.self (sz := s.heap.size)
  generalize hAe : va_A [(mo, .inr (6, [.int 0, .ref q1, .int (nI g), .ref q3, .ref q4, .ref q5, .ref q6, .int 0, .int 0, .int 0, .long 0, .ref q11, .int 0, .long 0, .long 0]))] s.heap.size = A at hD ⊢
  have hA : ∀ q : Nat, s.heap.size ≤ q → A q := fun q h => by rw [← hAe]; exact Or.inr h
  have hS : va_S A s.heap s.heap [] := va_S.rf
  have hl := lv_entry ([.ref mo]) (n := 2) (Nat.le_of_ble_eq_true rfl)
  rw [lg_entry_eq]
  generalize (lg_sl ([.ref mo]) ++ List.replicate (2 - (lg_sl ([.ref mo])).length) Slot.unset).toArray = ls at hl ⊢
  have hl : lv_has ls 2 [(0, .ref mo)] := hl
  refine lv_aload_n hx hb dX6_back_0 rfl (lv_at hl 0 rfl) ?_
  refine lv_aload_n hx hb dX6_back_1 rfl (lv_at hl 0 rfl) ?_
  refine va_get (D := D) (ci := 6) (v := .int 0) (C := RX6) (T := TX6) (N := 15) hx hb hts (by decide +kernel) hown hK hP 0 rfl rfl 7 (by decide) (hts (.fieldLink RX6 43 "JoinDeskModel" "prepared" "Z") (by decide +kernel)) (fun _ h9 => h9) rfl dX6_back_2 ?_
  refine lv_if_eq (tgt := 19) hx hb dX6_back_5 (by decide) (fun c_1 => ?_) (fun c_1 => absurd c_1 (by decide))
  refine lv_iconst (v := 1) hx hb dX6_back_19 (by decide) ?_
  refine jw_i (wr := []) (va_runV (As := [.int 1]) (rest := []) ⟨hx, hb, hml, hown, hts⟩ (cM_refuses_1 l D cI cL cQ mo 0 q1 (nI g) q3 q4 q5 q6 0 0 0 0 q11 0 0 0 _) (cwV 1 hts gX6_back_X6_refuses rfl rfl rfl (by decide +kernel) ⟨Nat.le_of_ble_eq_true rfl, Nat.le_of_ble_eq_true rfl⟩) (jw_V hK hN hP hD [0] (by decide) rfl 6 0 rfl rfl rfl) rfl rfl hl.1 rfl (lv_room (Nat.le_of_ble_eq_true rfl)) dX6_back_20 ⟨Nat.le_of_ble_eq_true rfl, Nat.le_of_ble_eq_true rfl⟩) hP hD hS hA [0] [] rfl rfl (by decide) (by decide) (fun r u H locs f_2 hP hD hS => ?_)
  obtain ⟨rfl, rfl⟩ := f_2
  have hP : va_P D vwCl [(mo, .inr (6, [.int 1, .ref q1, .int (nI g), .ref q3, .ref q4, .ref q5, .ref q6, .int 0, .int 0, .int 0, .long 0, .ref q11, .int 0, .long 0, .long 0]))] H := hP
  have hD : va_D A [(mo, .inr (6, [.int 1, .ref q1, .int (nI g), .ref q3, .ref q4, .ref q5, .ref q6, .int 0, .int 0, .int 0, .long 0, .ref q11, .int 0, .long 0, .long 0]))] := hD
  refine lv_if_eq (tgt := 28) hx hb dX6_back_23 (by decide) (fun c_3 => absurd c_3 (by decide)) (fun c_3 => ?_)
  refine lv_iconst (v := 0) hx hb dX6_back_26 (by decide) ?_
  refine W.widen (k := 0) (n := 0) (by omega) (by omega) ?_
  exact W.iret (v := 0) hx hb hr (fun t ht hW => ⟨⟨0, [(mo, .inr (6, [.int 1, .ref q1, .int (nI g), .ref q3, .ref q4, .ref q5, .ref q6, .int 0, .int 0, .int 0, .long 0, .ref q11, .int 0, .long 0, .long 0]))], rfl, (by exact ⟨rfl, rfl⟩), by rw [ht]; exact hP, hD⟩, hS.F ht⟩) hS.2.2 dX6_back_27
set_option maxHeartbeats 1000000 in
set_option maxRecDepth 100000 in
theorem cM_seek_t (l : Launch) (D : va_G) (cI cL cQ : ClassId) (g : Nat) (mo : Nat) (q1 : Nat) (q3 : Nat) (q4 : Nat) (q5 : Nat) (q6 : Nat) (q11 : Nat) (x : Int32) (sz : Nat) : Met l yX6_seek wsX6_seek ({ frames := 1, cells := 0, slots := 0, locals := 21 }) (jw_P D vwCl (jT cI cL cQ) cL cQ [.ref mo, .int x] [(mo, .inr (6, [.int 0, .ref q1, .int (nI g), .ref q3, .ref q4, .ref q5, .ref q6, .int 0, .int 0, .int 0, .long 0, .ref q11, .int 0, .long 0, .long 0]))] sz) (va_Qi (fun (r : Int32) (u : va_W) => r = 0 ∧ u = [(mo, .inr (6, [.int 1, .ref q1, .int (nI g), .ref q3, .ref q4, .ref q5, .ref q6, .int 0, .int 0, .int 0, .long 0, .ref q11, .int 0, .long 0, .long 0]))]) (jw_B D vwCl (va_A [(mo, .inr (6, [.int 0, .ref q1, .int (nI g), .ref q3, .ref q4, .ref q5, .ref q6, .int 0, .int 0, .int 0, .long 0, .ref q11, .int 0, .long 0, .long 0]))] sz) (fun u : va_W => u)) (va_A [(mo, .inr (6, [.int 0, .ref q1, .int (nI g), .ref q3, .ref q4, .ref q5, .ref q6, .int 0, .int 0, .int 0, .long 0, .ref q11, .int 0, .long 0, .long 0]))] sz)) 0 0 (va_A [(mo, .inr (6, [.int 0, .ref q1, .int (nI g), .ref q3, .ref q4, .ref q5, .ref q6, .int 0, .int 0, .int 0, .long 0, .ref q11, .int 0, .long 0, .long 0]))] sz) := by
  refine Met.ofW (cc := cX6_seek) (maxL := 6) (ret := (some .boolean)) (by decide) rfl ?_
  intro p e s m args below meth c s₁ B hml hv
  obtain ⟨rfl, hsz, hP, hK, hN, hD0⟩ := hv
  have hx := B.exec
  have hb := B.bytes
  have hr := B.returns
  have hts := atoms_spec (ws := wsX6_seek) B.pre
  have hown : s.vm.findClass RX6 = some m.cls := findClass_of_methodNamed B.named
  have hlocks := B.notSynchronized
  subst hsz
  have hD := hD0.self (sz := s.heap.size)
  generalize hAe : va_A [(mo, .inr (6, [.int 0, .ref q1, .int (nI g), .ref q3, .ref q4, .ref q5, .ref q6, .int 0, .int 0, .int 0, .long 0, .ref q11, .int 0, .long 0, .long 0]))] s.heap.size = A at hD ⊢
  have hA : ∀ q : Nat, s.heap.size ≤ q → A q := fun q h => by rw [← hAe]; exact Or.inr h
  have hS : va_S A s.heap s.heap [] := va_S.rf
  have hl := lv_entry ([.ref mo, .int x]) (n := 6) (Nat.le_of_ble_eq_true rfl)
  rw [lg_entry_eq]
  generalize (lg_sl ([.ref mo, .int x]) ++ List.replicate (6 - (lg_sl ([.ref mo, .int x])).length) Slot.unset).toArray = ls at hl ⊢
  have hl : lv_has ls 6 [(0, .ref mo), (1, .int x)] := hl
  refine lv_aload_n hx hb dX6_seek_0 rfl (lv_at hl 0 rfl) ?_
  refine lv_aload_n hx hb dX6_seek_1 rfl (lv_at hl 0 rfl) ?_
  refine va_get (D := D) (ci := 6) (v := .int 0) (C := RX6) (T := TX6) (N := 15) hx hb hts (by decide +kernel) hown hK hP 0 rfl rfl 7 (by decide) (hts (.fieldLink RX6 43 "JoinDeskModel" "prepared" "Z") (by decide +kernel)) (fun _ h9 => h9) rfl dX6_seek_2 ?_
  refine lv_if_eq (tgt := 12) hx hb dX6_seek_5 (by decide) (fun c_1 => ?_) (fun c_1 => absurd c_1 (by decide))
  refine lv_iconst (v := 1) hx hb dX6_seek_12 (by decide) ?_
  refine jw_i (wr := []) (va_runV (As := [.int 1]) (rest := []) ⟨hx, hb, hml, hown, hts⟩ (cM_refuses_1 l D cI cL cQ mo 0 q1 (nI g) q3 q4 q5 q6 0 0 0 0 q11 0 0 0 _) (cwV 1 hts gX6_seek_X6_refuses rfl rfl rfl (by decide +kernel) ⟨Nat.le_of_ble_eq_true rfl, Nat.le_of_ble_eq_true rfl⟩) (jw_V hK hN hP hD [0] (by decide) rfl 6 0 rfl rfl rfl) rfl rfl hl.1 rfl (lv_room (Nat.le_of_ble_eq_true rfl)) dX6_seek_13 ⟨Nat.le_of_ble_eq_true rfl, Nat.le_of_ble_eq_true rfl⟩) hP hD hS hA [0] [] rfl rfl (by decide) (by decide) (fun r u H locs f_2 hP hD hS => ?_)
  obtain ⟨rfl, rfl⟩ := f_2
  have hP : va_P D vwCl [(mo, .inr (6, [.int 1, .ref q1, .int (nI g), .ref q3, .ref q4, .ref q5, .ref q6, .int 0, .int 0, .int 0, .long 0, .ref q11, .int 0, .long 0, .long 0]))] H := hP
  have hD : va_D A [(mo, .inr (6, [.int 1, .ref q1, .int (nI g), .ref q3, .ref q4, .ref q5, .ref q6, .int 0, .int 0, .int 0, .long 0, .ref q11, .int 0, .long 0, .long 0]))] := hD
  refine lv_if_eq (tgt := 21) hx hb dX6_seek_16 (by decide) (fun c_3 => absurd c_3 (by decide)) (fun c_3 => ?_)
  refine lv_iconst (v := 0) hx hb dX6_seek_19 (by decide) ?_
  refine W.widen (k := 0) (n := 0) (by omega) (by omega) ?_
  exact W.zret (v := 0) (ty := .boolean) hx hb hr rfl (fun t ht hW => ⟨⟨0, [(mo, .inr (6, [.int 1, .ref q1, .int (nI g), .ref q3, .ref q4, .ref q5, .ref q6, .int 0, .int 0, .int 0, .long 0, .ref q11, .int 0, .long 0, .long 0]))], rfl, (by exact ⟨rfl, rfl⟩), by rw [ht]; exact hP, hD⟩, hS.F ht⟩) hS.2.2 dX6_seek_20
set_option maxHeartbeats 1000000 in
set_option maxRecDepth 100000 in
theorem cM_groups_t (l : Launch) (D : va_G) (cI cL cQ : ClassId) (g : Nat) (mo : Nat) (q1 : Nat) (q3 : Nat) (q4 : Nat) (q5 : Nat) (q6 : Nat) (q11 : Nat) (sz : Nat) : Met l yX6_groups wsX6_groups ({ frames := 1, cells := 0, slots := 0, locals := 21 }) (jw_P D vwCl (jT cI cL cQ) cL cQ [.ref mo] [(mo, .inr (6, [.int 0, .ref q1, .int (nI g), .ref q3, .ref q4, .ref q5, .ref q6, .int 0, .int 0, .int 0, .long 0, .ref q11, .int 0, .long 0, .long 0]))] sz) (va_Qi (fun (r : Int32) (u : va_W) => r = 0 ∧ u = [(mo, .inr (6, [.int 1, .ref q1, .int (nI g), .ref q3, .ref q4, .ref q5, .ref q6, .int 0, .int 0, .int 0, .long 0, .ref q11, .int 0, .long 0, .long 0]))]) (jw_B D vwCl (va_A [(mo, .inr (6, [.int 0, .ref q1, .int (nI g), .ref q3, .ref q4, .ref q5, .ref q6, .int 0, .int 0, .int 0, .long 0, .ref q11, .int 0, .long 0, .long 0]))] sz) (fun u : va_W => u)) (va_A [(mo, .inr (6, [.int 0, .ref q1, .int (nI g), .ref q3, .ref q4, .ref q5, .ref q6, .int 0, .int 0, .int 0, .long 0, .ref q11, .int 0, .long 0, .long 0]))] sz)) 0 0 (va_A [(mo, .inr (6, [.int 0, .ref q1, .int (nI g), .ref q3, .ref q4, .ref q5, .ref q6, .int 0, .int 0, .int 0, .long 0, .ref q11, .int 0, .long 0, .long 0]))] sz) := by
  refine Met.ofW (cc := cX6_groups) (maxL := 2) (ret := (some .int)) (by decide) rfl ?_
  intro p e s m args below meth c s₁ B hml hv
  obtain ⟨rfl, hsz, hP, hK, hN, hD0⟩ := hv
  have hx := B.exec
  have hb := B.bytes
  have hr := B.returns
  have hts := atoms_spec (ws := wsX6_groups) B.pre
  have hown : s.vm.findClass RX6 = some m.cls := findClass_of_methodNamed B.named
  have hlocks := B.notSynchronized
  subst hsz
  have hD := hD0.self (sz := s.heap.size)
  generalize hAe : va_A [(mo, .inr (6, [.int 0, .ref q1, .int (nI g), .ref q3, .ref q4, .ref q5, .ref q6, .int 0, .int 0, .int 0, .long 0, .ref q11, .int 0, .long 0, .long 0]))] s.heap.size = A at hD ⊢
  have hA : ∀ q : Nat, s.heap.size ≤ q → A q := fun q h => by rw [← hAe]; exact Or.inr h
  have hS : va_S A s.heap s.heap [] := va_S.rf
  have hl := lv_entry ([.ref mo]) (n := 2) (Nat.le_of_ble_eq_true rfl)
  rw [lg_entry_eq]
  generalize (lg_sl ([.ref mo]) ++ List.replicate (2 - (lg_sl ([.ref mo])).length) Slot.unset).toArray = ls at hl ⊢
  have hl : lv_has ls 2 [(0, .ref mo)] := hl
  refine lv_aload_n hx hb dX6_groups_0 rfl (lv_at hl 0 rfl) ?_
  refine lv_aload_n hx hb dX6_groups_1 rfl (lv_at hl 0 rfl) ?_
  refine va_get (D := D) (ci := 6) (v := .int 0) (C := RX6) (T := TX6) (N := 15) hx hb hts (by decide +kernel) hown hK hP 0 rfl rfl 7 (by decide) (hts (.fieldLink RX6 43 "JoinDeskModel" "prepared" "Z") (by decide +kernel)) (fun _ h9 => h9) rfl dX6_groups_2 ?_
  refine lv_if_eq (tgt := 12) hx hb dX6_groups_5 (by decide) (fun c_1 => ?_) (fun c_1 => absurd c_1 (by decide))
  refine lv_iconst (v := 1) hx hb dX6_groups_12 (by decide) ?_
  refine jw_i (wr := []) (va_runV (As := [.int 1]) (rest := []) ⟨hx, hb, hml, hown, hts⟩ (cM_refuses_1 l D cI cL cQ mo 0 q1 (nI g) q3 q4 q5 q6 0 0 0 0 q11 0 0 0 _) (cwV 1 hts gX6_groups_X6_refuses rfl rfl rfl (by decide +kernel) ⟨Nat.le_of_ble_eq_true rfl, Nat.le_of_ble_eq_true rfl⟩) (jw_V hK hN hP hD [0] (by decide) rfl 6 0 rfl rfl rfl) rfl rfl hl.1 rfl (lv_room (Nat.le_of_ble_eq_true rfl)) dX6_groups_13 ⟨Nat.le_of_ble_eq_true rfl, Nat.le_of_ble_eq_true rfl⟩) hP hD hS hA [0] [] rfl rfl (by decide) (by decide) (fun r u H locs f_2 hP hD hS => ?_)
  obtain ⟨rfl, rfl⟩ := f_2
  have hP : va_P D vwCl [(mo, .inr (6, [.int 1, .ref q1, .int (nI g), .ref q3, .ref q4, .ref q5, .ref q6, .int 0, .int 0, .int 0, .long 0, .ref q11, .int 0, .long 0, .long 0]))] H := hP
  have hD : va_D A [(mo, .inr (6, [.int 1, .ref q1, .int (nI g), .ref q3, .ref q4, .ref q5, .ref q6, .int 0, .int 0, .int 0, .long 0, .ref q11, .int 0, .long 0, .long 0]))] := hD
  refine lv_if_eq (tgt := 21) hx hb dX6_groups_16 (by decide) (fun c_3 => absurd c_3 (by decide)) (fun c_3 => ?_)
  refine lv_iconst (v := 0) hx hb dX6_groups_19 (by decide) ?_
  refine W.widen (k := 0) (n := 0) (by omega) (by omega) ?_
  exact W.iret (v := 0) hx hb hr (fun t ht hW => ⟨⟨0, [(mo, .inr (6, [.int 1, .ref q1, .int (nI g), .ref q3, .ref q4, .ref q5, .ref q6, .int 0, .int 0, .int 0, .long 0, .ref q11, .int 0, .long 0, .long 0]))], rfl, (by exact ⟨rfl, rfl⟩), by rw [ht]; exact hP, hD⟩, hS.F ht⟩) hS.2.2 dX6_groups_20
set_option maxHeartbeats 1000000 in
set_option maxRecDepth 100000 in
theorem cM_rows_t (l : Launch) (D : va_G) (cI cL cQ : ClassId) (g : Nat) (mo : Nat) (q1 : Nat) (q3 : Nat) (q4 : Nat) (q5 : Nat) (q6 : Nat) (q11 : Nat) (x : Int32) (y : Int32) (sz : Nat) : Met l yX6_rows wsX6_rows ({ frames := 1, cells := 0, slots := 0, locals := 21 }) (jw_P D vwCl (jT cI cL cQ) cL cQ [.ref mo, .int x, .int y] [(mo, .inr (6, [.int 0, .ref q1, .int (nI g), .ref q3, .ref q4, .ref q5, .ref q6, .int 0, .int 0, .int 0, .long 0, .ref q11, .int 0, .long 0, .long 0]))] sz) (va_Qi (fun (r : Int32) (u : va_W) => r = 0 ∧ u = [(mo, .inr (6, [.int 1, .ref q1, .int (nI g), .ref q3, .ref q4, .ref q5, .ref q6, .int 0, .int 0, .int 0, .long 0, .ref q11, .int 0, .long 0, .long 0]))]) (jw_B D vwCl (va_A [(mo, .inr (6, [.int 0, .ref q1, .int (nI g), .ref q3, .ref q4, .ref q5, .ref q6, .int 0, .int 0, .int 0, .long 0, .ref q11, .int 0, .long 0, .long 0]))] sz) (fun u : va_W => u)) (va_A [(mo, .inr (6, [.int 0, .ref q1, .int (nI g), .ref q3, .ref q4, .ref q5, .ref q6, .int 0, .int 0, .int 0, .long 0, .ref q11, .int 0, .long 0, .long 0]))] sz)) 0 0 (va_A [(mo, .inr (6, [.int 0, .ref q1, .int (nI g), .ref q3, .ref q4, .ref q5, .ref q6, .int 0, .int 0, .int 0, .long 0, .ref q11, .int 0, .long 0, .long 0]))] sz) := by
  refine Met.ofW (cc := cX6_rows) (maxL := 6) (ret := (some .int)) (by decide) rfl ?_
  intro p e s m args below meth c s₁ B hml hv
  obtain ⟨rfl, hsz, hP, hK, hN, hD0⟩ := hv
  have hx := B.exec
  have hb := B.bytes
  have hr := B.returns
  have hts := atoms_spec (ws := wsX6_rows) B.pre
  have hown : s.vm.findClass RX6 = some m.cls := findClass_of_methodNamed B.named
  have hlocks := B.notSynchronized
  subst hsz
  have hD := hD0.self (sz := s.heap.size)
  generalize hAe : va_A [(mo, .inr (6, [.int 0, .ref q1, .int (nI g), .ref q3, .ref q4, .ref q5, .ref q6, .int 0, .int 0, .int 0, .long 0, .ref q11, .int 0, .long 0, .long 0]))] s.heap.size = A at hD ⊢
  have hA : ∀ q : Nat, s.heap.size ≤ q → A q := fun q h => by rw [← hAe]; exact Or.inr h
  have hS : va_S A s.heap s.heap [] := va_S.rf
  have hl := lv_entry ([.ref mo, .int x, .int y]) (n := 6) (Nat.le_of_ble_eq_true rfl)
  rw [lg_entry_eq]
  generalize (lg_sl ([.ref mo, .int x, .int y]) ++ List.replicate (6 - (lg_sl ([.ref mo, .int x, .int y])).length) Slot.unset).toArray = ls at hl ⊢
  have hl : lv_has ls 6 [(0, .ref mo), (1, .int x), (2, .int y)] := hl
  refine lv_aload_n hx hb dX6_rows_0 rfl (lv_at hl 0 rfl) ?_
  refine lv_aload_n hx hb dX6_rows_1 rfl (lv_at hl 0 rfl) ?_
  refine va_get (D := D) (ci := 6) (v := .int 0) (C := RX6) (T := TX6) (N := 15) hx hb hts (by decide +kernel) hown hK hP 0 rfl rfl 7 (by decide) (hts (.fieldLink RX6 43 "JoinDeskModel" "prepared" "Z") (by decide +kernel)) (fun _ h9 => h9) rfl dX6_rows_2 ?_
  refine lv_if_eq (tgt := 12) hx hb dX6_rows_5 (by decide) (fun c_1 => ?_) (fun c_1 => absurd c_1 (by decide))
  refine lv_iconst (v := 1) hx hb dX6_rows_12 (by decide) ?_
  refine jw_i (wr := []) (va_runV (As := [.int 1]) (rest := []) ⟨hx, hb, hml, hown, hts⟩ (cM_refuses_1 l D cI cL cQ mo 0 q1 (nI g) q3 q4 q5 q6 0 0 0 0 q11 0 0 0 _) (cwV 1 hts gX6_rows_X6_refuses rfl rfl rfl (by decide +kernel) ⟨Nat.le_of_ble_eq_true rfl, Nat.le_of_ble_eq_true rfl⟩) (jw_V hK hN hP hD [0] (by decide) rfl 6 0 rfl rfl rfl) rfl rfl hl.1 rfl (lv_room (Nat.le_of_ble_eq_true rfl)) dX6_rows_13 ⟨Nat.le_of_ble_eq_true rfl, Nat.le_of_ble_eq_true rfl⟩) hP hD hS hA [0] [] rfl rfl (by decide) (by decide) (fun r u H locs f_2 hP hD hS => ?_)
  obtain ⟨rfl, rfl⟩ := f_2
  have hP : va_P D vwCl [(mo, .inr (6, [.int 1, .ref q1, .int (nI g), .ref q3, .ref q4, .ref q5, .ref q6, .int 0, .int 0, .int 0, .long 0, .ref q11, .int 0, .long 0, .long 0]))] H := hP
  have hD : va_D A [(mo, .inr (6, [.int 1, .ref q1, .int (nI g), .ref q3, .ref q4, .ref q5, .ref q6, .int 0, .int 0, .int 0, .long 0, .ref q11, .int 0, .long 0, .long 0]))] := hD
  refine lv_if_eq (tgt := 21) hx hb dX6_rows_16 (by decide) (fun c_3 => absurd c_3 (by decide)) (fun c_3 => ?_)
  refine lv_iconst (v := 0) hx hb dX6_rows_19 (by decide) ?_
  refine W.widen (k := 0) (n := 0) (by omega) (by omega) ?_
  exact W.iret (v := 0) hx hb hr (fun t ht hW => ⟨⟨0, [(mo, .inr (6, [.int 1, .ref q1, .int (nI g), .ref q3, .ref q4, .ref q5, .ref q6, .int 0, .int 0, .int 0, .long 0, .ref q11, .int 0, .long 0, .long 0]))], rfl, (by exact ⟨rfl, rfl⟩), by rw [ht]; exact hP, hD⟩, hS.F ht⟩) hS.2.2 dX6_rows_20
set_option maxHeartbeats 1000000 in
set_option maxRecDepth 100000 in
theorem cM_rewind_t (l : Launch) (D : va_G) (cI cL cQ : ClassId) (g : Nat) (mo : Nat) (q1 : Nat) (q3 : Nat) (q4 : Nat) (q5 : Nat) (q6 : Nat) (q11 : Nat) (sz : Nat) : Met l yX6_rewind wsX6_rewind ({ frames := 1, cells := 0, slots := 0, locals := 21 }) (jw_P D vwCl (jT cI cL cQ) cL cQ [.ref mo] [(mo, .inr (6, [.int 0, .ref q1, .int (nI g), .ref q3, .ref q4, .ref q5, .ref q6, .int 0, .int 0, .int 0, .long 0, .ref q11, .int 0, .long 0, .long 0]))] sz) (va_Qv (fun u : va_W => u = [(mo, .inr (6, [.int 1, .ref q1, .int (nI g), .ref q3, .ref q4, .ref q5, .ref q6, .int 0, .int 0, .int 0, .long 0, .ref q11, .int 0, .long 0, .long 0]))]) (jw_B D vwCl (va_A [(mo, .inr (6, [.int 0, .ref q1, .int (nI g), .ref q3, .ref q4, .ref q5, .ref q6, .int 0, .int 0, .int 0, .long 0, .ref q11, .int 0, .long 0, .long 0]))] sz) (fun u : va_W => u)) (va_A [(mo, .inr (6, [.int 0, .ref q1, .int (nI g), .ref q3, .ref q4, .ref q5, .ref q6, .int 0, .int 0, .int 0, .long 0, .ref q11, .int 0, .long 0, .long 0]))] sz)) 0 0 (va_A [(mo, .inr (6, [.int 0, .ref q1, .int (nI g), .ref q3, .ref q4, .ref q5, .ref q6, .int 0, .int 0, .int 0, .long 0, .ref q11, .int 0, .long 0, .long 0]))] sz) := by
  refine Met.ofW (cc := cX6_rewind) (maxL := 1) (ret := none) (by decide) rfl ?_
  intro p e s m args below meth c s₁ B hml hv
  obtain ⟨rfl, hsz, hP, hK, hN, hD0⟩ := hv
  have hx := B.exec
  have hb := B.bytes
  have hr := B.returns
  have hts := atoms_spec (ws := wsX6_rewind) B.pre
  have hown : s.vm.findClass RX6 = some m.cls := findClass_of_methodNamed B.named
  have hlocks := B.notSynchronized
  subst hsz
  have hD := hD0.self (sz := s.heap.size)
  generalize hAe : va_A [(mo, .inr (6, [.int 0, .ref q1, .int (nI g), .ref q3, .ref q4, .ref q5, .ref q6, .int 0, .int 0, .int 0, .long 0, .ref q11, .int 0, .long 0, .long 0]))] s.heap.size = A at hD ⊢
  have hA : ∀ q : Nat, s.heap.size ≤ q → A q := fun q h => by rw [← hAe]; exact Or.inr h
  have hS : va_S A s.heap s.heap [] := va_S.rf
  have hl := lv_entry ([.ref mo]) (n := 1) (Nat.le_of_ble_eq_true rfl)
  rw [lg_entry_eq]
  generalize (lg_sl ([.ref mo]) ++ List.replicate (1 - (lg_sl ([.ref mo])).length) Slot.unset).toArray = ls at hl ⊢
  have hl : lv_has ls 1 [(0, .ref mo)] := hl
  refine lv_aload_n hx hb dX6_rewind_0 rfl (lv_at hl 0 rfl) ?_
  refine lv_aload_n hx hb dX6_rewind_1 rfl (lv_at hl 0 rfl) ?_
  refine va_get (D := D) (ci := 6) (v := .int 0) (C := RX6) (T := TX6) (N := 15) hx hb hts (by decide +kernel) hown hK hP 0 rfl rfl 7 (by decide) (hts (.fieldLink RX6 43 "JoinDeskModel" "prepared" "Z") (by decide +kernel)) (fun _ h9 => h9) rfl dX6_rewind_2 ?_
  refine lv_if_eq (tgt := 12) hx hb dX6_rewind_5 (by decide) (fun c_1 => ?_) (fun c_1 => absurd c_1 (by decide))
  refine lv_iconst (v := 1) hx hb dX6_rewind_12 (by decide) ?_
  refine jw_i (wr := []) (va_runV (As := [.int 1]) (rest := []) ⟨hx, hb, hml, hown, hts⟩ (cM_refuses_1 l D cI cL cQ mo 0 q1 (nI g) q3 q4 q5 q6 0 0 0 0 q11 0 0 0 _) (cwV 1 hts gX6_rewind_X6_refuses rfl rfl rfl (by decide +kernel) ⟨Nat.le_of_ble_eq_true rfl, Nat.le_of_ble_eq_true rfl⟩) (jw_V hK hN hP hD [0] (by decide) rfl 6 0 rfl rfl rfl) rfl rfl hl.1 rfl (lv_room (Nat.le_of_ble_eq_true rfl)) dX6_rewind_13 ⟨Nat.le_of_ble_eq_true rfl, Nat.le_of_ble_eq_true rfl⟩) hP hD hS hA [0] [] rfl rfl (by decide) (by decide) (fun r u H locs f_2 hP hD hS => ?_)
  obtain ⟨rfl, rfl⟩ := f_2
  have hP : va_P D vwCl [(mo, .inr (6, [.int 1, .ref q1, .int (nI g), .ref q3, .ref q4, .ref q5, .ref q6, .int 0, .int 0, .int 0, .long 0, .ref q11, .int 0, .long 0, .long 0]))] H := hP
  have hD : va_D A [(mo, .inr (6, [.int 1, .ref q1, .int (nI g), .ref q3, .ref q4, .ref q5, .ref q6, .int 0, .int 0, .int 0, .long 0, .ref q11, .int 0, .long 0, .long 0]))] := hD
  refine lv_if_eq (tgt := 20) hx hb dX6_rewind_16 (by decide) (fun c_3 => absurd c_3 (by decide)) (fun c_3 => ?_)
  refine W.widen (k := 0) (n := 0) (by omega) (by omega) ?_
  exact W.vret hx hb hr (fun t ht hW => ⟨⟨[(mo, .inr (6, [.int 1, .ref q1, .int (nI g), .ref q3, .ref q4, .ref q5, .ref q6, .int 0, .int 0, .int 0, .long 0, .ref q11, .int 0, .long 0, .long 0]))], rfl, (by exact rfl), by rw [ht]; exact hP, hD⟩, hS.F ht⟩) hS.2.2 dX6_rewind_19
set_option maxHeartbeats 1000000 in
set_option maxRecDepth 100000 in
theorem cM_count_a (l : Launch) (D : va_G) (cI cL cQ : ClassId) (g : Nat) (mo : Nat) (q1 : Nat) (q3 : Nat) (q4 : Nat) (q5 : Nat) (q6 : Nat) (q11 : Nat) (x : Int32) (sz : Nat) (h1 : x < 0 ∨ 3 < x) : Met l yX6_count wsX6_count ({ frames := 1, cells := 0, slots := 0, locals := 21 }) (jw_P D vwCl (jT cI cL cQ) cL cQ [.ref mo, .int x] [(mo, .inr (6, [.int 0, .ref q1, .int (nI g), .ref q3, .ref q4, .ref q5, .ref q6, .int 0, .int 0, .int 0, .long 0, .ref q11, .int 0, .long 0, .long 0]))] sz) (va_Ql (fun (r : Int64) (u : va_W) => r = 0 ∧ u = [(mo, .inr (6, [.int 1, .ref q1, .int (nI g), .ref q3, .ref q4, .ref q5, .ref q6, .int 0, .int 0, .int 0, .long 0, .ref q11, .int 0, .long 0, .long 0]))]) (jw_B D vwCl (va_A [(mo, .inr (6, [.int 0, .ref q1, .int (nI g), .ref q3, .ref q4, .ref q5, .ref q6, .int 0, .int 0, .int 0, .long 0, .ref q11, .int 0, .long 0, .long 0]))] sz) (fun u : va_W => u)) (va_A [(mo, .inr (6, [.int 0, .ref q1, .int (nI g), .ref q3, .ref q4, .ref q5, .ref q6, .int 0, .int 0, .int 0, .long 0, .ref q11, .int 0, .long 0, .long 0]))] sz)) 0 0 (va_A [(mo, .inr (6, [.int 0, .ref q1, .int (nI g), .ref q3, .ref q4, .ref q5, .ref q6, .int 0, .int 0, .int 0, .long 0, .ref q11, .int 0, .long 0, .long 0]))] sz) := by
  refine Met.ofW (cc := cX6_count) (maxL := 2) (ret := (some .long)) (by decide) rfl ?_
  intro p e s m args below meth c s₁ B hml hv
  obtain ⟨rfl, hsz, hP, hK, hN, hD0⟩ := hv
  have hx := B.exec
  have hb := B.bytes
  have hr := B.returns
  have hts := atoms_spec (ws := wsX6_count) B.pre
  have hown : s.vm.findClass RX6 = some m.cls := findClass_of_methodNamed B.named
  have hlocks := B.notSynchronized
  subst hsz
  have hD := hD0.self (sz := s.heap.size)
  generalize hAe : va_A [(mo, .inr (6, [.int 0, .ref q1, .int (nI g), .ref q3, .ref q4, .ref q5, .ref q6, .int 0, .int 0, .int 0, .long 0, .ref q11, .int 0, .long 0, .long 0]))] s.heap.size = A at hD ⊢
  have hA : ∀ q : Nat, s.heap.size ≤ q → A q := fun q h => by rw [← hAe]; exact Or.inr h
  have hS : va_S A s.heap s.heap [] := va_S.rf
  have hl := lv_entry ([.ref mo, .int x]) (n := 2) (Nat.le_of_ble_eq_true rfl)
  rw [lg_entry_eq]
  generalize (lg_sl ([.ref mo, .int x]) ++ List.replicate (2 - (lg_sl ([.ref mo, .int x])).length) Slot.unset).toArray = ls at hl ⊢
  have hl : lv_has ls 2 [(0, .ref mo), (1, .int x)] := hl
  refine lv_aload_n hx hb dX6_count_0 rfl (lv_at hl 0 rfl) ?_
  refine lv_iload_n hx hb dX6_count_1 rfl (lv_at hl 1 rfl) ?_
  refine lv_if_lt (tgt := 10) hx hb dX6_count_2 (by decide) (fun c_1 => ?_) (fun c_1 => ?_)
  · refine lv_iconst (v := 1) hx hb dX6_count_10 (by decide) ?_
    refine lv_goto (tgt := 26) hx hb dX6_count_11 (by decide) ?_
    refine jw_i (wr := []) (va_runV (As := [.int 1]) (rest := []) ⟨hx, hb, hml, hown, hts⟩ (cM_refuses_1 l D cI cL cQ mo 0 q1 (nI g) q3 q4 q5 q6 0 0 0 0 q11 0 0 0 _) (cwV 1 hts gX6_count_X6_refuses rfl rfl rfl (by decide +kernel) ⟨Nat.le_of_ble_eq_true rfl, Nat.le_of_ble_eq_true rfl⟩) (jw_V hK hN hP hD [0] (by decide) rfl 6 0 rfl rfl rfl) rfl rfl hl.1 rfl (lv_room (Nat.le_of_ble_eq_true rfl)) dX6_count_26 ⟨Nat.le_of_ble_eq_true rfl, Nat.le_of_ble_eq_true rfl⟩) hP hD hS hA [0] [] rfl rfl (by decide) (by decide) (fun r u H locs f_2 hP hD hS => ?_)
    obtain ⟨rfl, rfl⟩ := f_2
    have hP : va_P D vwCl [(mo, .inr (6, [.int 1, .ref q1, .int (nI g), .ref q3, .ref q4, .ref q5, .ref q6, .int 0, .int 0, .int 0, .long 0, .ref q11, .int 0, .long 0, .long 0]))] H := hP
    have hD : va_D A [(mo, .inr (6, [.int 1, .ref q1, .int (nI g), .ref q3, .ref q4, .ref q5, .ref q6, .int 0, .int 0, .int 0, .long 0, .ref q11, .int 0, .long 0, .long 0]))] := hD
    refine lv_if_eq (tgt := 34) hx hb dX6_count_29 (by decide) (fun c_3 => absurd c_3 (by decide)) (fun c_3 => ?_)
    refine lv_lconst (v := 0) hx hb dX6_count_32 (by decide) ?_
    refine W.widen (k := 0) (n := 0) (by omega) (by omega) ?_
    exact W.lret (v := 0) hx hb hr (fun t ht hW => ⟨⟨0, [(mo, .inr (6, [.int 1, .ref q1, .int (nI g), .ref q3, .ref q4, .ref q5, .ref q6, .int 0, .int 0, .int 0, .long 0, .ref q11, .int 0, .long 0, .long 0]))], rfl, (by exact ⟨rfl, rfl⟩), by rw [ht]; exact hP, hD⟩, hS.F ht⟩) hS.2.2 dX6_count_33
  · refine lv_iload_n hx hb dX6_count_5 rfl (lv_at hl 1 rfl) ?_
    refine lv_iconst (v := 3) hx hb dX6_count_6 (by decide) ?_
    refine lv_icmp_le (tgt := 14) hx hb dX6_count_7 (by decide) (fun c_4 => absurd c_4 (by exact j_nle (h1.resolve_left (by assumption)))) (fun c_4 => ?_)
    refine lv_iconst (v := 1) hx hb dX6_count_10 (by decide) ?_
    refine lv_goto (tgt := 26) hx hb dX6_count_11 (by decide) ?_
    refine jw_i (wr := []) (va_runV (As := [.int 1]) (rest := []) ⟨hx, hb, hml, hown, hts⟩ (cM_refuses_1 l D cI cL cQ mo 0 q1 (nI g) q3 q4 q5 q6 0 0 0 0 q11 0 0 0 _) (cwV 1 hts gX6_count_X6_refuses rfl rfl rfl (by decide +kernel) ⟨Nat.le_of_ble_eq_true rfl, Nat.le_of_ble_eq_true rfl⟩) (jw_V hK hN hP hD [0] (by decide) rfl 6 0 rfl rfl rfl) rfl rfl hl.1 rfl (lv_room (Nat.le_of_ble_eq_true rfl)) dX6_count_26 ⟨Nat.le_of_ble_eq_true rfl, Nat.le_of_ble_eq_true rfl⟩) hP hD hS hA [0] [] rfl rfl (by decide) (by decide) (fun r u H locs f_5 hP hD hS => ?_)
    obtain ⟨rfl, rfl⟩ := f_5
    have hP : va_P D vwCl [(mo, .inr (6, [.int 1, .ref q1, .int (nI g), .ref q3, .ref q4, .ref q5, .ref q6, .int 0, .int 0, .int 0, .long 0, .ref q11, .int 0, .long 0, .long 0]))] H := hP
    have hD : va_D A [(mo, .inr (6, [.int 1, .ref q1, .int (nI g), .ref q3, .ref q4, .ref q5, .ref q6, .int 0, .int 0, .int 0, .long 0, .ref q11, .int 0, .long 0, .long 0]))] := hD
    refine lv_if_eq (tgt := 34) hx hb dX6_count_29 (by decide) (fun c_6 => absurd c_6 (by decide)) (fun c_6 => ?_)
    refine lv_lconst (v := 0) hx hb dX6_count_32 (by decide) ?_
    refine W.widen (k := 0) (n := 0) (by omega) (by omega) ?_
    exact W.lret (v := 0) hx hb hr (fun t ht hW => ⟨⟨0, [(mo, .inr (6, [.int 1, .ref q1, .int (nI g), .ref q3, .ref q4, .ref q5, .ref q6, .int 0, .int 0, .int 0, .long 0, .ref q11, .int 0, .long 0, .long 0]))], rfl, (by exact ⟨rfl, rfl⟩), by rw [ht]; exact hP, hD⟩, hS.F ht⟩) hS.2.2 dX6_count_33
set_option maxHeartbeats 1000000 in
set_option maxRecDepth 100000 in
theorem cM_count_s (l : Launch) (D : va_G) (cI cL cQ : ClassId) (g : Nat) (mo : Nat) (q1 : Nat) (q3 : Nat) (q4 : Nat) (q5 : Nat) (q6 : Nat) (q11 : Nat) (x : Int32) (sz : Nat) (h1 : ¬ x < 0) (h2 : x ≤ 3) : Met l yX6_count wsX6_count ({ frames := 1, cells := 0, slots := 0, locals := 21 }) (jw_P D vwCl (jT cI cL cQ) cL cQ [.ref mo, .int x] [(mo, .inr (6, [.int 0, .ref q1, .int (nI g), .ref q3, .ref q4, .ref q5, .ref q6, .int 0, .int 0, .int 0, .long 0, .ref q11, .int 0, .long 0, .long 0]))] sz) (va_Ql (fun (r : Int64) (u : va_W) => r = 0 ∧ u = [(mo, .inr (6, [.int 2, .ref q1, .int (nI g), .ref q3, .ref q4, .ref q5, .ref q6, .int 0, .int 0, .int 0, .long 0, .ref q11, .int 0, .long 0, .long 0]))]) (jw_B D vwCl (va_A [(mo, .inr (6, [.int 0, .ref q1, .int (nI g), .ref q3, .ref q4, .ref q5, .ref q6, .int 0, .int 0, .int 0, .long 0, .ref q11, .int 0, .long 0, .long 0]))] sz) (fun u : va_W => u)) (va_A [(mo, .inr (6, [.int 0, .ref q1, .int (nI g), .ref q3, .ref q4, .ref q5, .ref q6, .int 0, .int 0, .int 0, .long 0, .ref q11, .int 0, .long 0, .long 0]))] sz)) 0 0 (va_A [(mo, .inr (6, [.int 0, .ref q1, .int (nI g), .ref q3, .ref q4, .ref q5, .ref q6, .int 0, .int 0, .int 0, .long 0, .ref q11, .int 0, .long 0, .long 0]))] sz) := by
  refine Met.ofW (cc := cX6_count) (maxL := 2) (ret := (some .long)) (by decide) rfl ?_
  intro p e s m args below meth c s₁ B hml hv
  obtain ⟨rfl, hsz, hP, hK, hN, hD0⟩ := hv
  have hx := B.exec
  have hb := B.bytes
  have hr := B.returns
  have hts := atoms_spec (ws := wsX6_count) B.pre
  have hown : s.vm.findClass RX6 = some m.cls := findClass_of_methodNamed B.named
  have hlocks := B.notSynchronized
  subst hsz
  have hD := hD0.self (sz := s.heap.size)
  generalize hAe : va_A [(mo, .inr (6, [.int 0, .ref q1, .int (nI g), .ref q3, .ref q4, .ref q5, .ref q6, .int 0, .int 0, .int 0, .long 0, .ref q11, .int 0, .long 0, .long 0]))] s.heap.size = A at hD ⊢
  have hA : ∀ q : Nat, s.heap.size ≤ q → A q := fun q h => by rw [← hAe]; exact Or.inr h
  have hS : va_S A s.heap s.heap [] := va_S.rf
  have hl := lv_entry ([.ref mo, .int x]) (n := 2) (Nat.le_of_ble_eq_true rfl)
  rw [lg_entry_eq]
  generalize (lg_sl ([.ref mo, .int x]) ++ List.replicate (2 - (lg_sl ([.ref mo, .int x])).length) Slot.unset).toArray = ls at hl ⊢
  have hl : lv_has ls 2 [(0, .ref mo), (1, .int x)] := hl
  refine lv_aload_n hx hb dX6_count_0 rfl (lv_at hl 0 rfl) ?_
  refine lv_iload_n hx hb dX6_count_1 rfl (lv_at hl 1 rfl) ?_
  refine lv_if_lt (tgt := 10) hx hb dX6_count_2 (by decide) (fun c_1 => absurd c_1 (by exact h1)) (fun c_1 => ?_)
  refine lv_iload_n hx hb dX6_count_5 rfl (lv_at hl 1 rfl) ?_
  refine lv_iconst (v := 3) hx hb dX6_count_6 (by decide) ?_
  refine lv_icmp_le (tgt := 14) hx hb dX6_count_7 (by decide) (fun c_2 => ?_) (fun c_2 => absurd c_2 (by exact fun h => h h2))
  refine lv_aload_n hx hb dX6_count_14 rfl (lv_at hl 0 rfl) ?_
  refine va_get (D := D) (ci := 6) (v := .int 0) (C := RX6) (T := TX6) (N := 15) hx hb hts (by decide +kernel) hown hK hP 0 rfl rfl 7 (by decide) (hts (.fieldLink RX6 43 "JoinDeskModel" "prepared" "Z") (by decide +kernel)) (fun _ h9 => h9) rfl dX6_count_15 ?_
  refine lv_if_eq (tgt := 25) hx hb dX6_count_18 (by decide) (fun c_3 => ?_) (fun c_3 => absurd c_3 (by decide))
  refine lv_iconst (v := 2) hx hb dX6_count_25 (by decide) ?_
  refine jw_i (wr := []) (va_runV (As := [.int 2]) (rest := []) ⟨hx, hb, hml, hown, hts⟩ (cM_refuses_2 l D cI cL cQ mo 0 q1 (nI g) q3 q4 q5 q6 0 0 0 0 q11 0 0 0 _) (cwV 1 hts gX6_count_X6_refuses rfl rfl rfl (by decide +kernel) ⟨Nat.le_of_ble_eq_true rfl, Nat.le_of_ble_eq_true rfl⟩) (jw_V hK hN hP hD [0] (by decide) rfl 6 0 rfl rfl rfl) rfl rfl hl.1 rfl (lv_room (Nat.le_of_ble_eq_true rfl)) dX6_count_26 ⟨Nat.le_of_ble_eq_true rfl, Nat.le_of_ble_eq_true rfl⟩) hP hD hS hA [0] [] rfl rfl (by decide) (by decide) (fun r u H locs f_4 hP hD hS => ?_)
  obtain ⟨rfl, rfl⟩ := f_4
  have hP : va_P D vwCl [(mo, .inr (6, [.int 2, .ref q1, .int (nI g), .ref q3, .ref q4, .ref q5, .ref q6, .int 0, .int 0, .int 0, .long 0, .ref q11, .int 0, .long 0, .long 0]))] H := hP
  have hD : va_D A [(mo, .inr (6, [.int 2, .ref q1, .int (nI g), .ref q3, .ref q4, .ref q5, .ref q6, .int 0, .int 0, .int 0, .long 0, .ref q11, .int 0, .long 0, .long 0]))] := hD
  refine lv_if_eq (tgt := 34) hx hb dX6_count_29 (by decide) (fun c_5 => absurd c_5 (by decide)) (fun c_5 => ?_)
  refine lv_lconst (v := 0) hx hb dX6_count_32 (by decide) ?_
  refine W.widen (k := 0) (n := 0) (by omega) (by omega) ?_
  exact W.lret (v := 0) hx hb hr (fun t ht hW => ⟨⟨0, [(mo, .inr (6, [.int 2, .ref q1, .int (nI g), .ref q3, .ref q4, .ref q5, .ref q6, .int 0, .int 0, .int 0, .long 0, .ref q11, .int 0, .long 0, .long 0]))], rfl, (by exact ⟨rfl, rfl⟩), by rw [ht]; exact hP, hD⟩, hS.F ht⟩) hS.2.2 dX6_count_33
set_option maxHeartbeats 1000000 in
set_option maxRecDepth 100000 in
theorem cM_group_a (l : Launch) (D : va_G) (cI cL cQ : ClassId) (g : Nat) (mo : Nat) (q1 : Nat) (q3 : Nat) (q4 : Nat) (q5 : Nat) (q6 : Nat) (q11 : Nat) (x : Int32) (y : Int32) (sz : Nat) (h1 : x < 0 ∨ (y < 0 ∨ 4 < y)) : Met l yX6_group wsX6_group ({ frames := 1, cells := 0, slots := 0, locals := 21 }) (jw_P D vwCl (jT cI cL cQ) cL cQ [.ref mo, .int x, .int y] [(mo, .inr (6, [.int 0, .ref q1, .int (nI g), .ref q3, .ref q4, .ref q5, .ref q6, .int 0, .int 0, .int 0, .long 0, .ref q11, .int 0, .long 0, .long 0]))] sz) (va_Ql (fun (r : Int64) (u : va_W) => r = 0 ∧ u = [(mo, .inr (6, [.int 1, .ref q1, .int (nI g), .ref q3, .ref q4, .ref q5, .ref q6, .int 0, .int 0, .int 0, .long 0, .ref q11, .int 0, .long 0, .long 0]))]) (jw_B D vwCl (va_A [(mo, .inr (6, [.int 0, .ref q1, .int (nI g), .ref q3, .ref q4, .ref q5, .ref q6, .int 0, .int 0, .int 0, .long 0, .ref q11, .int 0, .long 0, .long 0]))] sz) (fun u : va_W => u)) (va_A [(mo, .inr (6, [.int 0, .ref q1, .int (nI g), .ref q3, .ref q4, .ref q5, .ref q6, .int 0, .int 0, .int 0, .long 0, .ref q11, .int 0, .long 0, .long 0]))] sz)) 0 0 (va_A [(mo, .inr (6, [.int 0, .ref q1, .int (nI g), .ref q3, .ref q4, .ref q5, .ref q6, .int 0, .int 0, .int 0, .long 0, .ref q11, .int 0, .long 0, .long 0]))] sz) := by
  refine Met.ofW (cc := cX6_group) (maxL := 13) (ret := (some .long)) (by decide) rfl ?_
  intro p e s m args below meth c s₁ B hml hv
  obtain ⟨rfl, hsz, hP, hK, hN, hD0⟩ := hv
  have hx := B.exec
  have hb := B.bytes
  have hr := B.returns
  have hts := atoms_spec (ws := wsX6_group) B.pre
  have hown : s.vm.findClass RX6 = some m.cls := findClass_of_methodNamed B.named
  have hlocks := B.notSynchronized
  subst hsz
  have hD := hD0.self (sz := s.heap.size)
  generalize hAe : va_A [(mo, .inr (6, [.int 0, .ref q1, .int (nI g), .ref q3, .ref q4, .ref q5, .ref q6, .int 0, .int 0, .int 0, .long 0, .ref q11, .int 0, .long 0, .long 0]))] s.heap.size = A at hD ⊢
  have hA : ∀ q : Nat, s.heap.size ≤ q → A q := fun q h => by rw [← hAe]; exact Or.inr h
  have hS : va_S A s.heap s.heap [] := va_S.rf
  have hl := lv_entry ([.ref mo, .int x, .int y]) (n := 13) (Nat.le_of_ble_eq_true rfl)
  rw [lg_entry_eq]
  generalize (lg_sl ([.ref mo, .int x, .int y]) ++ List.replicate (13 - (lg_sl ([.ref mo, .int x, .int y])).length) Slot.unset).toArray = ls at hl ⊢
  have hl : lv_has ls 13 [(0, .ref mo), (1, .int x), (2, .int y)] := hl
  refine lv_aload_n hx hb dX6_group_0 rfl (lv_at hl 0 rfl) ?_
  refine va_get (D := D) (ci := 6) (v := .int 0) (C := RX6) (T := TX6) (N := 15) hx hb hts (by decide +kernel) hown hK hP 0 rfl rfl 7 (by decide) (hts (.fieldLink RX6 43 "JoinDeskModel" "prepared" "Z") (by decide +kernel)) (fun _ h9 => h9) rfl dX6_group_1 ?_
  refine lv_if_eq (tgt := 18) hx hb dX6_group_4 (by decide) (fun c_1 => ?_) (fun c_1 => absurd c_1 (by decide))
  refine lv_iconst (v := 0) hx hb dX6_group_18 (by decide) ?_
  refine lv_istore_n (lv' := [(3, .int 0), (0, .ref mo), (1, .int x), (2, .int y)]) hx hb dX6_group_19 rfl hl (by decide) rfl (fun ls hl => ?_)
  refine lv_aload_n hx hb dX6_group_20 rfl (lv_at hl 1 rfl) ?_
  refine lv_iload_n hx hb dX6_group_21 rfl (lv_at hl 2 rfl) ?_
  refine lv_if_lt (tgt := 47) hx hb dX6_group_22 (by decide) (fun c_2 => ?_) (fun c_2 => ?_)
  · refine lv_iconst (v := 1) hx hb dX6_group_47 (by decide) ?_
    refine lv_goto (tgt := 60) hx hb dX6_group_48 (by decide) ?_
    refine jw_i (wr := []) (va_runV (As := [.int 1]) (rest := []) ⟨hx, hb, hml, hown, hts⟩ (cM_refuses_1 l D cI cL cQ mo 0 q1 (nI g) q3 q4 q5 q6 0 0 0 0 q11 0 0 0 _) (cwV 1 hts gX6_group_X6_refuses rfl rfl rfl (by decide +kernel) ⟨Nat.le_of_ble_eq_true rfl, Nat.le_of_ble_eq_true rfl⟩) (jw_V hK hN hP hD [0] (by decide) rfl 6 0 rfl rfl rfl) rfl rfl hl.1 rfl (lv_room (Nat.le_of_ble_eq_true rfl)) dX6_group_60 ⟨Nat.le_of_ble_eq_true rfl, Nat.le_of_ble_eq_true rfl⟩) hP hD hS hA [0] [] rfl rfl (by decide) (by decide) (fun r u H locs f_3 hP hD hS => ?_)
    obtain ⟨rfl, rfl⟩ := f_3
    have hP : va_P D vwCl [(mo, .inr (6, [.int 1, .ref q1, .int (nI g), .ref q3, .ref q4, .ref q5, .ref q6, .int 0, .int 0, .int 0, .long 0, .ref q11, .int 0, .long 0, .long 0]))] H := hP
    have hD : va_D A [(mo, .inr (6, [.int 1, .ref q1, .int (nI g), .ref q3, .ref q4, .ref q5, .ref q6, .int 0, .int 0, .int 0, .long 0, .ref q11, .int 0, .long 0, .long 0]))] := hD
    refine lv_if_eq (tgt := 68) hx hb dX6_group_63 (by decide) (fun c_4 => absurd c_4 (by decide)) (fun c_4 => ?_)
    refine lv_lconst (v := 0) hx hb dX6_group_66 (by decide) ?_
    refine W.widen (k := 0) (n := 0) (by omega) (by omega) ?_
    exact W.lret (v := 0) hx hb hr (fun t ht hW => ⟨⟨0, [(mo, .inr (6, [.int 1, .ref q1, .int (nI g), .ref q3, .ref q4, .ref q5, .ref q6, .int 0, .int 0, .int 0, .long 0, .ref q11, .int 0, .long 0, .long 0]))], rfl, (by exact ⟨rfl, rfl⟩), by rw [ht]; exact hP, hD⟩, hS.F ht⟩) hS.2.2 dX6_group_67
  · refine lv_iload_n hx hb dX6_group_25 rfl (lv_at hl 3 rfl) ?_
    refine lv_if_lt (tgt := 47) hx hb dX6_group_26 (by decide) (fun c_5 => ?_) (fun c_5 => ?_)
    · refine lv_iconst (v := 1) hx hb dX6_group_47 (by decide) ?_
      refine lv_goto (tgt := 60) hx hb dX6_group_48 (by decide) ?_
      refine jw_i (wr := []) (va_runV (As := [.int 1]) (rest := []) ⟨hx, hb, hml, hown, hts⟩ (cM_refuses_1 l D cI cL cQ mo 0 q1 (nI g) q3 q4 q5 q6 0 0 0 0 q11 0 0 0 _) (cwV 1 hts gX6_group_X6_refuses rfl rfl rfl (by decide +kernel) ⟨Nat.le_of_ble_eq_true rfl, Nat.le_of_ble_eq_true rfl⟩) (jw_V hK hN hP hD [0] (by decide) rfl 6 0 rfl rfl rfl) rfl rfl hl.1 rfl (lv_room (Nat.le_of_ble_eq_true rfl)) dX6_group_60 ⟨Nat.le_of_ble_eq_true rfl, Nat.le_of_ble_eq_true rfl⟩) hP hD hS hA [0] [] rfl rfl (by decide) (by decide) (fun r u H locs f_6 hP hD hS => ?_)
      obtain ⟨rfl, rfl⟩ := f_6
      have hP : va_P D vwCl [(mo, .inr (6, [.int 1, .ref q1, .int (nI g), .ref q3, .ref q4, .ref q5, .ref q6, .int 0, .int 0, .int 0, .long 0, .ref q11, .int 0, .long 0, .long 0]))] H := hP
      have hD : va_D A [(mo, .inr (6, [.int 1, .ref q1, .int (nI g), .ref q3, .ref q4, .ref q5, .ref q6, .int 0, .int 0, .int 0, .long 0, .ref q11, .int 0, .long 0, .long 0]))] := hD
      refine lv_if_eq (tgt := 68) hx hb dX6_group_63 (by decide) (fun c_7 => absurd c_7 (by decide)) (fun c_7 => ?_)
      refine lv_lconst (v := 0) hx hb dX6_group_66 (by decide) ?_
      refine W.widen (k := 0) (n := 0) (by omega) (by omega) ?_
      exact W.lret (v := 0) hx hb hr (fun t ht hW => ⟨⟨0, [(mo, .inr (6, [.int 1, .ref q1, .int (nI g), .ref q3, .ref q4, .ref q5, .ref q6, .int 0, .int 0, .int 0, .long 0, .ref q11, .int 0, .long 0, .long 0]))], rfl, (by exact ⟨rfl, rfl⟩), by rw [ht]; exact hP, hD⟩, hS.F ht⟩) hS.2.2 dX6_group_67
    · refine lv_iload_n hx hb dX6_group_29 rfl (lv_at hl 3 rfl) ?_
      refine lv_iconst (v := 4) hx hb dX6_group_30 (by decide) ?_
      refine lv_icmp_gt (tgt := 47) hx hb dX6_group_31 (by decide) (fun c_8 => ?_) (fun c_8 => absurd c_8 (by exact fun h => h ((h1.resolve_left (by assumption)).resolve_left (by assumption))))
      refine lv_iconst (v := 1) hx hb dX6_group_47 (by decide) ?_
      refine lv_goto (tgt := 60) hx hb dX6_group_48 (by decide) ?_
      refine jw_i (wr := []) (va_runV (As := [.int 1]) (rest := []) ⟨hx, hb, hml, hown, hts⟩ (cM_refuses_1 l D cI cL cQ mo 0 q1 (nI g) q3 q4 q5 q6 0 0 0 0 q11 0 0 0 _) (cwV 1 hts gX6_group_X6_refuses rfl rfl rfl (by decide +kernel) ⟨Nat.le_of_ble_eq_true rfl, Nat.le_of_ble_eq_true rfl⟩) (jw_V hK hN hP hD [0] (by decide) rfl 6 0 rfl rfl rfl) rfl rfl hl.1 rfl (lv_room (Nat.le_of_ble_eq_true rfl)) dX6_group_60 ⟨Nat.le_of_ble_eq_true rfl, Nat.le_of_ble_eq_true rfl⟩) hP hD hS hA [0] [] rfl rfl (by decide) (by decide) (fun r u H locs f_9 hP hD hS => ?_)
      obtain ⟨rfl, rfl⟩ := f_9
      have hP : va_P D vwCl [(mo, .inr (6, [.int 1, .ref q1, .int (nI g), .ref q3, .ref q4, .ref q5, .ref q6, .int 0, .int 0, .int 0, .long 0, .ref q11, .int 0, .long 0, .long 0]))] H := hP
      have hD : va_D A [(mo, .inr (6, [.int 1, .ref q1, .int (nI g), .ref q3, .ref q4, .ref q5, .ref q6, .int 0, .int 0, .int 0, .long 0, .ref q11, .int 0, .long 0, .long 0]))] := hD
      refine lv_if_eq (tgt := 68) hx hb dX6_group_63 (by decide) (fun c_10 => absurd c_10 (by decide)) (fun c_10 => ?_)
      refine lv_lconst (v := 0) hx hb dX6_group_66 (by decide) ?_
      refine W.widen (k := 0) (n := 0) (by omega) (by omega) ?_
      exact W.lret (v := 0) hx hb hr (fun t ht hW => ⟨⟨0, [(mo, .inr (6, [.int 1, .ref q1, .int (nI g), .ref q3, .ref q4, .ref q5, .ref q6, .int 0, .int 0, .int 0, .long 0, .ref q11, .int 0, .long 0, .long 0]))], rfl, (by exact ⟨rfl, rfl⟩), by rw [ht]; exact hP, hD⟩, hS.F ht⟩) hS.2.2 dX6_group_67
set_option maxHeartbeats 1000000 in
set_option maxRecDepth 100000 in
theorem cM_group_s (l : Launch) (D : va_G) (cI cL cQ : ClassId) (g : Nat) (mo : Nat) (q1 : Nat) (q3 : Nat) (q4 : Nat) (q5 : Nat) (q6 : Nat) (q11 : Nat) (x : Int32) (y : Int32) (sz : Nat) (h1 : ¬ x < 0) (h2 : ¬ y < 0) (h3 : ¬ 4 < y) : Met l yX6_group wsX6_group ({ frames := 1, cells := 0, slots := 0, locals := 21 }) (jw_P D vwCl (jT cI cL cQ) cL cQ [.ref mo, .int x, .int y] [(mo, .inr (6, [.int 0, .ref q1, .int (nI g), .ref q3, .ref q4, .ref q5, .ref q6, .int 0, .int 0, .int 0, .long 0, .ref q11, .int 0, .long 0, .long 0]))] sz) (va_Ql (fun (r : Int64) (u : va_W) => r = 0 ∧ u = [(mo, .inr (6, [.int 2, .ref q1, .int (nI g), .ref q3, .ref q4, .ref q5, .ref q6, .int 0, .int 0, .int 0, .long 0, .ref q11, .int 0, .long 0, .long 0]))]) (jw_B D vwCl (va_A [(mo, .inr (6, [.int 0, .ref q1, .int (nI g), .ref q3, .ref q4, .ref q5, .ref q6, .int 0, .int 0, .int 0, .long 0, .ref q11, .int 0, .long 0, .long 0]))] sz) (fun u : va_W => u)) (va_A [(mo, .inr (6, [.int 0, .ref q1, .int (nI g), .ref q3, .ref q4, .ref q5, .ref q6, .int 0, .int 0, .int 0, .long 0, .ref q11, .int 0, .long 0, .long 0]))] sz)) 0 0 (va_A [(mo, .inr (6, [.int 0, .ref q1, .int (nI g), .ref q3, .ref q4, .ref q5, .ref q6, .int 0, .int 0, .int 0, .long 0, .ref q11, .int 0, .long 0, .long 0]))] sz) := by
  refine Met.ofW (cc := cX6_group) (maxL := 13) (ret := (some .long)) (by decide) rfl ?_
  intro p e s m args below meth c s₁ B hml hv
  obtain ⟨rfl, hsz, hP, hK, hN, hD0⟩ := hv
  have hx := B.exec
  have hb := B.bytes
  have hr := B.returns
  have hts := atoms_spec (ws := wsX6_group) B.pre
  have hown : s.vm.findClass RX6 = some m.cls := findClass_of_methodNamed B.named
  have hlocks := B.notSynchronized
  subst hsz
  have hD := hD0.self (sz := s.heap.size)
  generalize hAe : va_A [(mo, .inr (6, [.int 0, .ref q1, .int (nI g), .ref q3, .ref q4, .ref q5, .ref q6, .int 0, .int 0, .int 0, .long 0, .ref q11, .int 0, .long 0, .long 0]))] s.heap.size = A at hD ⊢
  have hA : ∀ q : Nat, s.heap.size ≤ q → A q := fun q h => by rw [← hAe]; exact Or.inr h
  have hS : va_S A s.heap s.heap [] := va_S.rf
  have hl := lv_entry ([.ref mo, .int x, .int y]) (n := 13) (Nat.le_of_ble_eq_true rfl)
  rw [lg_entry_eq]
  generalize (lg_sl ([.ref mo, .int x, .int y]) ++ List.replicate (13 - (lg_sl ([.ref mo, .int x, .int y])).length) Slot.unset).toArray = ls at hl ⊢
  have hl : lv_has ls 13 [(0, .ref mo), (1, .int x), (2, .int y)] := hl
  refine lv_aload_n hx hb dX6_group_0 rfl (lv_at hl 0 rfl) ?_
  refine va_get (D := D) (ci := 6) (v := .int 0) (C := RX6) (T := TX6) (N := 15) hx hb hts (by decide +kernel) hown hK hP 0 rfl rfl 7 (by decide) (hts (.fieldLink RX6 43 "JoinDeskModel" "prepared" "Z") (by decide +kernel)) (fun _ h9 => h9) rfl dX6_group_1 ?_
  refine lv_if_eq (tgt := 18) hx hb dX6_group_4 (by decide) (fun c_1 => ?_) (fun c_1 => absurd c_1 (by decide))
  refine lv_iconst (v := 0) hx hb dX6_group_18 (by decide) ?_
  refine lv_istore_n (lv' := [(3, .int 0), (0, .ref mo), (1, .int x), (2, .int y)]) hx hb dX6_group_19 rfl hl (by decide) rfl (fun ls hl => ?_)
  refine lv_aload_n hx hb dX6_group_20 rfl (lv_at hl 1 rfl) ?_
  refine lv_iload_n hx hb dX6_group_21 rfl (lv_at hl 2 rfl) ?_
  refine lv_if_lt (tgt := 47) hx hb dX6_group_22 (by decide) (fun c_2 => absurd c_2 (by exact h1)) (fun c_2 => ?_)
  refine lv_iload_n hx hb dX6_group_25 rfl (lv_at hl 3 rfl) ?_
  refine lv_if_lt (tgt := 47) hx hb dX6_group_26 (by decide) (fun c_3 => absurd c_3 (by exact h2)) (fun c_3 => ?_)
  refine lv_iload_n hx hb dX6_group_29 rfl (lv_at hl 3 rfl) ?_
  refine lv_iconst (v := 4) hx hb dX6_group_30 (by decide) ?_
  refine lv_icmp_gt (tgt := 47) hx hb dX6_group_31 (by decide) (fun c_4 => absurd c_4 (by exact h3)) (fun c_4 => ?_)
  refine lv_iload_n hx hb dX6_group_34 rfl (lv_at hl 0 rfl) ?_
  refine lv_if_eq (tgt := 51) hx hb dX6_group_35 (by decide) (fun c_5 => ?_) (fun c_5 => absurd c_5 (by decide))
  refine lv_iload_n hx hb dX6_group_51 rfl (lv_at hl 0 rfl) ?_
  refine lv_if_eq (tgt := 59) hx hb dX6_group_52 (by decide) (fun c_6 => ?_) (fun c_6 => absurd c_6 (by decide))
  refine lv_iconst (v := 2) hx hb dX6_group_59 (by decide) ?_
  refine jw_i (wr := []) (va_runV (As := [.int 2]) (rest := []) ⟨hx, hb, hml, hown, hts⟩ (cM_refuses_2 l D cI cL cQ mo 0 q1 (nI g) q3 q4 q5 q6 0 0 0 0 q11 0 0 0 _) (cwV 1 hts gX6_group_X6_refuses rfl rfl rfl (by decide +kernel) ⟨Nat.le_of_ble_eq_true rfl, Nat.le_of_ble_eq_true rfl⟩) (jw_V hK hN hP hD [0] (by decide) rfl 6 0 rfl rfl rfl) rfl rfl hl.1 rfl (lv_room (Nat.le_of_ble_eq_true rfl)) dX6_group_60 ⟨Nat.le_of_ble_eq_true rfl, Nat.le_of_ble_eq_true rfl⟩) hP hD hS hA [0] [] rfl rfl (by decide) (by decide) (fun r u H locs f_7 hP hD hS => ?_)
  obtain ⟨rfl, rfl⟩ := f_7
  have hP : va_P D vwCl [(mo, .inr (6, [.int 2, .ref q1, .int (nI g), .ref q3, .ref q4, .ref q5, .ref q6, .int 0, .int 0, .int 0, .long 0, .ref q11, .int 0, .long 0, .long 0]))] H := hP
  have hD : va_D A [(mo, .inr (6, [.int 2, .ref q1, .int (nI g), .ref q3, .ref q4, .ref q5, .ref q6, .int 0, .int 0, .int 0, .long 0, .ref q11, .int 0, .long 0, .long 0]))] := hD
  refine lv_if_eq (tgt := 68) hx hb dX6_group_63 (by decide) (fun c_8 => absurd c_8 (by decide)) (fun c_8 => ?_)
  refine lv_lconst (v := 0) hx hb dX6_group_66 (by decide) ?_
  refine W.widen (k := 0) (n := 0) (by omega) (by omega) ?_
  exact W.lret (v := 0) hx hb hr (fun t ht hW => ⟨⟨0, [(mo, .inr (6, [.int 2, .ref q1, .int (nI g), .ref q3, .ref q4, .ref q5, .ref q6, .int 0, .int 0, .int 0, .long 0, .ref q11, .int 0, .long 0, .long 0]))], rfl, (by exact ⟨rfl, rfl⟩), by rw [ht]; exact hP, hD⟩, hS.F ht⟩) hS.2.2 dX6_group_67
set_option maxHeartbeats 1000000 in
set_option maxRecDepth 100000 in
theorem cM_sorted_1 (l : Launch) (D : va_G) (cI cL cQ : ClassId) (g : Nat) (mo : Nat) (q1 : Nat) (q3 : Nat) (q4 : Nat) (q5 : Nat) (q6 : Nat) (q11 : Nat) (x : Int32) (y : Int32) (sz : Nat) : Met l yX6_sorted wsX6_sorted ({ frames := 1, cells := 0, slots := 0, locals := 21 }) (jw_P D vwCl (jT cI cL cQ) cL cQ [.ref mo, .int 1, .int x, .int y] [(mo, .inr (6, [.int 0, .ref q1, .int (nI g), .ref q3, .ref q4, .ref q5, .ref q6, .int 0, .int 0, .int 0, .long 0, .ref q11, .int 0, .long 0, .long 0])), (q6, .inl (cI, 2, .inl (fun _ => 0)))] sz) (va_Qi (fun (r : Int32) (u : va_W) => r = 0 ∧ u = [(mo, .inr (6, [.int 1, .ref q1, .int (nI g), .ref q3, .ref q4, .ref q5, .ref q6, .int 0, .int 0, .int 0, .long 0, .ref q11, .int 0, .long 0, .long 0])), (q6, .inl (cI, 2, .inl (fun _ => 0)))]) (jw_B D vwCl (va_A [(mo, .inr (6, [.int 0, .ref q1, .int (nI g), .ref q3, .ref q4, .ref q5, .ref q6, .int 0, .int 0, .int 0, .long 0, .ref q11, .int 0, .long 0, .long 0])), (q6, .inl (cI, 2, .inl (fun _ => 0)))] sz) (fun u : va_W => u)) (va_A [(mo, .inr (6, [.int 0, .ref q1, .int (nI g), .ref q3, .ref q4, .ref q5, .ref q6, .int 0, .int 0, .int 0, .long 0, .ref q11, .int 0, .long 0, .long 0])), (q6, .inl (cI, 2, .inl (fun _ => 0)))] sz)) 0 0 (va_A [(mo, .inr (6, [.int 0, .ref q1, .int (nI g), .ref q3, .ref q4, .ref q5, .ref q6, .int 0, .int 0, .int 0, .long 0, .ref q11, .int 0, .long 0, .long 0])), (q6, .inl (cI, 2, .inl (fun _ => 0)))] sz) := by
  refine Met.ofW (cc := cX6_sorted) (maxL := 5) (ret := (some .int)) (by decide) rfl ?_
  intro p e s m args below meth c s₁ B hml hv
  obtain ⟨rfl, hsz, hP, hK, hN, hD0⟩ := hv
  have hx := B.exec
  have hb := B.bytes
  have hr := B.returns
  have hts := atoms_spec (ws := wsX6_sorted) B.pre
  have hown : s.vm.findClass RX6 = some m.cls := findClass_of_methodNamed B.named
  have hlocks := B.notSynchronized
  subst hsz
  have hD := hD0.self (sz := s.heap.size)
  generalize hAe : va_A [(mo, .inr (6, [.int 0, .ref q1, .int (nI g), .ref q3, .ref q4, .ref q5, .ref q6, .int 0, .int 0, .int 0, .long 0, .ref q11, .int 0, .long 0, .long 0])), (q6, .inl (cI, 2, .inl (fun _ => 0)))] s.heap.size = A at hD ⊢
  have hA : ∀ q : Nat, s.heap.size ≤ q → A q := fun q h => by rw [← hAe]; exact Or.inr h
  have hS : va_S A s.heap s.heap [] := va_S.rf
  have hl := lv_entry ([.ref mo, .int 1, .int x, .int y]) (n := 5) (Nat.le_of_ble_eq_true rfl)
  rw [lg_entry_eq]
  generalize (lg_sl ([.ref mo, .int 1, .int x, .int y]) ++ List.replicate (5 - (lg_sl ([.ref mo, .int 1, .int x, .int y])).length) Slot.unset).toArray = ls at hl ⊢
  have hl : lv_has ls 5 [(0, .ref mo), (1, .int 1), (2, .int x), (3, .int y)] := hl
  refine lv_iload_n hx hb dX6_sorted_0 rfl (lv_at hl 1 rfl) ?_
  refine lv_if_eq (tgt := 8) hx hb dX6_sorted_1 (by decide) (fun c_1 => absurd c_1 (by decide)) (fun c_1 => ?_)
  refine lv_iconst (v := 0) hx hb dX6_sorted_4 (by decide) ?_
  refine lv_goto (tgt := 9) hx hb dX6_sorted_5 (by decide) ?_
  refine lv_istore (lv' := [(4, .int 0), (0, .ref mo), (1, .int 1), (2, .int x), (3, .int y)]) hx hb dX6_sorted_9 hl (by decide) rfl (fun ls hl => ?_)
  refine lv_aload_n hx hb dX6_sorted_11 rfl (lv_at hl 1 rfl) ?_
  refine lv_iload_n hx hb dX6_sorted_12 rfl (lv_at hl 3 rfl) ?_
  refine lv_if_lt (tgt := 36) hx hb dX6_sorted_13 (by decide) (fun c_2 => ?_) (fun c_2 => ?_)
  · refine lv_iconst (v := 1) hx hb dX6_sorted_36 (by decide) ?_
    refine lv_goto (tgt := 52) hx hb dX6_sorted_37 (by decide) ?_
    refine jw_i (wr := [(q6, .inl (cI, 2, .inl (fun _ => 0)))]) (va_runV (As := [.int 1]) (rest := []) ⟨hx, hb, hml, hown, hts⟩ (cM_refuses_1 l D cI cL cQ mo 0 q1 (nI g) q3 q4 q5 q6 0 0 0 0 q11 0 0 0 _) (cwV 1 hts gX6_sorted_X6_refuses rfl rfl rfl (by decide +kernel) ⟨Nat.le_of_ble_eq_true rfl, Nat.le_of_ble_eq_true rfl⟩) (jw_V hK hN hP hD [0] (by decide) rfl 6 0 rfl rfl rfl) rfl rfl hl.1 rfl (lv_room (Nat.le_of_ble_eq_true rfl)) dX6_sorted_52 ⟨Nat.le_of_ble_eq_true rfl, Nat.le_of_ble_eq_true rfl⟩) hP hD hS hA [0] [1] rfl rfl (by decide) (by decide) (fun r u H locs f_3 hP hD hS => ?_)
    obtain ⟨rfl, rfl⟩ := f_3
    have hP : va_P D vwCl [(q6, .inl (cI, 2, .inl (fun _ => 0))), (mo, .inr (6, [.int 1, .ref q1, .int (nI g), .ref q3, .ref q4, .ref q5, .ref q6, .int 0, .int 0, .int 0, .long 0, .ref q11, .int 0, .long 0, .long 0]))] H := hP
    have hD : va_D A [(q6, .inl (cI, 2, .inl (fun _ => 0))), (mo, .inr (6, [.int 1, .ref q1, .int (nI g), .ref q3, .ref q4, .ref q5, .ref q6, .int 0, .int 0, .int 0, .long 0, .ref q11, .int 0, .long 0, .long 0]))] := hD
    refine lv_if_eq (tgt := 60) hx hb dX6_sorted_55 (by decide) (fun c_4 => absurd c_4 (by decide)) (fun c_4 => ?_)
    refine lv_iconst (v := 0) hx hb dX6_sorted_58 (by decide) ?_
    have hP := hP.sub (ws' := [(mo, .inr (6, [.int 1, .ref q1, .int (nI g), .ref q3, .ref q4, .ref q5, .ref q6, .int 0, .int 0, .int 0, .long 0, .ref q11, .int 0, .long 0, .long 0])), (q6, .inl (cI, 2, .inl (fun _ => 0)))]) [1, 0] rfl
    have hD := hD.sub (ws' := [(mo, .inr (6, [.int 1, .ref q1, .int (nI g), .ref q3, .ref q4, .ref q5, .ref q6, .int 0, .int 0, .int 0, .long 0, .ref q11, .int 0, .long 0, .long 0])), (q6, .inl (cI, 2, .inl (fun _ => 0)))]) [1, 0] (by decide) rfl
    refine W.widen (k := 0) (n := 0) (by omega) (by omega) ?_
    exact W.iret (v := 0) hx hb hr (fun t ht hW => ⟨⟨0, [(mo, .inr (6, [.int 1, .ref q1, .int (nI g), .ref q3, .ref q4, .ref q5, .ref q6, .int 0, .int 0, .int 0, .long 0, .ref q11, .int 0, .long 0, .long 0])), (q6, .inl (cI, 2, .inl (fun _ => 0)))], rfl, (by exact ⟨rfl, rfl⟩), by rw [ht]; exact hP, hD⟩, hS.F ht⟩) hS.2.2 dX6_sorted_59
  · refine lv_iload_n hx hb dX6_sorted_16 rfl (lv_at hl 3 rfl) ?_
    refine lv_aload_n hx hb dX6_sorted_17 rfl (lv_at hl 1 rfl) ?_
    refine va_get (D := D) (ci := 6) (v := .ref q6) (C := RX6) (T := TX6) (N := 15) hx hb hts (by decide +kernel) hown hK hP 0 rfl rfl 6 (by decide) (hts (.fieldLink RX6 22 "JoinDeskModel" "many" "[I") (by decide +kernel)) (fun _ h9 => h9) rfl dX6_sorted_18 ?_
    refine lv_iload hx hb dX6_sorted_21 (lv_at hl 0 rfl) ?_
    refine va_iald hx hb hK hP 1 0 rfl rfl (by unfold vp_in; decide) dX6_sorted_23 ?_
    refine lv_topi (fun v_5 e_v_5 => ?_)
    obtain rfl : v_5 = 0 := e_v_5.trans (rfl)
    refine lv_icmp_ge (tgt := 36) hx hb dX6_sorted_24 (by decide) (fun c_6 => ?_) (fun c_6 => absurd c_6 (by exact fun h => h (j_tot (by assumption))))
    refine lv_iconst (v := 1) hx hb dX6_sorted_36 (by decide) ?_
    refine lv_goto (tgt := 52) hx hb dX6_sorted_37 (by decide) ?_
    refine jw_i (wr := [(q6, .inl (cI, 2, .inl (fun _ => 0)))]) (va_runV (As := [.int 1]) (rest := []) ⟨hx, hb, hml, hown, hts⟩ (cM_refuses_1 l D cI cL cQ mo 0 q1 (nI g) q3 q4 q5 q6 0 0 0 0 q11 0 0 0 _) (cwV 1 hts gX6_sorted_X6_refuses rfl rfl rfl (by decide +kernel) ⟨Nat.le_of_ble_eq_true rfl, Nat.le_of_ble_eq_true rfl⟩) (jw_V hK hN hP hD [0] (by decide) rfl 6 0 rfl rfl rfl) rfl rfl hl.1 rfl (lv_room (Nat.le_of_ble_eq_true rfl)) dX6_sorted_52 ⟨Nat.le_of_ble_eq_true rfl, Nat.le_of_ble_eq_true rfl⟩) hP hD hS hA [0] [1] rfl rfl (by decide) (by decide) (fun r u H locs f_7 hP hD hS => ?_)
    obtain ⟨rfl, rfl⟩ := f_7
    have hP : va_P D vwCl [(q6, .inl (cI, 2, .inl (fun _ => 0))), (mo, .inr (6, [.int 1, .ref q1, .int (nI g), .ref q3, .ref q4, .ref q5, .ref q6, .int 0, .int 0, .int 0, .long 0, .ref q11, .int 0, .long 0, .long 0]))] H := hP
    have hD : va_D A [(q6, .inl (cI, 2, .inl (fun _ => 0))), (mo, .inr (6, [.int 1, .ref q1, .int (nI g), .ref q3, .ref q4, .ref q5, .ref q6, .int 0, .int 0, .int 0, .long 0, .ref q11, .int 0, .long 0, .long 0]))] := hD
    refine lv_if_eq (tgt := 60) hx hb dX6_sorted_55 (by decide) (fun c_8 => absurd c_8 (by decide)) (fun c_8 => ?_)
    refine lv_iconst (v := 0) hx hb dX6_sorted_58 (by decide) ?_
    have hP := hP.sub (ws' := [(mo, .inr (6, [.int 1, .ref q1, .int (nI g), .ref q3, .ref q4, .ref q5, .ref q6, .int 0, .int 0, .int 0, .long 0, .ref q11, .int 0, .long 0, .long 0])), (q6, .inl (cI, 2, .inl (fun _ => 0)))]) [1, 0] rfl
    have hD := hD.sub (ws' := [(mo, .inr (6, [.int 1, .ref q1, .int (nI g), .ref q3, .ref q4, .ref q5, .ref q6, .int 0, .int 0, .int 0, .long 0, .ref q11, .int 0, .long 0, .long 0])), (q6, .inl (cI, 2, .inl (fun _ => 0)))]) [1, 0] (by decide) rfl
    refine W.widen (k := 0) (n := 0) (by omega) (by omega) ?_
    exact W.iret (v := 0) hx hb hr (fun t ht hW => ⟨⟨0, [(mo, .inr (6, [.int 1, .ref q1, .int (nI g), .ref q3, .ref q4, .ref q5, .ref q6, .int 0, .int 0, .int 0, .long 0, .ref q11, .int 0, .long 0, .long 0])), (q6, .inl (cI, 2, .inl (fun _ => 0)))], rfl, (by exact ⟨rfl, rfl⟩), by rw [ht]; exact hP, hD⟩, hS.F ht⟩) hS.2.2 dX6_sorted_59
set_option maxHeartbeats 1000000 in
set_option maxRecDepth 100000 in
theorem cM_sorted_0 (l : Launch) (D : va_G) (cI cL cQ : ClassId) (g : Nat) (mo : Nat) (q1 : Nat) (q3 : Nat) (q4 : Nat) (q5 : Nat) (q6 : Nat) (q11 : Nat) (x : Int32) (y : Int32) (sz : Nat) : Met l yX6_sorted wsX6_sorted ({ frames := 1, cells := 0, slots := 0, locals := 21 }) (jw_P D vwCl (jT cI cL cQ) cL cQ [.ref mo, .int 0, .int x, .int y] [(mo, .inr (6, [.int 0, .ref q1, .int (nI g), .ref q3, .ref q4, .ref q5, .ref q6, .int 0, .int 0, .int 0, .long 0, .ref q11, .int 0, .long 0, .long 0])), (q6, .inl (cI, 2, .inl (fun _ => 0)))] sz) (va_Qi (fun (r : Int32) (u : va_W) => r = 0 ∧ u = [(mo, .inr (6, [.int 1, .ref q1, .int (nI g), .ref q3, .ref q4, .ref q5, .ref q6, .int 0, .int 0, .int 0, .long 0, .ref q11, .int 0, .long 0, .long 0])), (q6, .inl (cI, 2, .inl (fun _ => 0)))]) (jw_B D vwCl (va_A [(mo, .inr (6, [.int 0, .ref q1, .int (nI g), .ref q3, .ref q4, .ref q5, .ref q6, .int 0, .int 0, .int 0, .long 0, .ref q11, .int 0, .long 0, .long 0])), (q6, .inl (cI, 2, .inl (fun _ => 0)))] sz) (fun u : va_W => u)) (va_A [(mo, .inr (6, [.int 0, .ref q1, .int (nI g), .ref q3, .ref q4, .ref q5, .ref q6, .int 0, .int 0, .int 0, .long 0, .ref q11, .int 0, .long 0, .long 0])), (q6, .inl (cI, 2, .inl (fun _ => 0)))] sz)) 0 0 (va_A [(mo, .inr (6, [.int 0, .ref q1, .int (nI g), .ref q3, .ref q4, .ref q5, .ref q6, .int 0, .int 0, .int 0, .long 0, .ref q11, .int 0, .long 0, .long 0])), (q6, .inl (cI, 2, .inl (fun _ => 0)))] sz) := by
  refine Met.ofW (cc := cX6_sorted) (maxL := 5) (ret := (some .int)) (by decide) rfl ?_
  intro p e s m args below meth c s₁ B hml hv
  obtain ⟨rfl, hsz, hP, hK, hN, hD0⟩ := hv
  have hx := B.exec
  have hb := B.bytes
  have hr := B.returns
  have hts := atoms_spec (ws := wsX6_sorted) B.pre
  have hown : s.vm.findClass RX6 = some m.cls := findClass_of_methodNamed B.named
  have hlocks := B.notSynchronized
  subst hsz
  have hD := hD0.self (sz := s.heap.size)
  generalize hAe : va_A [(mo, .inr (6, [.int 0, .ref q1, .int (nI g), .ref q3, .ref q4, .ref q5, .ref q6, .int 0, .int 0, .int 0, .long 0, .ref q11, .int 0, .long 0, .long 0])), (q6, .inl (cI, 2, .inl (fun _ => 0)))] s.heap.size = A at hD ⊢
  have hA : ∀ q : Nat, s.heap.size ≤ q → A q := fun q h => by rw [← hAe]; exact Or.inr h
  have hS : va_S A s.heap s.heap [] := va_S.rf
  have hl := lv_entry ([.ref mo, .int 0, .int x, .int y]) (n := 5) (Nat.le_of_ble_eq_true rfl)
  rw [lg_entry_eq]
  generalize (lg_sl ([.ref mo, .int 0, .int x, .int y]) ++ List.replicate (5 - (lg_sl ([.ref mo, .int 0, .int x, .int y])).length) Slot.unset).toArray = ls at hl ⊢
  have hl : lv_has ls 5 [(0, .ref mo), (1, .int 0), (2, .int x), (3, .int y)] := hl
  refine lv_iload_n hx hb dX6_sorted_0 rfl (lv_at hl 1 rfl) ?_
  refine lv_if_eq (tgt := 8) hx hb dX6_sorted_1 (by decide) (fun c_1 => ?_) (fun c_1 => absurd c_1 (by decide))
  refine lv_iconst (v := 1) hx hb dX6_sorted_8 (by decide) ?_
  refine lv_istore (lv' := [(4, .int 1), (0, .ref mo), (1, .int 0), (2, .int x), (3, .int y)]) hx hb dX6_sorted_9 hl (by decide) rfl (fun ls hl => ?_)
  refine lv_aload_n hx hb dX6_sorted_11 rfl (lv_at hl 1 rfl) ?_
  refine lv_iload_n hx hb dX6_sorted_12 rfl (lv_at hl 3 rfl) ?_
  refine lv_if_lt (tgt := 36) hx hb dX6_sorted_13 (by decide) (fun c_2 => ?_) (fun c_2 => ?_)
  · refine lv_iconst (v := 1) hx hb dX6_sorted_36 (by decide) ?_
    refine lv_goto (tgt := 52) hx hb dX6_sorted_37 (by decide) ?_
    refine jw_i (wr := [(q6, .inl (cI, 2, .inl (fun _ => 0)))]) (va_runV (As := [.int 1]) (rest := []) ⟨hx, hb, hml, hown, hts⟩ (cM_refuses_1 l D cI cL cQ mo 0 q1 (nI g) q3 q4 q5 q6 0 0 0 0 q11 0 0 0 _) (cwV 1 hts gX6_sorted_X6_refuses rfl rfl rfl (by decide +kernel) ⟨Nat.le_of_ble_eq_true rfl, Nat.le_of_ble_eq_true rfl⟩) (jw_V hK hN hP hD [0] (by decide) rfl 6 0 rfl rfl rfl) rfl rfl hl.1 rfl (lv_room (Nat.le_of_ble_eq_true rfl)) dX6_sorted_52 ⟨Nat.le_of_ble_eq_true rfl, Nat.le_of_ble_eq_true rfl⟩) hP hD hS hA [0] [1] rfl rfl (by decide) (by decide) (fun r u H locs f_3 hP hD hS => ?_)
    obtain ⟨rfl, rfl⟩ := f_3
    have hP : va_P D vwCl [(q6, .inl (cI, 2, .inl (fun _ => 0))), (mo, .inr (6, [.int 1, .ref q1, .int (nI g), .ref q3, .ref q4, .ref q5, .ref q6, .int 0, .int 0, .int 0, .long 0, .ref q11, .int 0, .long 0, .long 0]))] H := hP
    have hD : va_D A [(q6, .inl (cI, 2, .inl (fun _ => 0))), (mo, .inr (6, [.int 1, .ref q1, .int (nI g), .ref q3, .ref q4, .ref q5, .ref q6, .int 0, .int 0, .int 0, .long 0, .ref q11, .int 0, .long 0, .long 0]))] := hD
    refine lv_if_eq (tgt := 60) hx hb dX6_sorted_55 (by decide) (fun c_4 => absurd c_4 (by decide)) (fun c_4 => ?_)
    refine lv_iconst (v := 0) hx hb dX6_sorted_58 (by decide) ?_
    have hP := hP.sub (ws' := [(mo, .inr (6, [.int 1, .ref q1, .int (nI g), .ref q3, .ref q4, .ref q5, .ref q6, .int 0, .int 0, .int 0, .long 0, .ref q11, .int 0, .long 0, .long 0])), (q6, .inl (cI, 2, .inl (fun _ => 0)))]) [1, 0] rfl
    have hD := hD.sub (ws' := [(mo, .inr (6, [.int 1, .ref q1, .int (nI g), .ref q3, .ref q4, .ref q5, .ref q6, .int 0, .int 0, .int 0, .long 0, .ref q11, .int 0, .long 0, .long 0])), (q6, .inl (cI, 2, .inl (fun _ => 0)))]) [1, 0] (by decide) rfl
    refine W.widen (k := 0) (n := 0) (by omega) (by omega) ?_
    exact W.iret (v := 0) hx hb hr (fun t ht hW => ⟨⟨0, [(mo, .inr (6, [.int 1, .ref q1, .int (nI g), .ref q3, .ref q4, .ref q5, .ref q6, .int 0, .int 0, .int 0, .long 0, .ref q11, .int 0, .long 0, .long 0])), (q6, .inl (cI, 2, .inl (fun _ => 0)))], rfl, (by exact ⟨rfl, rfl⟩), by rw [ht]; exact hP, hD⟩, hS.F ht⟩) hS.2.2 dX6_sorted_59
  · refine lv_iload_n hx hb dX6_sorted_16 rfl (lv_at hl 3 rfl) ?_
    refine lv_aload_n hx hb dX6_sorted_17 rfl (lv_at hl 1 rfl) ?_
    refine va_get (D := D) (ci := 6) (v := .ref q6) (C := RX6) (T := TX6) (N := 15) hx hb hts (by decide +kernel) hown hK hP 0 rfl rfl 6 (by decide) (hts (.fieldLink RX6 22 "JoinDeskModel" "many" "[I") (by decide +kernel)) (fun _ h9 => h9) rfl dX6_sorted_18 ?_
    refine lv_iload hx hb dX6_sorted_21 (lv_at hl 0 rfl) ?_
    refine va_iald hx hb hK hP 1 0 rfl rfl (by unfold vp_in; decide) dX6_sorted_23 ?_
    refine lv_topi (fun v_5 e_v_5 => ?_)
    obtain rfl : v_5 = 0 := e_v_5.trans (rfl)
    refine lv_icmp_ge (tgt := 36) hx hb dX6_sorted_24 (by decide) (fun c_6 => ?_) (fun c_6 => absurd c_6 (by exact fun h => h (j_tot (by assumption))))
    refine lv_iconst (v := 1) hx hb dX6_sorted_36 (by decide) ?_
    refine lv_goto (tgt := 52) hx hb dX6_sorted_37 (by decide) ?_
    refine jw_i (wr := [(q6, .inl (cI, 2, .inl (fun _ => 0)))]) (va_runV (As := [.int 1]) (rest := []) ⟨hx, hb, hml, hown, hts⟩ (cM_refuses_1 l D cI cL cQ mo 0 q1 (nI g) q3 q4 q5 q6 0 0 0 0 q11 0 0 0 _) (cwV 1 hts gX6_sorted_X6_refuses rfl rfl rfl (by decide +kernel) ⟨Nat.le_of_ble_eq_true rfl, Nat.le_of_ble_eq_true rfl⟩) (jw_V hK hN hP hD [0] (by decide) rfl 6 0 rfl rfl rfl) rfl rfl hl.1 rfl (lv_room (Nat.le_of_ble_eq_true rfl)) dX6_sorted_52 ⟨Nat.le_of_ble_eq_true rfl, Nat.le_of_ble_eq_true rfl⟩) hP hD hS hA [0] [1] rfl rfl (by decide) (by decide) (fun r u H locs f_7 hP hD hS => ?_)
    obtain ⟨rfl, rfl⟩ := f_7
    have hP : va_P D vwCl [(q6, .inl (cI, 2, .inl (fun _ => 0))), (mo, .inr (6, [.int 1, .ref q1, .int (nI g), .ref q3, .ref q4, .ref q5, .ref q6, .int 0, .int 0, .int 0, .long 0, .ref q11, .int 0, .long 0, .long 0]))] H := hP
    have hD : va_D A [(q6, .inl (cI, 2, .inl (fun _ => 0))), (mo, .inr (6, [.int 1, .ref q1, .int (nI g), .ref q3, .ref q4, .ref q5, .ref q6, .int 0, .int 0, .int 0, .long 0, .ref q11, .int 0, .long 0, .long 0]))] := hD
    refine lv_if_eq (tgt := 60) hx hb dX6_sorted_55 (by decide) (fun c_8 => absurd c_8 (by decide)) (fun c_8 => ?_)
    refine lv_iconst (v := 0) hx hb dX6_sorted_58 (by decide) ?_
    have hP := hP.sub (ws' := [(mo, .inr (6, [.int 1, .ref q1, .int (nI g), .ref q3, .ref q4, .ref q5, .ref q6, .int 0, .int 0, .int 0, .long 0, .ref q11, .int 0, .long 0, .long 0])), (q6, .inl (cI, 2, .inl (fun _ => 0)))]) [1, 0] rfl
    have hD := hD.sub (ws' := [(mo, .inr (6, [.int 1, .ref q1, .int (nI g), .ref q3, .ref q4, .ref q5, .ref q6, .int 0, .int 0, .int 0, .long 0, .ref q11, .int 0, .long 0, .long 0])), (q6, .inl (cI, 2, .inl (fun _ => 0)))]) [1, 0] (by decide) rfl
    refine W.widen (k := 0) (n := 0) (by omega) (by omega) ?_
    exact W.iret (v := 0) hx hb hr (fun t ht hW => ⟨⟨0, [(mo, .inr (6, [.int 1, .ref q1, .int (nI g), .ref q3, .ref q4, .ref q5, .ref q6, .int 0, .int 0, .int 0, .long 0, .ref q11, .int 0, .long 0, .long 0])), (q6, .inl (cI, 2, .inl (fun _ => 0)))], rfl, (by exact ⟨rfl, rfl⟩), by rw [ht]; exact hP, hD⟩, hS.F ht⟩) hS.2.2 dX6_sorted_59
set_option maxHeartbeats 1000000 in
set_option maxRecDepth 100000 in
theorem cM_pair_t (l : Launch) (D : va_G) (cI cL cQ : ClassId) (g : Nat) (mo : Nat) (q1 : Nat) (q3 : Nat) (q4 : Nat) (q5 : Nat) (q6 : Nat) (q11 : Nat) (x : Int32) (sz : Nat) (h1 : x < 0 ∨ 4 < x) : Met l yX6_pair wsX6_pair ({ frames := 1, cells := 0, slots := 0, locals := 21 }) (jw_P D vwCl (jT cI cL cQ) cL cQ [.ref mo, .int x] [(mo, .inr (6, [.int 0, .ref q1, .int (nI g), .ref q3, .ref q4, .ref q5, .ref q6, .int 0, .int 0, .int 0, .long 0, .ref q11, .int 0, .long 0, .long 0]))] sz) (va_Qi (fun (r : Int32) (u : va_W) => r = 0 ∧ u = [(mo, .inr (6, [.int 1, .ref q1, .int (nI g), .ref q3, .ref q4, .ref q5, .ref q6, .int 0, .int 0, .int 0, .long 0, .ref q11, .int 0, .long 0, .long 0]))]) (jw_B D vwCl (va_A [(mo, .inr (6, [.int 0, .ref q1, .int (nI g), .ref q3, .ref q4, .ref q5, .ref q6, .int 0, .int 0, .int 0, .long 0, .ref q11, .int 0, .long 0, .long 0]))] sz) (fun u : va_W => u)) (va_A [(mo, .inr (6, [.int 0, .ref q1, .int (nI g), .ref q3, .ref q4, .ref q5, .ref q6, .int 0, .int 0, .int 0, .long 0, .ref q11, .int 0, .long 0, .long 0]))] sz)) 0 0 (va_A [(mo, .inr (6, [.int 0, .ref q1, .int (nI g), .ref q3, .ref q4, .ref q5, .ref q6, .int 0, .int 0, .int 0, .long 0, .ref q11, .int 0, .long 0, .long 0]))] sz) := by
  refine Met.ofW (cc := cX6_pair) (maxL := 5) (ret := (some .int)) (by decide) rfl ?_
  intro p e s m args below meth c s₁ B hml hv
  obtain ⟨rfl, hsz, hP, hK, hN, hD0⟩ := hv
  have hx := B.exec
  have hb := B.bytes
  have hr := B.returns
  have hts := atoms_spec (ws := wsX6_pair) B.pre
  have hown : s.vm.findClass RX6 = some m.cls := findClass_of_methodNamed B.named
  have hlocks := B.notSynchronized
  subst hsz
  have hD := hD0.self (sz := s.heap.size)
  generalize hAe : va_A [(mo, .inr (6, [.int 0, .ref q1, .int (nI g), .ref q3, .ref q4, .ref q5, .ref q6, .int 0, .int 0, .int 0, .long 0, .ref q11, .int 0, .long 0, .long 0]))] s.heap.size = A at hD ⊢
  have hA : ∀ q : Nat, s.heap.size ≤ q → A q := fun q h => by rw [← hAe]; exact Or.inr h
  have hS : va_S A s.heap s.heap [] := va_S.rf
  have hl := lv_entry ([.ref mo, .int x]) (n := 5) (Nat.le_of_ble_eq_true rfl)
  rw [lg_entry_eq]
  generalize (lg_sl ([.ref mo, .int x]) ++ List.replicate (5 - (lg_sl ([.ref mo, .int x])).length) Slot.unset).toArray = ls at hl ⊢
  have hl : lv_has ls 5 [(0, .ref mo), (1, .int x)] := hl
  refine lv_aload_n hx hb dX6_pair_0 rfl (lv_at hl 0 rfl) ?_
  refine lv_iload_n hx hb dX6_pair_1 rfl (lv_at hl 1 rfl) ?_
  refine lv_if_lt (tgt := 10) hx hb dX6_pair_2 (by decide) (fun c_1 => ?_) (fun c_1 => ?_)
  · refine lv_iconst (v := 1) hx hb dX6_pair_10 (by decide) ?_
    refine lv_goto (tgt := 15) hx hb dX6_pair_11 (by decide) ?_
    refine jw_i (wr := []) (va_runV (As := [.int 1]) (rest := []) ⟨hx, hb, hml, hown, hts⟩ (cM_refuses_1 l D cI cL cQ mo 0 q1 (nI g) q3 q4 q5 q6 0 0 0 0 q11 0 0 0 _) (cwV 1 hts gX6_pair_X6_refuses rfl rfl rfl (by decide +kernel) ⟨Nat.le_of_ble_eq_true rfl, Nat.le_of_ble_eq_true rfl⟩) (jw_V hK hN hP hD [0] (by decide) rfl 6 0 rfl rfl rfl) rfl rfl hl.1 rfl (lv_room (Nat.le_of_ble_eq_true rfl)) dX6_pair_15 ⟨Nat.le_of_ble_eq_true rfl, Nat.le_of_ble_eq_true rfl⟩) hP hD hS hA [0] [] rfl rfl (by decide) (by decide) (fun r u H locs f_2 hP hD hS => ?_)
    obtain ⟨rfl, rfl⟩ := f_2
    have hP : va_P D vwCl [(mo, .inr (6, [.int 1, .ref q1, .int (nI g), .ref q3, .ref q4, .ref q5, .ref q6, .int 0, .int 0, .int 0, .long 0, .ref q11, .int 0, .long 0, .long 0]))] H := hP
    have hD : va_D A [(mo, .inr (6, [.int 1, .ref q1, .int (nI g), .ref q3, .ref q4, .ref q5, .ref q6, .int 0, .int 0, .int 0, .long 0, .ref q11, .int 0, .long 0, .long 0]))] := hD
    refine lv_if_eq (tgt := 23) hx hb dX6_pair_18 (by decide) (fun c_3 => absurd c_3 (by decide)) (fun c_3 => ?_)
    refine lv_iconst (v := 0) hx hb dX6_pair_21 (by decide) ?_
    refine W.widen (k := 0) (n := 0) (by omega) (by omega) ?_
    exact W.iret (v := 0) hx hb hr (fun t ht hW => ⟨⟨0, [(mo, .inr (6, [.int 1, .ref q1, .int (nI g), .ref q3, .ref q4, .ref q5, .ref q6, .int 0, .int 0, .int 0, .long 0, .ref q11, .int 0, .long 0, .long 0]))], rfl, (by exact ⟨rfl, rfl⟩), by rw [ht]; exact hP, hD⟩, hS.F ht⟩) hS.2.2 dX6_pair_22
  · refine lv_iload_n hx hb dX6_pair_5 rfl (lv_at hl 1 rfl) ?_
    refine lv_iconst (v := 4) hx hb dX6_pair_6 (by decide) ?_
    refine lv_icmp_le (tgt := 14) hx hb dX6_pair_7 (by decide) (fun c_4 => absurd c_4 (by exact j_nle (h1.resolve_left (by assumption)))) (fun c_4 => ?_)
    refine lv_iconst (v := 1) hx hb dX6_pair_10 (by decide) ?_
    refine lv_goto (tgt := 15) hx hb dX6_pair_11 (by decide) ?_
    refine jw_i (wr := []) (va_runV (As := [.int 1]) (rest := []) ⟨hx, hb, hml, hown, hts⟩ (cM_refuses_1 l D cI cL cQ mo 0 q1 (nI g) q3 q4 q5 q6 0 0 0 0 q11 0 0 0 _) (cwV 1 hts gX6_pair_X6_refuses rfl rfl rfl (by decide +kernel) ⟨Nat.le_of_ble_eq_true rfl, Nat.le_of_ble_eq_true rfl⟩) (jw_V hK hN hP hD [0] (by decide) rfl 6 0 rfl rfl rfl) rfl rfl hl.1 rfl (lv_room (Nat.le_of_ble_eq_true rfl)) dX6_pair_15 ⟨Nat.le_of_ble_eq_true rfl, Nat.le_of_ble_eq_true rfl⟩) hP hD hS hA [0] [] rfl rfl (by decide) (by decide) (fun r u H locs f_5 hP hD hS => ?_)
    obtain ⟨rfl, rfl⟩ := f_5
    have hP : va_P D vwCl [(mo, .inr (6, [.int 1, .ref q1, .int (nI g), .ref q3, .ref q4, .ref q5, .ref q6, .int 0, .int 0, .int 0, .long 0, .ref q11, .int 0, .long 0, .long 0]))] H := hP
    have hD : va_D A [(mo, .inr (6, [.int 1, .ref q1, .int (nI g), .ref q3, .ref q4, .ref q5, .ref q6, .int 0, .int 0, .int 0, .long 0, .ref q11, .int 0, .long 0, .long 0]))] := hD
    refine lv_if_eq (tgt := 23) hx hb dX6_pair_18 (by decide) (fun c_6 => absurd c_6 (by decide)) (fun c_6 => ?_)
    refine lv_iconst (v := 0) hx hb dX6_pair_21 (by decide) ?_
    refine W.widen (k := 0) (n := 0) (by omega) (by omega) ?_
    exact W.iret (v := 0) hx hb hr (fun t ht hW => ⟨⟨0, [(mo, .inr (6, [.int 1, .ref q1, .int (nI g), .ref q3, .ref q4, .ref q5, .ref q6, .int 0, .int 0, .int 0, .long 0, .ref q11, .int 0, .long 0, .long 0]))], rfl, (by exact ⟨rfl, rfl⟩), by rw [ht]; exact hP, hD⟩, hS.F ht⟩) hS.2.2 dX6_pair_22
set_option maxHeartbeats 1000000 in
set_option maxRecDepth 100000 in
theorem cM_pair_0 (l : Launch) (D : va_G) (cI cL cQ : ClassId) (g : Nat) (mo : Nat) (q1 : Nat) (q3 : Nat) (q4 : Nat) (q5 : Nat) (q6 : Nat) (q11 : Nat) (sz : Nat) : Met l yX6_pair wsX6_pair ({ frames := 1, cells := 0, slots := 0, locals := 21 }) (jw_P D vwCl (jT cI cL cQ) cL cQ [.ref mo, .int 0] [(mo, .inr (6, [.int 0, .ref q1, .int (nI g), .ref q3, .ref q4, .ref q5, .ref q6, .int 0, .int 0, .int 0, .long 0, .ref q11, .int 0, .long 0, .long 0]))] sz) (va_Qi (fun (r : Int32) (u : va_W) => r = 0 ∧ u = [(mo, .inr (6, [.int 0, .ref q1, .int (nI g), .ref q3, .ref q4, .ref q5, .ref q6, .int 0, .int 0, .int 0, .long 0, .ref q11, .int 0, .long 0, .long 0]))]) (jw_B D vwCl (va_A [(mo, .inr (6, [.int 0, .ref q1, .int (nI g), .ref q3, .ref q4, .ref q5, .ref q6, .int 0, .int 0, .int 0, .long 0, .ref q11, .int 0, .long 0, .long 0]))] sz) (fun u : va_W => u)) (va_A [(mo, .inr (6, [.int 0, .ref q1, .int (nI g), .ref q3, .ref q4, .ref q5, .ref q6, .int 0, .int 0, .int 0, .long 0, .ref q11, .int 0, .long 0, .long 0]))] sz)) 0 0 (va_A [(mo, .inr (6, [.int 0, .ref q1, .int (nI g), .ref q3, .ref q4, .ref q5, .ref q6, .int 0, .int 0, .int 0, .long 0, .ref q11, .int 0, .long 0, .long 0]))] sz) := by
  refine Met.ofW (cc := cX6_pair) (maxL := 5) (ret := (some .int)) (by decide) rfl ?_
  intro p e s m args below meth c s₁ B hml hv
  obtain ⟨rfl, hsz, hP, hK, hN, hD0⟩ := hv
  have hx := B.exec
  have hb := B.bytes
  have hr := B.returns
  have hts := atoms_spec (ws := wsX6_pair) B.pre
  have hown : s.vm.findClass RX6 = some m.cls := findClass_of_methodNamed B.named
  have hlocks := B.notSynchronized
  subst hsz
  have hD := hD0.self (sz := s.heap.size)
  generalize hAe : va_A [(mo, .inr (6, [.int 0, .ref q1, .int (nI g), .ref q3, .ref q4, .ref q5, .ref q6, .int 0, .int 0, .int 0, .long 0, .ref q11, .int 0, .long 0, .long 0]))] s.heap.size = A at hD ⊢
  have hA : ∀ q : Nat, s.heap.size ≤ q → A q := fun q h => by rw [← hAe]; exact Or.inr h
  have hS : va_S A s.heap s.heap [] := va_S.rf
  have hl := lv_entry ([.ref mo, .int 0]) (n := 5) (Nat.le_of_ble_eq_true rfl)
  rw [lg_entry_eq]
  generalize (lg_sl ([.ref mo, .int 0]) ++ List.replicate (5 - (lg_sl ([.ref mo, .int 0])).length) Slot.unset).toArray = ls at hl ⊢
  have hl : lv_has ls 5 [(0, .ref mo), (1, .int 0)] := hl
  refine lv_aload_n hx hb dX6_pair_0 rfl (lv_at hl 0 rfl) ?_
  refine lv_iload_n hx hb dX6_pair_1 rfl (lv_at hl 1 rfl) ?_
  refine lv_if_lt (tgt := 10) hx hb dX6_pair_2 (by decide) (fun c_1 => absurd c_1 (by decide)) (fun c_1 => ?_)
  refine lv_iload_n hx hb dX6_pair_5 rfl (lv_at hl 1 rfl) ?_
  refine lv_iconst (v := 4) hx hb dX6_pair_6 (by decide) ?_
  refine lv_icmp_le (tgt := 14) hx hb dX6_pair_7 (by decide) (fun c_2 => ?_) (fun c_2 => absurd c_2 (by decide))
  refine lv_iconst (v := 0) hx hb dX6_pair_14 (by decide) ?_
  refine jw_i (wr := []) (va_runV (As := [.int 0]) (rest := []) ⟨hx, hb, hml, hown, hts⟩ (cM_refuses_0 l D cI cL cQ mo 0 q1 (nI g) q3 q4 q5 q6 0 0 0 0 q11 0 0 0 _) (cwV 1 hts gX6_pair_X6_refuses rfl rfl rfl (by decide +kernel) ⟨Nat.le_of_ble_eq_true rfl, Nat.le_of_ble_eq_true rfl⟩) (jw_V hK hN hP hD [0] (by decide) rfl 6 0 rfl rfl rfl) rfl rfl hl.1 rfl (lv_room (Nat.le_of_ble_eq_true rfl)) dX6_pair_15 ⟨Nat.le_of_ble_eq_true rfl, Nat.le_of_ble_eq_true rfl⟩) hP hD hS hA [0] [] rfl rfl (by decide) (by decide) (fun r u H locs f_3 hP hD hS => ?_)
  obtain ⟨rfl, rfl⟩ := f_3
  have hP : va_P D vwCl [(mo, .inr (6, [.int 0, .ref q1, .int (nI g), .ref q3, .ref q4, .ref q5, .ref q6, .int 0, .int 0, .int 0, .long 0, .ref q11, .int 0, .long 0, .long 0]))] H := hP
  have hD : va_D A [(mo, .inr (6, [.int 0, .ref q1, .int (nI g), .ref q3, .ref q4, .ref q5, .ref q6, .int 0, .int 0, .int 0, .long 0, .ref q11, .int 0, .long 0, .long 0]))] := hD
  refine lv_if_eq (tgt := 23) hx hb dX6_pair_18 (by decide) (fun c_4 => ?_) (fun c_4 => absurd c_4 (by decide))
  refine lv_aload_n hx hb dX6_pair_23 rfl (lv_at hl 0 rfl) ?_
  refine va_get (D := D) (ci := 6) (v := .int 0) (C := RX6) (T := TX6) (N := 15) hx hb hts (by decide +kernel) hown hK hP 0 rfl rfl 7 (by decide) (hts (.fieldLink RX6 43 "JoinDeskModel" "prepared" "Z") (by decide +kernel)) (fun _ h9 => h9) rfl dX6_pair_24 ?_
  refine lv_if_eq (tgt := 45) hx hb dX6_pair_27 (by decide) (fun c_5 => ?_) (fun c_5 => absurd c_5 (by decide))
  refine lv_iconst (v := 0) hx hb dX6_pair_45 (by decide) ?_
  refine lv_istore_n (lv' := [(2, .int 0), (0, .ref mo), (1, .int 0)]) hx hb dX6_pair_46 rfl hl (by decide) rfl (fun ls hl => ?_)
  refine lv_iload_n hx hb dX6_pair_47 rfl (lv_at hl 2 rfl) ?_
  refine lv_iconst (v := 1) hx hb dX6_pair_48 (by decide) ?_
  refine lv_icmp_eq (tgt := 57) hx hb dX6_pair_49 (by decide) (fun c_6 => absurd c_6 (by decide)) (fun c_6 => ?_)
  refine lv_iload_n hx hb dX6_pair_52 rfl (lv_at hl 2 rfl) ?_
  refine lv_iconst (v := 3) hx hb dX6_pair_53 (by decide) ?_
  refine lv_icmp_ne (tgt := 61) hx hb dX6_pair_54 (by decide) (fun c_7 => ?_) (fun c_7 => absurd c_7 (by decide))
  refine lv_iconst (v := 1) hx hb dX6_pair_61 (by decide) ?_
  refine lv_istore_n (lv' := [(3, .int 1), (2, .int 0), (0, .ref mo), (1, .int 0)]) hx hb dX6_pair_62 rfl hl (by decide) rfl (fun ls hl => ?_)
  refine lv_iload_n hx hb dX6_pair_63 rfl (lv_at hl 3 rfl) ?_
  refine lv_if_ne (tgt := 114) hx hb dX6_pair_64 (by decide) (fun c_8 => absurd c_8 (by decide)) (fun c_8 => ?_)
  refine lv_iload_n hx hb dX6_pair_67 rfl (lv_at hl 1 rfl) ?_
  refine lv_if_ne (tgt := 75) hx hb dX6_pair_68 (by decide) (fun c_9 => absurd c_9 (by decide)) (fun c_9 => ?_)
  refine lv_iconst (v := 0) hx hb dX6_pair_71 (by decide) ?_
  refine lv_goto (tgt := 113) hx hb dX6_pair_72 (by decide) ?_
  refine W.widen (k := 0) (n := 0) (by omega) (by omega) ?_
  exact W.iret (v := 0) hx hb hr (fun t ht hW => ⟨⟨0, [(mo, .inr (6, [.int 0, .ref q1, .int (nI g), .ref q3, .ref q4, .ref q5, .ref q6, .int 0, .int 0, .int 0, .long 0, .ref q11, .int 0, .long 0, .long 0]))], rfl, (by exact ⟨rfl, rfl⟩), by rw [ht]; exact hP, hD⟩, hS.F ht⟩) hS.2.2 dX6_pair_113
set_option maxHeartbeats 1000000 in
set_option maxRecDepth 100000 in
theorem cM_pair_1 (l : Launch) (D : va_G) (cI cL cQ : ClassId) (g : Nat) (mo : Nat) (q1 : Nat) (q3 : Nat) (q4 : Nat) (q5 : Nat) (q6 : Nat) (q11 : Nat) (sz : Nat) : Met l yX6_pair wsX6_pair ({ frames := 1, cells := 0, slots := 0, locals := 21 }) (jw_P D vwCl (jT cI cL cQ) cL cQ [.ref mo, .int 1] [(mo, .inr (6, [.int 0, .ref q1, .int (nI g), .ref q3, .ref q4, .ref q5, .ref q6, .int 0, .int 0, .int 0, .long 0, .ref q11, .int 0, .long 0, .long 0]))] sz) (va_Qi (fun (r : Int32) (u : va_W) => r = 0 ∧ u = [(mo, .inr (6, [.int 0, .ref q1, .int (nI g), .ref q3, .ref q4, .ref q5, .ref q6, .int 0, .int 0, .int 0, .long 0, .ref q11, .int 0, .long 0, .long 0]))]) (jw_B D vwCl (va_A [(mo, .inr (6, [.int 0, .ref q1, .int (nI g), .ref q3, .ref q4, .ref q5, .ref q6, .int 0, .int 0, .int 0, .long 0, .ref q11, .int 0, .long 0, .long 0]))] sz) (fun u : va_W => u)) (va_A [(mo, .inr (6, [.int 0, .ref q1, .int (nI g), .ref q3, .ref q4, .ref q5, .ref q6, .int 0, .int 0, .int 0, .long 0, .ref q11, .int 0, .long 0, .long 0]))] sz)) 0 0 (va_A [(mo, .inr (6, [.int 0, .ref q1, .int (nI g), .ref q3, .ref q4, .ref q5, .ref q6, .int 0, .int 0, .int 0, .long 0, .ref q11, .int 0, .long 0, .long 0]))] sz) := by
  refine Met.ofW (cc := cX6_pair) (maxL := 5) (ret := (some .int)) (by decide) rfl ?_
  intro p e s m args below meth c s₁ B hml hv
  obtain ⟨rfl, hsz, hP, hK, hN, hD0⟩ := hv
  have hx := B.exec
  have hb := B.bytes
  have hr := B.returns
  have hts := atoms_spec (ws := wsX6_pair) B.pre
  have hown : s.vm.findClass RX6 = some m.cls := findClass_of_methodNamed B.named
  have hlocks := B.notSynchronized
  subst hsz
  have hD := hD0.self (sz := s.heap.size)
  generalize hAe : va_A [(mo, .inr (6, [.int 0, .ref q1, .int (nI g), .ref q3, .ref q4, .ref q5, .ref q6, .int 0, .int 0, .int 0, .long 0, .ref q11, .int 0, .long 0, .long 0]))] s.heap.size = A at hD ⊢
  have hA : ∀ q : Nat, s.heap.size ≤ q → A q := fun q h => by rw [← hAe]; exact Or.inr h
  have hS : va_S A s.heap s.heap [] := va_S.rf
  have hl := lv_entry ([.ref mo, .int 1]) (n := 5) (Nat.le_of_ble_eq_true rfl)
  rw [lg_entry_eq]
  generalize (lg_sl ([.ref mo, .int 1]) ++ List.replicate (5 - (lg_sl ([.ref mo, .int 1])).length) Slot.unset).toArray = ls at hl ⊢
  have hl : lv_has ls 5 [(0, .ref mo), (1, .int 1)] := hl
  refine lv_aload_n hx hb dX6_pair_0 rfl (lv_at hl 0 rfl) ?_
  refine lv_iload_n hx hb dX6_pair_1 rfl (lv_at hl 1 rfl) ?_
  refine lv_if_lt (tgt := 10) hx hb dX6_pair_2 (by decide) (fun c_1 => absurd c_1 (by decide)) (fun c_1 => ?_)
  refine lv_iload_n hx hb dX6_pair_5 rfl (lv_at hl 1 rfl) ?_
  refine lv_iconst (v := 4) hx hb dX6_pair_6 (by decide) ?_
  refine lv_icmp_le (tgt := 14) hx hb dX6_pair_7 (by decide) (fun c_2 => ?_) (fun c_2 => absurd c_2 (by decide))
  refine lv_iconst (v := 0) hx hb dX6_pair_14 (by decide) ?_
  refine jw_i (wr := []) (va_runV (As := [.int 0]) (rest := []) ⟨hx, hb, hml, hown, hts⟩ (cM_refuses_0 l D cI cL cQ mo 0 q1 (nI g) q3 q4 q5 q6 0 0 0 0 q11 0 0 0 _) (cwV 1 hts gX6_pair_X6_refuses rfl rfl rfl (by decide +kernel) ⟨Nat.le_of_ble_eq_true rfl, Nat.le_of_ble_eq_true rfl⟩) (jw_V hK hN hP hD [0] (by decide) rfl 6 0 rfl rfl rfl) rfl rfl hl.1 rfl (lv_room (Nat.le_of_ble_eq_true rfl)) dX6_pair_15 ⟨Nat.le_of_ble_eq_true rfl, Nat.le_of_ble_eq_true rfl⟩) hP hD hS hA [0] [] rfl rfl (by decide) (by decide) (fun r u H locs f_3 hP hD hS => ?_)
  obtain ⟨rfl, rfl⟩ := f_3
  have hP : va_P D vwCl [(mo, .inr (6, [.int 0, .ref q1, .int (nI g), .ref q3, .ref q4, .ref q5, .ref q6, .int 0, .int 0, .int 0, .long 0, .ref q11, .int 0, .long 0, .long 0]))] H := hP
  have hD : va_D A [(mo, .inr (6, [.int 0, .ref q1, .int (nI g), .ref q3, .ref q4, .ref q5, .ref q6, .int 0, .int 0, .int 0, .long 0, .ref q11, .int 0, .long 0, .long 0]))] := hD
  refine lv_if_eq (tgt := 23) hx hb dX6_pair_18 (by decide) (fun c_4 => ?_) (fun c_4 => absurd c_4 (by decide))
  refine lv_aload_n hx hb dX6_pair_23 rfl (lv_at hl 0 rfl) ?_
  refine va_get (D := D) (ci := 6) (v := .int 0) (C := RX6) (T := TX6) (N := 15) hx hb hts (by decide +kernel) hown hK hP 0 rfl rfl 7 (by decide) (hts (.fieldLink RX6 43 "JoinDeskModel" "prepared" "Z") (by decide +kernel)) (fun _ h9 => h9) rfl dX6_pair_24 ?_
  refine lv_if_eq (tgt := 45) hx hb dX6_pair_27 (by decide) (fun c_5 => ?_) (fun c_5 => absurd c_5 (by decide))
  refine lv_iconst (v := 0) hx hb dX6_pair_45 (by decide) ?_
  refine lv_istore_n (lv' := [(2, .int 0), (0, .ref mo), (1, .int 1)]) hx hb dX6_pair_46 rfl hl (by decide) rfl (fun ls hl => ?_)
  refine lv_iload_n hx hb dX6_pair_47 rfl (lv_at hl 2 rfl) ?_
  refine lv_iconst (v := 1) hx hb dX6_pair_48 (by decide) ?_
  refine lv_icmp_eq (tgt := 57) hx hb dX6_pair_49 (by decide) (fun c_6 => ?_) (fun c_6 => absurd c_6 (by decide))
  refine lv_iconst (v := 0) hx hb dX6_pair_57 (by decide) ?_
  refine lv_goto (tgt := 62) hx hb dX6_pair_58 (by decide) ?_
  refine lv_istore_n (lv' := [(3, .int 0), (2, .int 0), (0, .ref mo), (1, .int 1)]) hx hb dX6_pair_62 rfl hl (by decide) rfl (fun ls hl => ?_)
  refine lv_iload_n hx hb dX6_pair_63 rfl (lv_at hl 3 rfl) ?_
  refine lv_if_ne (tgt := 114) hx hb dX6_pair_64 (by decide) (fun c_7 => ?_) (fun c_7 => absurd c_7 (by decide))
  refine lv_iload_n hx hb dX6_pair_114 rfl (lv_at hl 1 rfl) ?_
  refine lv_if_eq (tgt := 135) hx hb dX6_pair_115 (by decide) (fun c_8 => ?_) (fun c_8 => absurd c_8 (by decide))
  refine lv_iconst (v := 0) hx hb dX6_pair_135 (by decide) ?_
  refine lv_istore (lv' := [(4, .int 0), (3, .int 0), (2, .int 0), (0, .ref mo), (1, .int 1)]) hx hb dX6_pair_136 hl (by decide) rfl (fun ls hl => ?_)
  refine lv_iload_n hx hb dX6_pair_138 rfl (lv_at hl 4 rfl) ?_
  refine lv_iconst (v := 3) hx hb dX6_pair_139 (by decide) ?_
  refine lv_icmp_ge (tgt := 169) hx hb dX6_pair_140 (by decide) (fun c_9 => absurd c_9 (by decide)) (fun c_9 => ?_)
  refine lv_iload hx hb dX6_pair_143 (lv_at hl 0 rfl) ?_
  refine lv_if_eq (tgt := 165) hx hb dX6_pair_145 (by decide) (fun c_10 => ?_) (fun c_10 => absurd c_10 (by decide))
  refine lv_iconst (v := 0) hx hb dX6_pair_165 (by decide) ?_
  refine lv_goto (tgt := 198) hx hb dX6_pair_166 (by decide) ?_
  refine W.widen (k := 0) (n := 0) (by omega) (by omega) ?_
  exact W.iret (v := 0) hx hb hr (fun t ht hW => ⟨⟨0, [(mo, .inr (6, [.int 0, .ref q1, .int (nI g), .ref q3, .ref q4, .ref q5, .ref q6, .int 0, .int 0, .int 0, .long 0, .ref q11, .int 0, .long 0, .long 0]))], rfl, (by exact ⟨rfl, rfl⟩), by rw [ht]; exact hP, hD⟩, hS.F ht⟩) hS.2.2 dX6_pair_198
set_option maxHeartbeats 1000000 in
set_option maxRecDepth 100000 in
theorem cM_pair_2 (l : Launch) (D : va_G) (cI cL cQ : ClassId) (g : Nat) (mo : Nat) (q1 : Nat) (q3 : Nat) (q4 : Nat) (q5 : Nat) (q6 : Nat) (q11 : Nat) (sz : Nat) : Met l yX6_pair wsX6_pair ({ frames := 1, cells := 0, slots := 0, locals := 21 }) (jw_P D vwCl (jT cI cL cQ) cL cQ [.ref mo, .int 2] [(mo, .inr (6, [.int 0, .ref q1, .int (nI g), .ref q3, .ref q4, .ref q5, .ref q6, .int 0, .int 0, .int 0, .long 0, .ref q11, .int 0, .long 0, .long 0]))] sz) (va_Qi (fun (r : Int32) (u : va_W) => r = 0 ∧ u = [(mo, .inr (6, [.int 0, .ref q1, .int (nI g), .ref q3, .ref q4, .ref q5, .ref q6, .int 0, .int 0, .int 0, .long 0, .ref q11, .int 0, .long 0, .long 0]))]) (jw_B D vwCl (va_A [(mo, .inr (6, [.int 0, .ref q1, .int (nI g), .ref q3, .ref q4, .ref q5, .ref q6, .int 0, .int 0, .int 0, .long 0, .ref q11, .int 0, .long 0, .long 0]))] sz) (fun u : va_W => u)) (va_A [(mo, .inr (6, [.int 0, .ref q1, .int (nI g), .ref q3, .ref q4, .ref q5, .ref q6, .int 0, .int 0, .int 0, .long 0, .ref q11, .int 0, .long 0, .long 0]))] sz)) 0 0 (va_A [(mo, .inr (6, [.int 0, .ref q1, .int (nI g), .ref q3, .ref q4, .ref q5, .ref q6, .int 0, .int 0, .int 0, .long 0, .ref q11, .int 0, .long 0, .long 0]))] sz) := by
  refine Met.ofW (cc := cX6_pair) (maxL := 5) (ret := (some .int)) (by decide) rfl ?_
  intro p e s m args below meth c s₁ B hml hv
  obtain ⟨rfl, hsz, hP, hK, hN, hD0⟩ := hv
  have hx := B.exec
  have hb := B.bytes
  have hr := B.returns
  have hts := atoms_spec (ws := wsX6_pair) B.pre
  have hown : s.vm.findClass RX6 = some m.cls := findClass_of_methodNamed B.named
  have hlocks := B.notSynchronized
  subst hsz
  have hD := hD0.self (sz := s.heap.size)
  generalize hAe : va_A [(mo, .inr (6, [.int 0, .ref q1, .int (nI g), .ref q3, .ref q4, .ref q5, .ref q6, .int 0, .int 0, .int 0, .long 0, .ref q11, .int 0, .long 0, .long 0]))] s.heap.size = A at hD ⊢
  have hA : ∀ q : Nat, s.heap.size ≤ q → A q := fun q h => by rw [← hAe]; exact Or.inr h
  have hS : va_S A s.heap s.heap [] := va_S.rf
  have hl := lv_entry ([.ref mo, .int 2]) (n := 5) (Nat.le_of_ble_eq_true rfl)
  rw [lg_entry_eq]
  generalize (lg_sl ([.ref mo, .int 2]) ++ List.replicate (5 - (lg_sl ([.ref mo, .int 2])).length) Slot.unset).toArray = ls at hl ⊢
  have hl : lv_has ls 5 [(0, .ref mo), (1, .int 2)] := hl
  refine lv_aload_n hx hb dX6_pair_0 rfl (lv_at hl 0 rfl) ?_
  refine lv_iload_n hx hb dX6_pair_1 rfl (lv_at hl 1 rfl) ?_
  refine lv_if_lt (tgt := 10) hx hb dX6_pair_2 (by decide) (fun c_1 => absurd c_1 (by decide)) (fun c_1 => ?_)
  refine lv_iload_n hx hb dX6_pair_5 rfl (lv_at hl 1 rfl) ?_
  refine lv_iconst (v := 4) hx hb dX6_pair_6 (by decide) ?_
  refine lv_icmp_le (tgt := 14) hx hb dX6_pair_7 (by decide) (fun c_2 => ?_) (fun c_2 => absurd c_2 (by decide))
  refine lv_iconst (v := 0) hx hb dX6_pair_14 (by decide) ?_
  refine jw_i (wr := []) (va_runV (As := [.int 0]) (rest := []) ⟨hx, hb, hml, hown, hts⟩ (cM_refuses_0 l D cI cL cQ mo 0 q1 (nI g) q3 q4 q5 q6 0 0 0 0 q11 0 0 0 _) (cwV 1 hts gX6_pair_X6_refuses rfl rfl rfl (by decide +kernel) ⟨Nat.le_of_ble_eq_true rfl, Nat.le_of_ble_eq_true rfl⟩) (jw_V hK hN hP hD [0] (by decide) rfl 6 0 rfl rfl rfl) rfl rfl hl.1 rfl (lv_room (Nat.le_of_ble_eq_true rfl)) dX6_pair_15 ⟨Nat.le_of_ble_eq_true rfl, Nat.le_of_ble_eq_true rfl⟩) hP hD hS hA [0] [] rfl rfl (by decide) (by decide) (fun r u H locs f_3 hP hD hS => ?_)
  obtain ⟨rfl, rfl⟩ := f_3
  have hP : va_P D vwCl [(mo, .inr (6, [.int 0, .ref q1, .int (nI g), .ref q3, .ref q4, .ref q5, .ref q6, .int 0, .int 0, .int 0, .long 0, .ref q11, .int 0, .long 0, .long 0]))] H := hP
  have hD : va_D A [(mo, .inr (6, [.int 0, .ref q1, .int (nI g), .ref q3, .ref q4, .ref q5, .ref q6, .int 0, .int 0, .int 0, .long 0, .ref q11, .int 0, .long 0, .long 0]))] := hD
  refine lv_if_eq (tgt := 23) hx hb dX6_pair_18 (by decide) (fun c_4 => ?_) (fun c_4 => absurd c_4 (by decide))
  refine lv_aload_n hx hb dX6_pair_23 rfl (lv_at hl 0 rfl) ?_
  refine va_get (D := D) (ci := 6) (v := .int 0) (C := RX6) (T := TX6) (N := 15) hx hb hts (by decide +kernel) hown hK hP 0 rfl rfl 7 (by decide) (hts (.fieldLink RX6 43 "JoinDeskModel" "prepared" "Z") (by decide +kernel)) (fun _ h9 => h9) rfl dX6_pair_24 ?_
  refine lv_if_eq (tgt := 45) hx hb dX6_pair_27 (by decide) (fun c_5 => ?_) (fun c_5 => absurd c_5 (by decide))
  refine lv_iconst (v := 0) hx hb dX6_pair_45 (by decide) ?_
  refine lv_istore_n (lv' := [(2, .int 0), (0, .ref mo), (1, .int 2)]) hx hb dX6_pair_46 rfl hl (by decide) rfl (fun ls hl => ?_)
  refine lv_iload_n hx hb dX6_pair_47 rfl (lv_at hl 2 rfl) ?_
  refine lv_iconst (v := 1) hx hb dX6_pair_48 (by decide) ?_
  refine lv_icmp_eq (tgt := 57) hx hb dX6_pair_49 (by decide) (fun c_6 => absurd c_6 (by decide)) (fun c_6 => ?_)
  refine lv_iload_n hx hb dX6_pair_52 rfl (lv_at hl 2 rfl) ?_
  refine lv_iconst (v := 3) hx hb dX6_pair_53 (by decide) ?_
  refine lv_icmp_ne (tgt := 61) hx hb dX6_pair_54 (by decide) (fun c_7 => ?_) (fun c_7 => absurd c_7 (by decide))
  refine lv_iconst (v := 1) hx hb dX6_pair_61 (by decide) ?_
  refine lv_istore_n (lv' := [(3, .int 1), (2, .int 0), (0, .ref mo), (1, .int 2)]) hx hb dX6_pair_62 rfl hl (by decide) rfl (fun ls hl => ?_)
  refine lv_iload_n hx hb dX6_pair_63 rfl (lv_at hl 3 rfl) ?_
  refine lv_if_ne (tgt := 114) hx hb dX6_pair_64 (by decide) (fun c_8 => ?_) (fun c_8 => absurd c_8 (by decide))
  refine lv_iload_n hx hb dX6_pair_114 rfl (lv_at hl 1 rfl) ?_
  refine lv_if_eq (tgt := 135) hx hb dX6_pair_115 (by decide) (fun c_9 => ?_) (fun c_9 => absurd c_9 (by decide))
  refine lv_iconst (v := 0) hx hb dX6_pair_135 (by decide) ?_
  refine lv_istore (lv' := [(4, .int 0), (3, .int 1), (2, .int 0), (0, .ref mo), (1, .int 2)]) hx hb dX6_pair_136 hl (by decide) rfl (fun ls hl => ?_)
  refine lv_iload_n hx hb dX6_pair_138 rfl (lv_at hl 4 rfl) ?_
  refine lv_iconst (v := 3) hx hb dX6_pair_139 (by decide) ?_
  refine lv_icmp_ge (tgt := 169) hx hb dX6_pair_140 (by decide) (fun c_10 => absurd c_10 (by decide)) (fun c_10 => ?_)
  refine lv_iload hx hb dX6_pair_143 (lv_at hl 0 rfl) ?_
  refine lv_if_eq (tgt := 165) hx hb dX6_pair_145 (by decide) (fun c_11 => ?_) (fun c_11 => absurd c_11 (by decide))
  refine lv_iconst (v := 0) hx hb dX6_pair_165 (by decide) ?_
  refine lv_goto (tgt := 198) hx hb dX6_pair_166 (by decide) ?_
  refine W.widen (k := 0) (n := 0) (by omega) (by omega) ?_
  exact W.iret (v := 0) hx hb hr (fun t ht hW => ⟨⟨0, [(mo, .inr (6, [.int 0, .ref q1, .int (nI g), .ref q3, .ref q4, .ref q5, .ref q6, .int 0, .int 0, .int 0, .long 0, .ref q11, .int 0, .long 0, .long 0]))], rfl, (by exact ⟨rfl, rfl⟩), by rw [ht]; exact hP, hD⟩, hS.F ht⟩) hS.2.2 dX6_pair_198
set_option maxHeartbeats 1000000 in
set_option maxRecDepth 100000 in
theorem cM_pair_3 (l : Launch) (D : va_G) (cI cL cQ : ClassId) (g : Nat) (mo : Nat) (q1 : Nat) (q3 : Nat) (q4 : Nat) (q5 : Nat) (q6 : Nat) (q11 : Nat) (sz : Nat) : Met l yX6_pair wsX6_pair ({ frames := 1, cells := 0, slots := 0, locals := 21 }) (jw_P D vwCl (jT cI cL cQ) cL cQ [.ref mo, .int 3] [(mo, .inr (6, [.int 0, .ref q1, .int (nI g), .ref q3, .ref q4, .ref q5, .ref q6, .int 0, .int 0, .int 0, .long 0, .ref q11, .int 0, .long 0, .long 0]))] sz) (va_Qi (fun (r : Int32) (u : va_W) => r = (-1) ∧ u = [(mo, .inr (6, [.int 0, .ref q1, .int (nI g), .ref q3, .ref q4, .ref q5, .ref q6, .int 0, .int 0, .int 0, .long 0, .ref q11, .int 0, .long 0, .long 0]))]) (jw_B D vwCl (va_A [(mo, .inr (6, [.int 0, .ref q1, .int (nI g), .ref q3, .ref q4, .ref q5, .ref q6, .int 0, .int 0, .int 0, .long 0, .ref q11, .int 0, .long 0, .long 0]))] sz) (fun u : va_W => u)) (va_A [(mo, .inr (6, [.int 0, .ref q1, .int (nI g), .ref q3, .ref q4, .ref q5, .ref q6, .int 0, .int 0, .int 0, .long 0, .ref q11, .int 0, .long 0, .long 0]))] sz)) 0 0 (va_A [(mo, .inr (6, [.int 0, .ref q1, .int (nI g), .ref q3, .ref q4, .ref q5, .ref q6, .int 0, .int 0, .int 0, .long 0, .ref q11, .int 0, .long 0, .long 0]))] sz) := by
  refine Met.ofW (cc := cX6_pair) (maxL := 5) (ret := (some .int)) (by decide) rfl ?_
  intro p e s m args below meth c s₁ B hml hv
  obtain ⟨rfl, hsz, hP, hK, hN, hD0⟩ := hv
  have hx := B.exec
  have hb := B.bytes
  have hr := B.returns
  have hts := atoms_spec (ws := wsX6_pair) B.pre
  have hown : s.vm.findClass RX6 = some m.cls := findClass_of_methodNamed B.named
  have hlocks := B.notSynchronized
  subst hsz
  have hD := hD0.self (sz := s.heap.size)
  generalize hAe : va_A [(mo, .inr (6, [.int 0, .ref q1, .int (nI g), .ref q3, .ref q4, .ref q5, .ref q6, .int 0, .int 0, .int 0, .long 0, .ref q11, .int 0, .long 0, .long 0]))] s.heap.size = A at hD ⊢
  have hA : ∀ q : Nat, s.heap.size ≤ q → A q := fun q h => by rw [← hAe]; exact Or.inr h
  have hS : va_S A s.heap s.heap [] := va_S.rf
  have hl := lv_entry ([.ref mo, .int 3]) (n := 5) (Nat.le_of_ble_eq_true rfl)
  rw [lg_entry_eq]
  generalize (lg_sl ([.ref mo, .int 3]) ++ List.replicate (5 - (lg_sl ([.ref mo, .int 3])).length) Slot.unset).toArray = ls at hl ⊢
  have hl : lv_has ls 5 [(0, .ref mo), (1, .int 3)] := hl
  refine lv_aload_n hx hb dX6_pair_0 rfl (lv_at hl 0 rfl) ?_
  refine lv_iload_n hx hb dX6_pair_1 rfl (lv_at hl 1 rfl) ?_
  refine lv_if_lt (tgt := 10) hx hb dX6_pair_2 (by decide) (fun c_1 => absurd c_1 (by decide)) (fun c_1 => ?_)
  refine lv_iload_n hx hb dX6_pair_5 rfl (lv_at hl 1 rfl) ?_
  refine lv_iconst (v := 4) hx hb dX6_pair_6 (by decide) ?_
  refine lv_icmp_le (tgt := 14) hx hb dX6_pair_7 (by decide) (fun c_2 => ?_) (fun c_2 => absurd c_2 (by decide))
  refine lv_iconst (v := 0) hx hb dX6_pair_14 (by decide) ?_
  refine jw_i (wr := []) (va_runV (As := [.int 0]) (rest := []) ⟨hx, hb, hml, hown, hts⟩ (cM_refuses_0 l D cI cL cQ mo 0 q1 (nI g) q3 q4 q5 q6 0 0 0 0 q11 0 0 0 _) (cwV 1 hts gX6_pair_X6_refuses rfl rfl rfl (by decide +kernel) ⟨Nat.le_of_ble_eq_true rfl, Nat.le_of_ble_eq_true rfl⟩) (jw_V hK hN hP hD [0] (by decide) rfl 6 0 rfl rfl rfl) rfl rfl hl.1 rfl (lv_room (Nat.le_of_ble_eq_true rfl)) dX6_pair_15 ⟨Nat.le_of_ble_eq_true rfl, Nat.le_of_ble_eq_true rfl⟩) hP hD hS hA [0] [] rfl rfl (by decide) (by decide) (fun r u H locs f_3 hP hD hS => ?_)
  obtain ⟨rfl, rfl⟩ := f_3
  have hP : va_P D vwCl [(mo, .inr (6, [.int 0, .ref q1, .int (nI g), .ref q3, .ref q4, .ref q5, .ref q6, .int 0, .int 0, .int 0, .long 0, .ref q11, .int 0, .long 0, .long 0]))] H := hP
  have hD : va_D A [(mo, .inr (6, [.int 0, .ref q1, .int (nI g), .ref q3, .ref q4, .ref q5, .ref q6, .int 0, .int 0, .int 0, .long 0, .ref q11, .int 0, .long 0, .long 0]))] := hD
  refine lv_if_eq (tgt := 23) hx hb dX6_pair_18 (by decide) (fun c_4 => ?_) (fun c_4 => absurd c_4 (by decide))
  refine lv_aload_n hx hb dX6_pair_23 rfl (lv_at hl 0 rfl) ?_
  refine va_get (D := D) (ci := 6) (v := .int 0) (C := RX6) (T := TX6) (N := 15) hx hb hts (by decide +kernel) hown hK hP 0 rfl rfl 7 (by decide) (hts (.fieldLink RX6 43 "JoinDeskModel" "prepared" "Z") (by decide +kernel)) (fun _ h9 => h9) rfl dX6_pair_24 ?_
  refine lv_if_eq (tgt := 45) hx hb dX6_pair_27 (by decide) (fun c_5 => ?_) (fun c_5 => absurd c_5 (by decide))
  refine lv_iconst (v := 0) hx hb dX6_pair_45 (by decide) ?_
  refine lv_istore_n (lv' := [(2, .int 0), (0, .ref mo), (1, .int 3)]) hx hb dX6_pair_46 rfl hl (by decide) rfl (fun ls hl => ?_)
  refine lv_iload_n hx hb dX6_pair_47 rfl (lv_at hl 2 rfl) ?_
  refine lv_iconst (v := 1) hx hb dX6_pair_48 (by decide) ?_
  refine lv_icmp_eq (tgt := 57) hx hb dX6_pair_49 (by decide) (fun c_6 => absurd c_6 (by decide)) (fun c_6 => ?_)
  refine lv_iload_n hx hb dX6_pair_52 rfl (lv_at hl 2 rfl) ?_
  refine lv_iconst (v := 3) hx hb dX6_pair_53 (by decide) ?_
  refine lv_icmp_ne (tgt := 61) hx hb dX6_pair_54 (by decide) (fun c_7 => absurd c_7 (by decide)) (fun c_7 => ?_)
  refine lv_iconst (v := 0) hx hb dX6_pair_57 (by decide) ?_
  refine lv_goto (tgt := 62) hx hb dX6_pair_58 (by decide) ?_
  refine lv_istore_n (lv' := [(3, .int 0), (2, .int 0), (0, .ref mo), (1, .int 3)]) hx hb dX6_pair_62 rfl hl (by decide) rfl (fun ls hl => ?_)
  refine lv_iload_n hx hb dX6_pair_63 rfl (lv_at hl 3 rfl) ?_
  refine lv_if_ne (tgt := 114) hx hb dX6_pair_64 (by decide) (fun c_8 => ?_) (fun c_8 => absurd c_8 (by decide))
  refine lv_iload_n hx hb dX6_pair_114 rfl (lv_at hl 1 rfl) ?_
  refine lv_if_eq (tgt := 135) hx hb dX6_pair_115 (by decide) (fun c_9 => ?_) (fun c_9 => absurd c_9 (by decide))
  refine lv_iconst (v := 0) hx hb dX6_pair_135 (by decide) ?_
  refine lv_istore (lv' := [(4, .int 0), (3, .int 0), (2, .int 0), (0, .ref mo), (1, .int 3)]) hx hb dX6_pair_136 hl (by decide) rfl (fun ls hl => ?_)
  refine lv_iload_n hx hb dX6_pair_138 rfl (lv_at hl 4 rfl) ?_
  refine lv_iconst (v := 3) hx hb dX6_pair_139 (by decide) ?_
  refine lv_icmp_ge (tgt := 169) hx hb dX6_pair_140 (by decide) (fun c_10 => ?_) (fun c_10 => absurd c_10 (by decide))
  refine lv_iload hx hb dX6_pair_169 (lv_at hl 0 rfl) ?_
  refine lv_if_eq (tgt := 197) hx hb dX6_pair_171 (by decide) (fun c_11 => ?_) (fun c_11 => absurd c_11 (by decide))
  refine lv_iconst (v := (-1)) hx hb dX6_pair_197 (by decide) ?_
  refine W.widen (k := 0) (n := 0) (by omega) (by omega) ?_
  exact W.iret (v := (-1)) hx hb hr (fun t ht hW => ⟨⟨(-1), [(mo, .inr (6, [.int 0, .ref q1, .int (nI g), .ref q3, .ref q4, .ref q5, .ref q6, .int 0, .int 0, .int 0, .long 0, .ref q11, .int 0, .long 0, .long 0]))], rfl, (by exact ⟨rfl, rfl⟩), by rw [ht]; exact hP, hD⟩, hS.F ht⟩) hS.2.2 dX6_pair_198
set_option maxHeartbeats 1000000 in
set_option maxRecDepth 100000 in
theorem cM_pair_4 (l : Launch) (D : va_G) (cI cL cQ : ClassId) (g : Nat) (mo : Nat) (q1 : Nat) (q3 : Nat) (q4 : Nat) (q5 : Nat) (q6 : Nat) (q11 : Nat) (sz : Nat) : Met l yX6_pair wsX6_pair ({ frames := 1, cells := 0, slots := 0, locals := 21 }) (jw_P D vwCl (jT cI cL cQ) cL cQ [.ref mo, .int 4] [(mo, .inr (6, [.int 0, .ref q1, .int (nI g), .ref q3, .ref q4, .ref q5, .ref q6, .int 0, .int 0, .int 0, .long 0, .ref q11, .int 0, .long 0, .long 0]))] sz) (va_Qi (fun (r : Int32) (u : va_W) => r = (-1) ∧ u = [(mo, .inr (6, [.int 0, .ref q1, .int (nI g), .ref q3, .ref q4, .ref q5, .ref q6, .int 0, .int 0, .int 0, .long 0, .ref q11, .int 0, .long 0, .long 0]))]) (jw_B D vwCl (va_A [(mo, .inr (6, [.int 0, .ref q1, .int (nI g), .ref q3, .ref q4, .ref q5, .ref q6, .int 0, .int 0, .int 0, .long 0, .ref q11, .int 0, .long 0, .long 0]))] sz) (fun u : va_W => u)) (va_A [(mo, .inr (6, [.int 0, .ref q1, .int (nI g), .ref q3, .ref q4, .ref q5, .ref q6, .int 0, .int 0, .int 0, .long 0, .ref q11, .int 0, .long 0, .long 0]))] sz)) 0 0 (va_A [(mo, .inr (6, [.int 0, .ref q1, .int (nI g), .ref q3, .ref q4, .ref q5, .ref q6, .int 0, .int 0, .int 0, .long 0, .ref q11, .int 0, .long 0, .long 0]))] sz) := by
  refine Met.ofW (cc := cX6_pair) (maxL := 5) (ret := (some .int)) (by decide) rfl ?_
  intro p e s m args below meth c s₁ B hml hv
  obtain ⟨rfl, hsz, hP, hK, hN, hD0⟩ := hv
  have hx := B.exec
  have hb := B.bytes
  have hr := B.returns
  have hts := atoms_spec (ws := wsX6_pair) B.pre
  have hown : s.vm.findClass RX6 = some m.cls := findClass_of_methodNamed B.named
  have hlocks := B.notSynchronized
  subst hsz
  have hD := hD0.self (sz := s.heap.size)
  generalize hAe : va_A [(mo, .inr (6, [.int 0, .ref q1, .int (nI g), .ref q3, .ref q4, .ref q5, .ref q6, .int 0, .int 0, .int 0, .long 0, .ref q11, .int 0, .long 0, .long 0]))] s.heap.size = A at hD ⊢
  have hA : ∀ q : Nat, s.heap.size ≤ q → A q := fun q h => by rw [← hAe]; exact Or.inr h
  have hS : va_S A s.heap s.heap [] := va_S.rf
  have hl := lv_entry ([.ref mo, .int 4]) (n := 5) (Nat.le_of_ble_eq_true rfl)
  rw [lg_entry_eq]
  generalize (lg_sl ([.ref mo, .int 4]) ++ List.replicate (5 - (lg_sl ([.ref mo, .int 4])).length) Slot.unset).toArray = ls at hl ⊢
  have hl : lv_has ls 5 [(0, .ref mo), (1, .int 4)] := hl
  refine lv_aload_n hx hb dX6_pair_0 rfl (lv_at hl 0 rfl) ?_
  refine lv_iload_n hx hb dX6_pair_1 rfl (lv_at hl 1 rfl) ?_
  refine lv_if_lt (tgt := 10) hx hb dX6_pair_2 (by decide) (fun c_1 => absurd c_1 (by decide)) (fun c_1 => ?_)
  refine lv_iload_n hx hb dX6_pair_5 rfl (lv_at hl 1 rfl) ?_
  refine lv_iconst (v := 4) hx hb dX6_pair_6 (by decide) ?_
  refine lv_icmp_le (tgt := 14) hx hb dX6_pair_7 (by decide) (fun c_2 => ?_) (fun c_2 => absurd c_2 (by decide))
  refine lv_iconst (v := 0) hx hb dX6_pair_14 (by decide) ?_
  refine jw_i (wr := []) (va_runV (As := [.int 0]) (rest := []) ⟨hx, hb, hml, hown, hts⟩ (cM_refuses_0 l D cI cL cQ mo 0 q1 (nI g) q3 q4 q5 q6 0 0 0 0 q11 0 0 0 _) (cwV 1 hts gX6_pair_X6_refuses rfl rfl rfl (by decide +kernel) ⟨Nat.le_of_ble_eq_true rfl, Nat.le_of_ble_eq_true rfl⟩) (jw_V hK hN hP hD [0] (by decide) rfl 6 0 rfl rfl rfl) rfl rfl hl.1 rfl (lv_room (Nat.le_of_ble_eq_true rfl)) dX6_pair_15 ⟨Nat.le_of_ble_eq_true rfl, Nat.le_of_ble_eq_true rfl⟩) hP hD hS hA [0] [] rfl rfl (by decide) (by decide) (fun r u H locs f_3 hP hD hS => ?_)
  obtain ⟨rfl, rfl⟩ := f_3
  have hP : va_P D vwCl [(mo, .inr (6, [.int 0, .ref q1, .int (nI g), .ref q3, .ref q4, .ref q5, .ref q6, .int 0, .int 0, .int 0, .long 0, .ref q11, .int 0, .long 0, .long 0]))] H := hP
  have hD : va_D A [(mo, .inr (6, [.int 0, .ref q1, .int (nI g), .ref q3, .ref q4, .ref q5, .ref q6, .int 0, .int 0, .int 0, .long 0, .ref q11, .int 0, .long 0, .long 0]))] := hD
  refine lv_if_eq (tgt := 23) hx hb dX6_pair_18 (by decide) (fun c_4 => ?_) (fun c_4 => absurd c_4 (by decide))
  refine lv_aload_n hx hb dX6_pair_23 rfl (lv_at hl 0 rfl) ?_
  refine va_get (D := D) (ci := 6) (v := .int 0) (C := RX6) (T := TX6) (N := 15) hx hb hts (by decide +kernel) hown hK hP 0 rfl rfl 7 (by decide) (hts (.fieldLink RX6 43 "JoinDeskModel" "prepared" "Z") (by decide +kernel)) (fun _ h9 => h9) rfl dX6_pair_24 ?_
  refine lv_if_eq (tgt := 45) hx hb dX6_pair_27 (by decide) (fun c_5 => ?_) (fun c_5 => absurd c_5 (by decide))
  refine lv_iconst (v := 0) hx hb dX6_pair_45 (by decide) ?_
  refine lv_istore_n (lv' := [(2, .int 0), (0, .ref mo), (1, .int 4)]) hx hb dX6_pair_46 rfl hl (by decide) rfl (fun ls hl => ?_)
  refine lv_iload_n hx hb dX6_pair_47 rfl (lv_at hl 2 rfl) ?_
  refine lv_iconst (v := 1) hx hb dX6_pair_48 (by decide) ?_
  refine lv_icmp_eq (tgt := 57) hx hb dX6_pair_49 (by decide) (fun c_6 => absurd c_6 (by decide)) (fun c_6 => ?_)
  refine lv_iload_n hx hb dX6_pair_52 rfl (lv_at hl 2 rfl) ?_
  refine lv_iconst (v := 3) hx hb dX6_pair_53 (by decide) ?_
  refine lv_icmp_ne (tgt := 61) hx hb dX6_pair_54 (by decide) (fun c_7 => ?_) (fun c_7 => absurd c_7 (by decide))
  refine lv_iconst (v := 1) hx hb dX6_pair_61 (by decide) ?_
  refine lv_istore_n (lv' := [(3, .int 1), (2, .int 0), (0, .ref mo), (1, .int 4)]) hx hb dX6_pair_62 rfl hl (by decide) rfl (fun ls hl => ?_)
  refine lv_iload_n hx hb dX6_pair_63 rfl (lv_at hl 3 rfl) ?_
  refine lv_if_ne (tgt := 114) hx hb dX6_pair_64 (by decide) (fun c_8 => ?_) (fun c_8 => absurd c_8 (by decide))
  refine lv_iload_n hx hb dX6_pair_114 rfl (lv_at hl 1 rfl) ?_
  refine lv_if_eq (tgt := 135) hx hb dX6_pair_115 (by decide) (fun c_9 => ?_) (fun c_9 => absurd c_9 (by decide))
  refine lv_iconst (v := 0) hx hb dX6_pair_135 (by decide) ?_
  refine lv_istore (lv' := [(4, .int 0), (3, .int 1), (2, .int 0), (0, .ref mo), (1, .int 4)]) hx hb dX6_pair_136 hl (by decide) rfl (fun ls hl => ?_)
  refine lv_iload_n hx hb dX6_pair_138 rfl (lv_at hl 4 rfl) ?_
  refine lv_iconst (v := 3) hx hb dX6_pair_139 (by decide) ?_
  refine lv_icmp_ge (tgt := 169) hx hb dX6_pair_140 (by decide) (fun c_10 => ?_) (fun c_10 => absurd c_10 (by decide))
  refine lv_iload hx hb dX6_pair_169 (lv_at hl 0 rfl) ?_
  refine lv_if_eq (tgt := 197) hx hb dX6_pair_171 (by decide) (fun c_11 => ?_) (fun c_11 => absurd c_11 (by decide))
  refine lv_iconst (v := (-1)) hx hb dX6_pair_197 (by decide) ?_
  refine W.widen (k := 0) (n := 0) (by omega) (by omega) ?_
  exact W.iret (v := (-1)) hx hb hr (fun t ht hW => ⟨⟨(-1), [(mo, .inr (6, [.int 0, .ref q1, .int (nI g), .ref q3, .ref q4, .ref q5, .ref q6, .int 0, .int 0, .int 0, .long 0, .ref q11, .int 0, .long 0, .long 0]))], rfl, (by exact ⟨rfl, rfl⟩), by rw [ht]; exact hP, hD⟩, hS.F ht⟩) hS.2.2 dX6_pair_198
set_option maxHeartbeats 1000000 in
set_option maxRecDepth 100000 in
theorem cM_about_t (l : Launch) (D : va_G) (cI cL cQ : ClassId) (g : Nat) (mo : Nat) (q1 : Nat) (q3 : Nat) (q4 : Nat) (q5 : Nat) (q6 : Nat) (q11 : Nat) (x : Int32) (sz : Nat) (h1 : x < 0 ∨ 4 < x) : Met l yX6_about wsX6_about ({ frames := 1, cells := 0, slots := 0, locals := 21 }) (jw_P D vwCl (jT cI cL cQ) cL cQ [.ref mo, .int x] [(mo, .inr (6, [.int 0, .ref q1, .int (nI g), .ref q3, .ref q4, .ref q5, .ref q6, .int 0, .int 0, .int 0, .long 0, .ref q11, .int 0, .long 0, .long 0]))] sz) (va_Ql (fun (r : Int64) (u : va_W) => r = 0 ∧ u = [(mo, .inr (6, [.int 1, .ref q1, .int (nI g), .ref q3, .ref q4, .ref q5, .ref q6, .int 0, .int 0, .int 0, .long 0, .ref q11, .int 0, .long 0, .long 0]))]) (jw_B D vwCl (va_A [(mo, .inr (6, [.int 0, .ref q1, .int (nI g), .ref q3, .ref q4, .ref q5, .ref q6, .int 0, .int 0, .int 0, .long 0, .ref q11, .int 0, .long 0, .long 0]))] sz) (fun u : va_W => u)) (va_A [(mo, .inr (6, [.int 0, .ref q1, .int (nI g), .ref q3, .ref q4, .ref q5, .ref q6, .int 0, .int 0, .int 0, .long 0, .ref q11, .int 0, .long 0, .long 0]))] sz)) 0 0 (va_A [(mo, .inr (6, [.int 0, .ref q1, .int (nI g), .ref q3, .ref q4, .ref q5, .ref q6, .int 0, .int 0, .int 0, .long 0, .ref q11, .int 0, .long 0, .long 0]))] sz) := by
  refine Met.ofW (cc := cX6_about) (maxL := 2) (ret := (some .long)) (by decide) rfl ?_
  intro p e s m args below meth c s₁ B hml hv
  obtain ⟨rfl, hsz, hP, hK, hN, hD0⟩ := hv
  have hx := B.exec
  have hb := B.bytes
  have hr := B.returns
  have hts := atoms_spec (ws := wsX6_about) B.pre
  have hown : s.vm.findClass RX6 = some m.cls := findClass_of_methodNamed B.named
  have hlocks := B.notSynchronized
  subst hsz
  have hD := hD0.self (sz := s.heap.size)
  generalize hAe : va_A [(mo, .inr (6, [.int 0, .ref q1, .int (nI g), .ref q3, .ref q4, .ref q5, .ref q6, .int 0, .int 0, .int 0, .long 0, .ref q11, .int 0, .long 0, .long 0]))] s.heap.size = A at hD ⊢
  have hA : ∀ q : Nat, s.heap.size ≤ q → A q := fun q h => by rw [← hAe]; exact Or.inr h
  have hS : va_S A s.heap s.heap [] := va_S.rf
  have hl := lv_entry ([.ref mo, .int x]) (n := 2) (Nat.le_of_ble_eq_true rfl)
  rw [lg_entry_eq]
  generalize (lg_sl ([.ref mo, .int x]) ++ List.replicate (2 - (lg_sl ([.ref mo, .int x])).length) Slot.unset).toArray = ls at hl ⊢
  have hl : lv_has ls 2 [(0, .ref mo), (1, .int x)] := hl
  refine lv_aload_n hx hb dX6_about_0 rfl (lv_at hl 0 rfl) ?_
  refine lv_iload_n hx hb dX6_about_1 rfl (lv_at hl 1 rfl) ?_
  refine lv_if_lt (tgt := 10) hx hb dX6_about_2 (by decide) (fun c_1 => ?_) (fun c_1 => ?_)
  · refine lv_iconst (v := 1) hx hb dX6_about_10 (by decide) ?_
    refine lv_goto (tgt := 15) hx hb dX6_about_11 (by decide) ?_
    refine jw_i (wr := []) (va_runV (As := [.int 1]) (rest := []) ⟨hx, hb, hml, hown, hts⟩ (cM_refuses_1 l D cI cL cQ mo 0 q1 (nI g) q3 q4 q5 q6 0 0 0 0 q11 0 0 0 _) (cwV 1 hts gX6_about_X6_refuses rfl rfl rfl (by decide +kernel) ⟨Nat.le_of_ble_eq_true rfl, Nat.le_of_ble_eq_true rfl⟩) (jw_V hK hN hP hD [0] (by decide) rfl 6 0 rfl rfl rfl) rfl rfl hl.1 rfl (lv_room (Nat.le_of_ble_eq_true rfl)) dX6_about_15 ⟨Nat.le_of_ble_eq_true rfl, Nat.le_of_ble_eq_true rfl⟩) hP hD hS hA [0] [] rfl rfl (by decide) (by decide) (fun r u H locs f_2 hP hD hS => ?_)
    obtain ⟨rfl, rfl⟩ := f_2
    have hP : va_P D vwCl [(mo, .inr (6, [.int 1, .ref q1, .int (nI g), .ref q3, .ref q4, .ref q5, .ref q6, .int 0, .int 0, .int 0, .long 0, .ref q11, .int 0, .long 0, .long 0]))] H := hP
    have hD : va_D A [(mo, .inr (6, [.int 1, .ref q1, .int (nI g), .ref q3, .ref q4, .ref q5, .ref q6, .int 0, .int 0, .int 0, .long 0, .ref q11, .int 0, .long 0, .long 0]))] := hD
    refine lv_if_eq (tgt := 23) hx hb dX6_about_18 (by decide) (fun c_3 => absurd c_3 (by decide)) (fun c_3 => ?_)
    refine lv_lconst (v := 0) hx hb dX6_about_21 (by decide) ?_
    refine W.widen (k := 0) (n := 0) (by omega) (by omega) ?_
    exact W.lret (v := 0) hx hb hr (fun t ht hW => ⟨⟨0, [(mo, .inr (6, [.int 1, .ref q1, .int (nI g), .ref q3, .ref q4, .ref q5, .ref q6, .int 0, .int 0, .int 0, .long 0, .ref q11, .int 0, .long 0, .long 0]))], rfl, (by exact ⟨rfl, rfl⟩), by rw [ht]; exact hP, hD⟩, hS.F ht⟩) hS.2.2 dX6_about_22
  · refine lv_iload_n hx hb dX6_about_5 rfl (lv_at hl 1 rfl) ?_
    refine lv_iconst (v := 4) hx hb dX6_about_6 (by decide) ?_
    refine lv_icmp_le (tgt := 14) hx hb dX6_about_7 (by decide) (fun c_4 => absurd c_4 (by exact j_nle (h1.resolve_left (by assumption)))) (fun c_4 => ?_)
    refine lv_iconst (v := 1) hx hb dX6_about_10 (by decide) ?_
    refine lv_goto (tgt := 15) hx hb dX6_about_11 (by decide) ?_
    refine jw_i (wr := []) (va_runV (As := [.int 1]) (rest := []) ⟨hx, hb, hml, hown, hts⟩ (cM_refuses_1 l D cI cL cQ mo 0 q1 (nI g) q3 q4 q5 q6 0 0 0 0 q11 0 0 0 _) (cwV 1 hts gX6_about_X6_refuses rfl rfl rfl (by decide +kernel) ⟨Nat.le_of_ble_eq_true rfl, Nat.le_of_ble_eq_true rfl⟩) (jw_V hK hN hP hD [0] (by decide) rfl 6 0 rfl rfl rfl) rfl rfl hl.1 rfl (lv_room (Nat.le_of_ble_eq_true rfl)) dX6_about_15 ⟨Nat.le_of_ble_eq_true rfl, Nat.le_of_ble_eq_true rfl⟩) hP hD hS hA [0] [] rfl rfl (by decide) (by decide) (fun r u H locs f_5 hP hD hS => ?_)
    obtain ⟨rfl, rfl⟩ := f_5
    have hP : va_P D vwCl [(mo, .inr (6, [.int 1, .ref q1, .int (nI g), .ref q3, .ref q4, .ref q5, .ref q6, .int 0, .int 0, .int 0, .long 0, .ref q11, .int 0, .long 0, .long 0]))] H := hP
    have hD : va_D A [(mo, .inr (6, [.int 1, .ref q1, .int (nI g), .ref q3, .ref q4, .ref q5, .ref q6, .int 0, .int 0, .int 0, .long 0, .ref q11, .int 0, .long 0, .long 0]))] := hD
    refine lv_if_eq (tgt := 23) hx hb dX6_about_18 (by decide) (fun c_6 => absurd c_6 (by decide)) (fun c_6 => ?_)
    refine lv_lconst (v := 0) hx hb dX6_about_21 (by decide) ?_
    refine W.widen (k := 0) (n := 0) (by omega) (by omega) ?_
    exact W.lret (v := 0) hx hb hr (fun t ht hW => ⟨⟨0, [(mo, .inr (6, [.int 1, .ref q1, .int (nI g), .ref q3, .ref q4, .ref q5, .ref q6, .int 0, .int 0, .int 0, .long 0, .ref q11, .int 0, .long 0, .long 0]))], rfl, (by exact ⟨rfl, rfl⟩), by rw [ht]; exact hP, hD⟩, hS.F ht⟩) hS.2.2 dX6_about_22
set_option maxHeartbeats 1000000 in
set_option maxRecDepth 100000 in
theorem cM_about_0 (l : Launch) (D : va_G) (cI cL cQ : ClassId) (g : Nat) (mo : Nat) (q1 : Nat) (q3 : Nat) (q4 : Nat) (q5 : Nat) (q6 : Nat) (q11 : Nat) (sz : Nat) : Met l yX6_about wsX6_about ({ frames := 1, cells := 0, slots := 0, locals := 21 }) (jw_P D vwCl (jT cI cL cQ) cL cQ [.ref mo, .int 0] [(mo, .inr (6, [.int 0, .ref q1, .int (nI g), .ref q3, .ref q4, .ref q5, .ref q6, .int 0, .int 0, .int 0, .long 0, .ref q11, .int 0, .long 0, .long 0])), (q6, .inl (cI, 2, .inl (fun _ => 0)))] sz) (va_Ql (fun (r : Int64) (u : va_W) => r = 0 ∧ u = [(mo, .inr (6, [.int 0, .ref q1, .int (nI g), .ref q3, .ref q4, .ref q5, .ref q6, .int 0, .int 0, .int 0, .long 0, .ref q11, .int 0, .long 0, .long 0])), (q6, .inl (cI, 2, .inl (fun _ => 0)))]) (jw_B D vwCl (va_A [(mo, .inr (6, [.int 0, .ref q1, .int (nI g), .ref q3, .ref q4, .ref q5, .ref q6, .int 0, .int 0, .int 0, .long 0, .ref q11, .int 0, .long 0, .long 0])), (q6, .inl (cI, 2, .inl (fun _ => 0)))] sz) (fun u : va_W => u)) (va_A [(mo, .inr (6, [.int 0, .ref q1, .int (nI g), .ref q3, .ref q4, .ref q5, .ref q6, .int 0, .int 0, .int 0, .long 0, .ref q11, .int 0, .long 0, .long 0])), (q6, .inl (cI, 2, .inl (fun _ => 0)))] sz)) 0 0 (va_A [(mo, .inr (6, [.int 0, .ref q1, .int (nI g), .ref q3, .ref q4, .ref q5, .ref q6, .int 0, .int 0, .int 0, .long 0, .ref q11, .int 0, .long 0, .long 0])), (q6, .inl (cI, 2, .inl (fun _ => 0)))] sz) := by
  refine Met.ofW (cc := cX6_about) (maxL := 2) (ret := (some .long)) (by decide) rfl ?_
  intro p e s m args below meth c s₁ B hml hv
  obtain ⟨rfl, hsz, hP, hK, hN, hD0⟩ := hv
  have hx := B.exec
  have hb := B.bytes
  have hr := B.returns
  have hts := atoms_spec (ws := wsX6_about) B.pre
  have hown : s.vm.findClass RX6 = some m.cls := findClass_of_methodNamed B.named
  have hlocks := B.notSynchronized
  subst hsz
  have hD := hD0.self (sz := s.heap.size)
  generalize hAe : va_A [(mo, .inr (6, [.int 0, .ref q1, .int (nI g), .ref q3, .ref q4, .ref q5, .ref q6, .int 0, .int 0, .int 0, .long 0, .ref q11, .int 0, .long 0, .long 0])), (q6, .inl (cI, 2, .inl (fun _ => 0)))] s.heap.size = A at hD ⊢
  have hA : ∀ q : Nat, s.heap.size ≤ q → A q := fun q h => by rw [← hAe]; exact Or.inr h
  have hS : va_S A s.heap s.heap [] := va_S.rf
  have hl := lv_entry ([.ref mo, .int 0]) (n := 2) (Nat.le_of_ble_eq_true rfl)
  rw [lg_entry_eq]
  generalize (lg_sl ([.ref mo, .int 0]) ++ List.replicate (2 - (lg_sl ([.ref mo, .int 0])).length) Slot.unset).toArray = ls at hl ⊢
  have hl : lv_has ls 2 [(0, .ref mo), (1, .int 0)] := hl
  refine lv_aload_n hx hb dX6_about_0 rfl (lv_at hl 0 rfl) ?_
  refine lv_iload_n hx hb dX6_about_1 rfl (lv_at hl 1 rfl) ?_
  refine lv_if_lt (tgt := 10) hx hb dX6_about_2 (by decide) (fun c_1 => absurd c_1 (by decide)) (fun c_1 => ?_)
  refine lv_iload_n hx hb dX6_about_5 rfl (lv_at hl 1 rfl) ?_
  refine lv_iconst (v := 4) hx hb dX6_about_6 (by decide) ?_
  refine lv_icmp_le (tgt := 14) hx hb dX6_about_7 (by decide) (fun c_2 => ?_) (fun c_2 => absurd c_2 (by decide))
  refine lv_iconst (v := 0) hx hb dX6_about_14 (by decide) ?_
  refine jw_i (wr := [(q6, .inl (cI, 2, .inl (fun _ => 0)))]) (va_runV (As := [.int 0]) (rest := []) ⟨hx, hb, hml, hown, hts⟩ (cM_refuses_0 l D cI cL cQ mo 0 q1 (nI g) q3 q4 q5 q6 0 0 0 0 q11 0 0 0 _) (cwV 1 hts gX6_about_X6_refuses rfl rfl rfl (by decide +kernel) ⟨Nat.le_of_ble_eq_true rfl, Nat.le_of_ble_eq_true rfl⟩) (jw_V hK hN hP hD [0] (by decide) rfl 6 0 rfl rfl rfl) rfl rfl hl.1 rfl (lv_room (Nat.le_of_ble_eq_true rfl)) dX6_about_15 ⟨Nat.le_of_ble_eq_true rfl, Nat.le_of_ble_eq_true rfl⟩) hP hD hS hA [0] [1] rfl rfl (by decide) (by decide) (fun r u H locs f_3 hP hD hS => ?_)
  obtain ⟨rfl, rfl⟩ := f_3
  have hP : va_P D vwCl [(q6, .inl (cI, 2, .inl (fun _ => 0))), (mo, .inr (6, [.int 0, .ref q1, .int (nI g), .ref q3, .ref q4, .ref q5, .ref q6, .int 0, .int 0, .int 0, .long 0, .ref q11, .int 0, .long 0, .long 0]))] H := hP
  have hD : va_D A [(q6, .inl (cI, 2, .inl (fun _ => 0))), (mo, .inr (6, [.int 0, .ref q1, .int (nI g), .ref q3, .ref q4, .ref q5, .ref q6, .int 0, .int 0, .int 0, .long 0, .ref q11, .int 0, .long 0, .long 0]))] := hD
  refine lv_if_eq (tgt := 23) hx hb dX6_about_18 (by decide) (fun c_4 => ?_) (fun c_4 => absurd c_4 (by decide))
  refine lv_iload_n hx hb dX6_about_23 rfl (lv_at hl 1 rfl) ?_
  refine lv_if_ne (tgt := 34) hx hb dX6_about_24 (by decide) (fun c_5 => absurd c_5 (by decide)) (fun c_5 => ?_)
  refine lv_aload_n hx hb dX6_about_27 rfl (lv_at hl 0 rfl) ?_
  refine va_get (D := D) (ci := 6) (v := .long 0) (C := RX6) (T := TX6) (N := 15) hx hb hts (by decide +kernel) hown hK hP 1 rfl rfl 10 (by decide) (hts (.fieldLink RX6 53 "JoinDeskModel" "cells" "J") (by decide +kernel)) (fun _ h9 => h9) rfl dX6_about_28 ?_
  refine lv_goto (tgt := 76) hx hb dX6_about_31 (by decide) ?_
  have hP := hP.sub (ws' := [(mo, .inr (6, [.int 0, .ref q1, .int (nI g), .ref q3, .ref q4, .ref q5, .ref q6, .int 0, .int 0, .int 0, .long 0, .ref q11, .int 0, .long 0, .long 0])), (q6, .inl (cI, 2, .inl (fun _ => 0)))]) [1, 0] rfl
  have hD := hD.sub (ws' := [(mo, .inr (6, [.int 0, .ref q1, .int (nI g), .ref q3, .ref q4, .ref q5, .ref q6, .int 0, .int 0, .int 0, .long 0, .ref q11, .int 0, .long 0, .long 0])), (q6, .inl (cI, 2, .inl (fun _ => 0)))]) [1, 0] (by decide) rfl
  refine W.widen (k := 0) (n := 0) (by omega) (by omega) ?_
  exact W.lret (v := 0) hx hb hr (fun t ht hW => ⟨⟨0, [(mo, .inr (6, [.int 0, .ref q1, .int (nI g), .ref q3, .ref q4, .ref q5, .ref q6, .int 0, .int 0, .int 0, .long 0, .ref q11, .int 0, .long 0, .long 0])), (q6, .inl (cI, 2, .inl (fun _ => 0)))], rfl, (by exact ⟨rfl, rfl⟩), by rw [ht]; exact hP, hD⟩, hS.F ht⟩) hS.2.2 dX6_about_76
set_option maxHeartbeats 1000000 in
set_option maxRecDepth 100000 in
theorem cM_about_1 (l : Launch) (D : va_G) (cI cL cQ : ClassId) (g : Nat) (mo : Nat) (q1 : Nat) (q3 : Nat) (q4 : Nat) (q5 : Nat) (q6 : Nat) (q11 : Nat) (sz : Nat) : Met l yX6_about wsX6_about ({ frames := 1, cells := 0, slots := 0, locals := 21 }) (jw_P D vwCl (jT cI cL cQ) cL cQ [.ref mo, .int 1] [(mo, .inr (6, [.int 0, .ref q1, .int (nI g), .ref q3, .ref q4, .ref q5, .ref q6, .int 0, .int 0, .int 0, .long 0, .ref q11, .int 0, .long 0, .long 0])), (q6, .inl (cI, 2, .inl (fun _ => 0)))] sz) (va_Ql (fun (r : Int64) (u : va_W) => r = 0 ∧ u = [(mo, .inr (6, [.int 0, .ref q1, .int (nI g), .ref q3, .ref q4, .ref q5, .ref q6, .int 0, .int 0, .int 0, .long 0, .ref q11, .int 0, .long 0, .long 0])), (q6, .inl (cI, 2, .inl (fun _ => 0)))]) (jw_B D vwCl (va_A [(mo, .inr (6, [.int 0, .ref q1, .int (nI g), .ref q3, .ref q4, .ref q5, .ref q6, .int 0, .int 0, .int 0, .long 0, .ref q11, .int 0, .long 0, .long 0])), (q6, .inl (cI, 2, .inl (fun _ => 0)))] sz) (fun u : va_W => u)) (va_A [(mo, .inr (6, [.int 0, .ref q1, .int (nI g), .ref q3, .ref q4, .ref q5, .ref q6, .int 0, .int 0, .int 0, .long 0, .ref q11, .int 0, .long 0, .long 0])), (q6, .inl (cI, 2, .inl (fun _ => 0)))] sz)) 0 0 (va_A [(mo, .inr (6, [.int 0, .ref q1, .int (nI g), .ref q3, .ref q4, .ref q5, .ref q6, .int 0, .int 0, .int 0, .long 0, .ref q11, .int 0, .long 0, .long 0])), (q6, .inl (cI, 2, .inl (fun _ => 0)))] sz) := by
  refine Met.ofW (cc := cX6_about) (maxL := 2) (ret := (some .long)) (by decide) rfl ?_
  intro p e s m args below meth c s₁ B hml hv
  obtain ⟨rfl, hsz, hP, hK, hN, hD0⟩ := hv
  have hx := B.exec
  have hb := B.bytes
  have hr := B.returns
  have hts := atoms_spec (ws := wsX6_about) B.pre
  have hown : s.vm.findClass RX6 = some m.cls := findClass_of_methodNamed B.named
  have hlocks := B.notSynchronized
  subst hsz
  have hD := hD0.self (sz := s.heap.size)
  generalize hAe : va_A [(mo, .inr (6, [.int 0, .ref q1, .int (nI g), .ref q3, .ref q4, .ref q5, .ref q6, .int 0, .int 0, .int 0, .long 0, .ref q11, .int 0, .long 0, .long 0])), (q6, .inl (cI, 2, .inl (fun _ => 0)))] s.heap.size = A at hD ⊢
  have hA : ∀ q : Nat, s.heap.size ≤ q → A q := fun q h => by rw [← hAe]; exact Or.inr h
  have hS : va_S A s.heap s.heap [] := va_S.rf
  have hl := lv_entry ([.ref mo, .int 1]) (n := 2) (Nat.le_of_ble_eq_true rfl)
  rw [lg_entry_eq]
  generalize (lg_sl ([.ref mo, .int 1]) ++ List.replicate (2 - (lg_sl ([.ref mo, .int 1])).length) Slot.unset).toArray = ls at hl ⊢
  have hl : lv_has ls 2 [(0, .ref mo), (1, .int 1)] := hl
  refine lv_aload_n hx hb dX6_about_0 rfl (lv_at hl 0 rfl) ?_
  refine lv_iload_n hx hb dX6_about_1 rfl (lv_at hl 1 rfl) ?_
  refine lv_if_lt (tgt := 10) hx hb dX6_about_2 (by decide) (fun c_1 => absurd c_1 (by decide)) (fun c_1 => ?_)
  refine lv_iload_n hx hb dX6_about_5 rfl (lv_at hl 1 rfl) ?_
  refine lv_iconst (v := 4) hx hb dX6_about_6 (by decide) ?_
  refine lv_icmp_le (tgt := 14) hx hb dX6_about_7 (by decide) (fun c_2 => ?_) (fun c_2 => absurd c_2 (by decide))
  refine lv_iconst (v := 0) hx hb dX6_about_14 (by decide) ?_
  refine jw_i (wr := [(q6, .inl (cI, 2, .inl (fun _ => 0)))]) (va_runV (As := [.int 0]) (rest := []) ⟨hx, hb, hml, hown, hts⟩ (cM_refuses_0 l D cI cL cQ mo 0 q1 (nI g) q3 q4 q5 q6 0 0 0 0 q11 0 0 0 _) (cwV 1 hts gX6_about_X6_refuses rfl rfl rfl (by decide +kernel) ⟨Nat.le_of_ble_eq_true rfl, Nat.le_of_ble_eq_true rfl⟩) (jw_V hK hN hP hD [0] (by decide) rfl 6 0 rfl rfl rfl) rfl rfl hl.1 rfl (lv_room (Nat.le_of_ble_eq_true rfl)) dX6_about_15 ⟨Nat.le_of_ble_eq_true rfl, Nat.le_of_ble_eq_true rfl⟩) hP hD hS hA [0] [1] rfl rfl (by decide) (by decide) (fun r u H locs f_3 hP hD hS => ?_)
  obtain ⟨rfl, rfl⟩ := f_3
  have hP : va_P D vwCl [(q6, .inl (cI, 2, .inl (fun _ => 0))), (mo, .inr (6, [.int 0, .ref q1, .int (nI g), .ref q3, .ref q4, .ref q5, .ref q6, .int 0, .int 0, .int 0, .long 0, .ref q11, .int 0, .long 0, .long 0]))] H := hP
  have hD : va_D A [(q6, .inl (cI, 2, .inl (fun _ => 0))), (mo, .inr (6, [.int 0, .ref q1, .int (nI g), .ref q3, .ref q4, .ref q5, .ref q6, .int 0, .int 0, .int 0, .long 0, .ref q11, .int 0, .long 0, .long 0]))] := hD
  refine lv_if_eq (tgt := 23) hx hb dX6_about_18 (by decide) (fun c_4 => ?_) (fun c_4 => absurd c_4 (by decide))
  refine lv_iload_n hx hb dX6_about_23 rfl (lv_at hl 1 rfl) ?_
  refine lv_if_ne (tgt := 34) hx hb dX6_about_24 (by decide) (fun c_5 => ?_) (fun c_5 => absurd c_5 (by decide))
  refine lv_iload_n hx hb dX6_about_34 rfl (lv_at hl 1 rfl) ?_
  refine lv_iconst (v := 3) hx hb dX6_about_35 (by decide) ?_
  refine lv_icmp_ge (tgt := 51) hx hb dX6_about_36 (by decide) (fun c_6 => absurd c_6 (by decide)) (fun c_6 => ?_)
  refine lv_aload_n hx hb dX6_about_39 rfl (lv_at hl 0 rfl) ?_
  refine va_get (D := D) (ci := 6) (v := .ref q6) (C := RX6) (T := TX6) (N := 15) hx hb hts (by decide +kernel) hown hK hP 1 rfl rfl 6 (by decide) (hts (.fieldLink RX6 22 "JoinDeskModel" "many" "[I") (by decide +kernel)) (fun _ h9 => h9) rfl dX6_about_40 ?_
  refine lv_iload_n hx hb dX6_about_43 rfl (lv_at hl 1 rfl) ?_
  refine lv_iconst (v := 1) hx hb dX6_about_44 (by decide) ?_
  refine lv_isub hx hb dX6_about_45 ?_
  refine lv_topi (fun z_7 e_z_7 => ?_)
  obtain rfl : z_7 = 0 := e_z_7.trans (by decide)
  refine va_iald hx hb hK hP 0 0 rfl rfl (by unfold vp_in; decide) dX6_about_46 ?_
  refine lv_topi (fun v_8 e_v_8 => ?_)
  obtain rfl : v_8 = 0 := e_v_8.trans (rfl)
  refine lv_i2l (v := 0) hx hb dX6_about_47 (by first | rfl | decide) ?_
  refine lv_goto (tgt := 76) hx hb dX6_about_48 (by decide) ?_
  have hP := hP.sub (ws' := [(mo, .inr (6, [.int 0, .ref q1, .int (nI g), .ref q3, .ref q4, .ref q5, .ref q6, .int 0, .int 0, .int 0, .long 0, .ref q11, .int 0, .long 0, .long 0])), (q6, .inl (cI, 2, .inl (fun _ => 0)))]) [1, 0] rfl
  have hD := hD.sub (ws' := [(mo, .inr (6, [.int 0, .ref q1, .int (nI g), .ref q3, .ref q4, .ref q5, .ref q6, .int 0, .int 0, .int 0, .long 0, .ref q11, .int 0, .long 0, .long 0])), (q6, .inl (cI, 2, .inl (fun _ => 0)))]) [1, 0] (by decide) rfl
  refine W.widen (k := 0) (n := 0) (by omega) (by omega) ?_
  exact W.lret (v := 0) hx hb hr (fun t ht hW => ⟨⟨0, [(mo, .inr (6, [.int 0, .ref q1, .int (nI g), .ref q3, .ref q4, .ref q5, .ref q6, .int 0, .int 0, .int 0, .long 0, .ref q11, .int 0, .long 0, .long 0])), (q6, .inl (cI, 2, .inl (fun _ => 0)))], rfl, (by exact ⟨rfl, rfl⟩), by rw [ht]; exact hP, hD⟩, hS.F ht⟩) hS.2.2 dX6_about_76
set_option maxHeartbeats 1000000 in
set_option maxRecDepth 100000 in
theorem cM_about_2 (l : Launch) (D : va_G) (cI cL cQ : ClassId) (g : Nat) (mo : Nat) (q1 : Nat) (q3 : Nat) (q4 : Nat) (q5 : Nat) (q6 : Nat) (q11 : Nat) (sz : Nat) : Met l yX6_about wsX6_about ({ frames := 1, cells := 0, slots := 0, locals := 21 }) (jw_P D vwCl (jT cI cL cQ) cL cQ [.ref mo, .int 2] [(mo, .inr (6, [.int 0, .ref q1, .int (nI g), .ref q3, .ref q4, .ref q5, .ref q6, .int 0, .int 0, .int 0, .long 0, .ref q11, .int 0, .long 0, .long 0])), (q6, .inl (cI, 2, .inl (fun _ => 0)))] sz) (va_Ql (fun (r : Int64) (u : va_W) => r = 0 ∧ u = [(mo, .inr (6, [.int 0, .ref q1, .int (nI g), .ref q3, .ref q4, .ref q5, .ref q6, .int 0, .int 0, .int 0, .long 0, .ref q11, .int 0, .long 0, .long 0])), (q6, .inl (cI, 2, .inl (fun _ => 0)))]) (jw_B D vwCl (va_A [(mo, .inr (6, [.int 0, .ref q1, .int (nI g), .ref q3, .ref q4, .ref q5, .ref q6, .int 0, .int 0, .int 0, .long 0, .ref q11, .int 0, .long 0, .long 0])), (q6, .inl (cI, 2, .inl (fun _ => 0)))] sz) (fun u : va_W => u)) (va_A [(mo, .inr (6, [.int 0, .ref q1, .int (nI g), .ref q3, .ref q4, .ref q5, .ref q6, .int 0, .int 0, .int 0, .long 0, .ref q11, .int 0, .long 0, .long 0])), (q6, .inl (cI, 2, .inl (fun _ => 0)))] sz)) 0 0 (va_A [(mo, .inr (6, [.int 0, .ref q1, .int (nI g), .ref q3, .ref q4, .ref q5, .ref q6, .int 0, .int 0, .int 0, .long 0, .ref q11, .int 0, .long 0, .long 0])), (q6, .inl (cI, 2, .inl (fun _ => 0)))] sz) := by
  refine Met.ofW (cc := cX6_about) (maxL := 2) (ret := (some .long)) (by decide) rfl ?_
  intro p e s m args below meth c s₁ B hml hv
  obtain ⟨rfl, hsz, hP, hK, hN, hD0⟩ := hv
  have hx := B.exec
  have hb := B.bytes
  have hr := B.returns
  have hts := atoms_spec (ws := wsX6_about) B.pre
  have hown : s.vm.findClass RX6 = some m.cls := findClass_of_methodNamed B.named
  have hlocks := B.notSynchronized
  subst hsz
  have hD := hD0.self (sz := s.heap.size)
  generalize hAe : va_A [(mo, .inr (6, [.int 0, .ref q1, .int (nI g), .ref q3, .ref q4, .ref q5, .ref q6, .int 0, .int 0, .int 0, .long 0, .ref q11, .int 0, .long 0, .long 0])), (q6, .inl (cI, 2, .inl (fun _ => 0)))] s.heap.size = A at hD ⊢
  have hA : ∀ q : Nat, s.heap.size ≤ q → A q := fun q h => by rw [← hAe]; exact Or.inr h
  have hS : va_S A s.heap s.heap [] := va_S.rf
  have hl := lv_entry ([.ref mo, .int 2]) (n := 2) (Nat.le_of_ble_eq_true rfl)
  rw [lg_entry_eq]
  generalize (lg_sl ([.ref mo, .int 2]) ++ List.replicate (2 - (lg_sl ([.ref mo, .int 2])).length) Slot.unset).toArray = ls at hl ⊢
  have hl : lv_has ls 2 [(0, .ref mo), (1, .int 2)] := hl
  refine lv_aload_n hx hb dX6_about_0 rfl (lv_at hl 0 rfl) ?_
  refine lv_iload_n hx hb dX6_about_1 rfl (lv_at hl 1 rfl) ?_
  refine lv_if_lt (tgt := 10) hx hb dX6_about_2 (by decide) (fun c_1 => absurd c_1 (by decide)) (fun c_1 => ?_)
  refine lv_iload_n hx hb dX6_about_5 rfl (lv_at hl 1 rfl) ?_
  refine lv_iconst (v := 4) hx hb dX6_about_6 (by decide) ?_
  refine lv_icmp_le (tgt := 14) hx hb dX6_about_7 (by decide) (fun c_2 => ?_) (fun c_2 => absurd c_2 (by decide))
  refine lv_iconst (v := 0) hx hb dX6_about_14 (by decide) ?_
  refine jw_i (wr := [(q6, .inl (cI, 2, .inl (fun _ => 0)))]) (va_runV (As := [.int 0]) (rest := []) ⟨hx, hb, hml, hown, hts⟩ (cM_refuses_0 l D cI cL cQ mo 0 q1 (nI g) q3 q4 q5 q6 0 0 0 0 q11 0 0 0 _) (cwV 1 hts gX6_about_X6_refuses rfl rfl rfl (by decide +kernel) ⟨Nat.le_of_ble_eq_true rfl, Nat.le_of_ble_eq_true rfl⟩) (jw_V hK hN hP hD [0] (by decide) rfl 6 0 rfl rfl rfl) rfl rfl hl.1 rfl (lv_room (Nat.le_of_ble_eq_true rfl)) dX6_about_15 ⟨Nat.le_of_ble_eq_true rfl, Nat.le_of_ble_eq_true rfl⟩) hP hD hS hA [0] [1] rfl rfl (by decide) (by decide) (fun r u H locs f_3 hP hD hS => ?_)
  obtain ⟨rfl, rfl⟩ := f_3
  have hP : va_P D vwCl [(q6, .inl (cI, 2, .inl (fun _ => 0))), (mo, .inr (6, [.int 0, .ref q1, .int (nI g), .ref q3, .ref q4, .ref q5, .ref q6, .int 0, .int 0, .int 0, .long 0, .ref q11, .int 0, .long 0, .long 0]))] H := hP
  have hD : va_D A [(q6, .inl (cI, 2, .inl (fun _ => 0))), (mo, .inr (6, [.int 0, .ref q1, .int (nI g), .ref q3, .ref q4, .ref q5, .ref q6, .int 0, .int 0, .int 0, .long 0, .ref q11, .int 0, .long 0, .long 0]))] := hD
  refine lv_if_eq (tgt := 23) hx hb dX6_about_18 (by decide) (fun c_4 => ?_) (fun c_4 => absurd c_4 (by decide))
  refine lv_iload_n hx hb dX6_about_23 rfl (lv_at hl 1 rfl) ?_
  refine lv_if_ne (tgt := 34) hx hb dX6_about_24 (by decide) (fun c_5 => ?_) (fun c_5 => absurd c_5 (by decide))
  refine lv_iload_n hx hb dX6_about_34 rfl (lv_at hl 1 rfl) ?_
  refine lv_iconst (v := 3) hx hb dX6_about_35 (by decide) ?_
  refine lv_icmp_ge (tgt := 51) hx hb dX6_about_36 (by decide) (fun c_6 => absurd c_6 (by decide)) (fun c_6 => ?_)
  refine lv_aload_n hx hb dX6_about_39 rfl (lv_at hl 0 rfl) ?_
  refine va_get (D := D) (ci := 6) (v := .ref q6) (C := RX6) (T := TX6) (N := 15) hx hb hts (by decide +kernel) hown hK hP 1 rfl rfl 6 (by decide) (hts (.fieldLink RX6 22 "JoinDeskModel" "many" "[I") (by decide +kernel)) (fun _ h9 => h9) rfl dX6_about_40 ?_
  refine lv_iload_n hx hb dX6_about_43 rfl (lv_at hl 1 rfl) ?_
  refine lv_iconst (v := 1) hx hb dX6_about_44 (by decide) ?_
  refine lv_isub hx hb dX6_about_45 ?_
  refine lv_topi (fun z_7 e_z_7 => ?_)
  obtain rfl : z_7 = 1 := e_z_7.trans (by decide)
  refine va_iald hx hb hK hP 0 0 rfl rfl (by unfold vp_in; decide) dX6_about_46 ?_
  refine lv_topi (fun v_8 e_v_8 => ?_)
  obtain rfl : v_8 = 0 := e_v_8.trans (rfl)
  refine lv_i2l (v := 0) hx hb dX6_about_47 (by first | rfl | decide) ?_
  refine lv_goto (tgt := 76) hx hb dX6_about_48 (by decide) ?_
  have hP := hP.sub (ws' := [(mo, .inr (6, [.int 0, .ref q1, .int (nI g), .ref q3, .ref q4, .ref q5, .ref q6, .int 0, .int 0, .int 0, .long 0, .ref q11, .int 0, .long 0, .long 0])), (q6, .inl (cI, 2, .inl (fun _ => 0)))]) [1, 0] rfl
  have hD := hD.sub (ws' := [(mo, .inr (6, [.int 0, .ref q1, .int (nI g), .ref q3, .ref q4, .ref q5, .ref q6, .int 0, .int 0, .int 0, .long 0, .ref q11, .int 0, .long 0, .long 0])), (q6, .inl (cI, 2, .inl (fun _ => 0)))]) [1, 0] (by decide) rfl
  refine W.widen (k := 0) (n := 0) (by omega) (by omega) ?_
  exact W.lret (v := 0) hx hb hr (fun t ht hW => ⟨⟨0, [(mo, .inr (6, [.int 0, .ref q1, .int (nI g), .ref q3, .ref q4, .ref q5, .ref q6, .int 0, .int 0, .int 0, .long 0, .ref q11, .int 0, .long 0, .long 0])), (q6, .inl (cI, 2, .inl (fun _ => 0)))], rfl, (by exact ⟨rfl, rfl⟩), by rw [ht]; exact hP, hD⟩, hS.F ht⟩) hS.2.2 dX6_about_76
set_option maxHeartbeats 1000000 in
set_option maxRecDepth 100000 in
theorem cM_about_3 (l : Launch) (D : va_G) (cI cL cQ : ClassId) (g : Nat) (mo : Nat) (q1 : Nat) (q3 : Nat) (q4 : Nat) (q5 : Nat) (q6 : Nat) (q11 : Nat) (sz : Nat) : Met l yX6_about wsX6_about ({ frames := 1, cells := 0, slots := 0, locals := 21 }) (jw_P D vwCl (jT cI cL cQ) cL cQ [.ref mo, .int 3] [(mo, .inr (6, [.int 0, .ref q1, .int (nI g), .ref q3, .ref q4, .ref q5, .ref q6, .int 0, .int 0, .int 0, .long 0, .ref q11, .int 0, .long 0, .long 0])), (q6, .inl (cI, 2, .inl (fun _ => 0)))] sz) (va_Ql (fun (r : Int64) (u : va_W) => r = 0 ∧ u = [(mo, .inr (6, [.int 0, .ref q1, .int (nI g), .ref q3, .ref q4, .ref q5, .ref q6, .int 0, .int 0, .int 0, .long 0, .ref q11, .int 0, .long 0, .long 0])), (q6, .inl (cI, 2, .inl (fun _ => 0)))]) (jw_B D vwCl (va_A [(mo, .inr (6, [.int 0, .ref q1, .int (nI g), .ref q3, .ref q4, .ref q5, .ref q6, .int 0, .int 0, .int 0, .long 0, .ref q11, .int 0, .long 0, .long 0])), (q6, .inl (cI, 2, .inl (fun _ => 0)))] sz) (fun u : va_W => u)) (va_A [(mo, .inr (6, [.int 0, .ref q1, .int (nI g), .ref q3, .ref q4, .ref q5, .ref q6, .int 0, .int 0, .int 0, .long 0, .ref q11, .int 0, .long 0, .long 0])), (q6, .inl (cI, 2, .inl (fun _ => 0)))] sz)) 0 0 (va_A [(mo, .inr (6, [.int 0, .ref q1, .int (nI g), .ref q3, .ref q4, .ref q5, .ref q6, .int 0, .int 0, .int 0, .long 0, .ref q11, .int 0, .long 0, .long 0])), (q6, .inl (cI, 2, .inl (fun _ => 0)))] sz) := by
  refine Met.ofW (cc := cX6_about) (maxL := 2) (ret := (some .long)) (by decide) rfl ?_
  intro p e s m args below meth c s₁ B hml hv
  obtain ⟨rfl, hsz, hP, hK, hN, hD0⟩ := hv
  have hx := B.exec
  have hb := B.bytes
  have hr := B.returns
  have hts := atoms_spec (ws := wsX6_about) B.pre
  have hown : s.vm.findClass RX6 = some m.cls := findClass_of_methodNamed B.named
  have hlocks := B.notSynchronized
  subst hsz
  have hD := hD0.self (sz := s.heap.size)
  generalize hAe : va_A [(mo, .inr (6, [.int 0, .ref q1, .int (nI g), .ref q3, .ref q4, .ref q5, .ref q6, .int 0, .int 0, .int 0, .long 0, .ref q11, .int 0, .long 0, .long 0])), (q6, .inl (cI, 2, .inl (fun _ => 0)))] s.heap.size = A at hD ⊢
  have hA : ∀ q : Nat, s.heap.size ≤ q → A q := fun q h => by rw [← hAe]; exact Or.inr h
  have hS : va_S A s.heap s.heap [] := va_S.rf
  have hl := lv_entry ([.ref mo, .int 3]) (n := 2) (Nat.le_of_ble_eq_true rfl)
  rw [lg_entry_eq]
  generalize (lg_sl ([.ref mo, .int 3]) ++ List.replicate (2 - (lg_sl ([.ref mo, .int 3])).length) Slot.unset).toArray = ls at hl ⊢
  have hl : lv_has ls 2 [(0, .ref mo), (1, .int 3)] := hl
  refine lv_aload_n hx hb dX6_about_0 rfl (lv_at hl 0 rfl) ?_
  refine lv_iload_n hx hb dX6_about_1 rfl (lv_at hl 1 rfl) ?_
  refine lv_if_lt (tgt := 10) hx hb dX6_about_2 (by decide) (fun c_1 => absurd c_1 (by decide)) (fun c_1 => ?_)
  refine lv_iload_n hx hb dX6_about_5 rfl (lv_at hl 1 rfl) ?_
  refine lv_iconst (v := 4) hx hb dX6_about_6 (by decide) ?_
  refine lv_icmp_le (tgt := 14) hx hb dX6_about_7 (by decide) (fun c_2 => ?_) (fun c_2 => absurd c_2 (by decide))
  refine lv_iconst (v := 0) hx hb dX6_about_14 (by decide) ?_
  refine jw_i (wr := [(q6, .inl (cI, 2, .inl (fun _ => 0)))]) (va_runV (As := [.int 0]) (rest := []) ⟨hx, hb, hml, hown, hts⟩ (cM_refuses_0 l D cI cL cQ mo 0 q1 (nI g) q3 q4 q5 q6 0 0 0 0 q11 0 0 0 _) (cwV 1 hts gX6_about_X6_refuses rfl rfl rfl (by decide +kernel) ⟨Nat.le_of_ble_eq_true rfl, Nat.le_of_ble_eq_true rfl⟩) (jw_V hK hN hP hD [0] (by decide) rfl 6 0 rfl rfl rfl) rfl rfl hl.1 rfl (lv_room (Nat.le_of_ble_eq_true rfl)) dX6_about_15 ⟨Nat.le_of_ble_eq_true rfl, Nat.le_of_ble_eq_true rfl⟩) hP hD hS hA [0] [1] rfl rfl (by decide) (by decide) (fun r u H locs f_3 hP hD hS => ?_)
  obtain ⟨rfl, rfl⟩ := f_3
  have hP : va_P D vwCl [(q6, .inl (cI, 2, .inl (fun _ => 0))), (mo, .inr (6, [.int 0, .ref q1, .int (nI g), .ref q3, .ref q4, .ref q5, .ref q6, .int 0, .int 0, .int 0, .long 0, .ref q11, .int 0, .long 0, .long 0]))] H := hP
  have hD : va_D A [(q6, .inl (cI, 2, .inl (fun _ => 0))), (mo, .inr (6, [.int 0, .ref q1, .int (nI g), .ref q3, .ref q4, .ref q5, .ref q6, .int 0, .int 0, .int 0, .long 0, .ref q11, .int 0, .long 0, .long 0]))] := hD
  refine lv_if_eq (tgt := 23) hx hb dX6_about_18 (by decide) (fun c_4 => ?_) (fun c_4 => absurd c_4 (by decide))
  refine lv_iload_n hx hb dX6_about_23 rfl (lv_at hl 1 rfl) ?_
  refine lv_if_ne (tgt := 34) hx hb dX6_about_24 (by decide) (fun c_5 => ?_) (fun c_5 => absurd c_5 (by decide))
  refine lv_iload_n hx hb dX6_about_34 rfl (lv_at hl 1 rfl) ?_
  refine lv_iconst (v := 3) hx hb dX6_about_35 (by decide) ?_
  refine lv_icmp_ge (tgt := 51) hx hb dX6_about_36 (by decide) (fun c_6 => ?_) (fun c_6 => absurd c_6 (by decide))
  refine lv_iload_n hx hb dX6_about_51 rfl (lv_at hl 1 rfl) ?_
  refine lv_iconst (v := 3) hx hb dX6_about_52 (by decide) ?_
  refine lv_icmp_ne (tgt := 71) hx hb dX6_about_53 (by decide) (fun c_7 => absurd c_7 (by decide)) (fun c_7 => ?_)
  refine lv_aload_n hx hb dX6_about_56 rfl (lv_at hl 0 rfl) ?_
  refine va_get (D := D) (ci := 6) (v := .int 0) (C := RX6) (T := TX6) (N := 15) hx hb hts (by decide +kernel) hown hK hP 1 rfl rfl 7 (by decide) (hts (.fieldLink RX6 43 "JoinDeskModel" "prepared" "Z") (by decide +kernel)) (fun _ h9 => h9) rfl dX6_about_57 ?_
  refine lv_if_eq (tgt := 67) hx hb dX6_about_60 (by decide) (fun c_8 => ?_) (fun c_8 => absurd c_8 (by decide))
  refine lv_lconst (v := 0) hx hb dX6_about_67 (by decide) ?_
  refine lv_goto (tgt := 76) hx hb dX6_about_68 (by decide) ?_
  have hP := hP.sub (ws' := [(mo, .inr (6, [.int 0, .ref q1, .int (nI g), .ref q3, .ref q4, .ref q5, .ref q6, .int 0, .int 0, .int 0, .long 0, .ref q11, .int 0, .long 0, .long 0])), (q6, .inl (cI, 2, .inl (fun _ => 0)))]) [1, 0] rfl
  have hD := hD.sub (ws' := [(mo, .inr (6, [.int 0, .ref q1, .int (nI g), .ref q3, .ref q4, .ref q5, .ref q6, .int 0, .int 0, .int 0, .long 0, .ref q11, .int 0, .long 0, .long 0])), (q6, .inl (cI, 2, .inl (fun _ => 0)))]) [1, 0] (by decide) rfl
  refine W.widen (k := 0) (n := 0) (by omega) (by omega) ?_
  exact W.lret (v := 0) hx hb hr (fun t ht hW => ⟨⟨0, [(mo, .inr (6, [.int 0, .ref q1, .int (nI g), .ref q3, .ref q4, .ref q5, .ref q6, .int 0, .int 0, .int 0, .long 0, .ref q11, .int 0, .long 0, .long 0])), (q6, .inl (cI, 2, .inl (fun _ => 0)))], rfl, (by exact ⟨rfl, rfl⟩), by rw [ht]; exact hP, hD⟩, hS.F ht⟩) hS.2.2 dX6_about_76
set_option maxHeartbeats 1000000 in
set_option maxRecDepth 100000 in
theorem cM_about_4 (l : Launch) (D : va_G) (cI cL cQ : ClassId) (g : Nat) (mo : Nat) (q1 : Nat) (q3 : Nat) (q4 : Nat) (q5 : Nat) (q6 : Nat) (q11 : Nat) (sz : Nat) : Met l yX6_about wsX6_about ({ frames := 1, cells := 0, slots := 0, locals := 21 }) (jw_P D vwCl (jT cI cL cQ) cL cQ [.ref mo, .int 4] [(mo, .inr (6, [.int 0, .ref q1, .int (nI g), .ref q3, .ref q4, .ref q5, .ref q6, .int 0, .int 0, .int 0, .long 0, .ref q11, .int 0, .long 0, .long 0])), (q6, .inl (cI, 2, .inl (fun _ => 0)))] sz) (va_Ql (fun (r : Int64) (u : va_W) => r = 0 ∧ u = [(mo, .inr (6, [.int 0, .ref q1, .int (nI g), .ref q3, .ref q4, .ref q5, .ref q6, .int 0, .int 0, .int 0, .long 0, .ref q11, .int 0, .long 0, .long 0])), (q6, .inl (cI, 2, .inl (fun _ => 0)))]) (jw_B D vwCl (va_A [(mo, .inr (6, [.int 0, .ref q1, .int (nI g), .ref q3, .ref q4, .ref q5, .ref q6, .int 0, .int 0, .int 0, .long 0, .ref q11, .int 0, .long 0, .long 0])), (q6, .inl (cI, 2, .inl (fun _ => 0)))] sz) (fun u : va_W => u)) (va_A [(mo, .inr (6, [.int 0, .ref q1, .int (nI g), .ref q3, .ref q4, .ref q5, .ref q6, .int 0, .int 0, .int 0, .long 0, .ref q11, .int 0, .long 0, .long 0])), (q6, .inl (cI, 2, .inl (fun _ => 0)))] sz)) 0 0 (va_A [(mo, .inr (6, [.int 0, .ref q1, .int (nI g), .ref q3, .ref q4, .ref q5, .ref q6, .int 0, .int 0, .int 0, .long 0, .ref q11, .int 0, .long 0, .long 0])), (q6, .inl (cI, 2, .inl (fun _ => 0)))] sz) := by
  refine Met.ofW (cc := cX6_about) (maxL := 2) (ret := (some .long)) (by decide) rfl ?_
  intro p e s m args below meth c s₁ B hml hv
  obtain ⟨rfl, hsz, hP, hK, hN, hD0⟩ := hv
  have hx := B.exec
  have hb := B.bytes
  have hr := B.returns
  have hts := atoms_spec (ws := wsX6_about) B.pre
  have hown : s.vm.findClass RX6 = some m.cls := findClass_of_methodNamed B.named
  have hlocks := B.notSynchronized
  subst hsz
  have hD := hD0.self (sz := s.heap.size)
  generalize hAe : va_A [(mo, .inr (6, [.int 0, .ref q1, .int (nI g), .ref q3, .ref q4, .ref q5, .ref q6, .int 0, .int 0, .int 0, .long 0, .ref q11, .int 0, .long 0, .long 0])), (q6, .inl (cI, 2, .inl (fun _ => 0)))] s.heap.size = A at hD ⊢
  have hA : ∀ q : Nat, s.heap.size ≤ q → A q := fun q h => by rw [← hAe]; exact Or.inr h
  have hS : va_S A s.heap s.heap [] := va_S.rf
  have hl := lv_entry ([.ref mo, .int 4]) (n := 2) (Nat.le_of_ble_eq_true rfl)
  rw [lg_entry_eq]
  generalize (lg_sl ([.ref mo, .int 4]) ++ List.replicate (2 - (lg_sl ([.ref mo, .int 4])).length) Slot.unset).toArray = ls at hl ⊢
  have hl : lv_has ls 2 [(0, .ref mo), (1, .int 4)] := hl
  refine lv_aload_n hx hb dX6_about_0 rfl (lv_at hl 0 rfl) ?_
  refine lv_iload_n hx hb dX6_about_1 rfl (lv_at hl 1 rfl) ?_
  refine lv_if_lt (tgt := 10) hx hb dX6_about_2 (by decide) (fun c_1 => absurd c_1 (by decide)) (fun c_1 => ?_)
  refine lv_iload_n hx hb dX6_about_5 rfl (lv_at hl 1 rfl) ?_
  refine lv_iconst (v := 4) hx hb dX6_about_6 (by decide) ?_
  refine lv_icmp_le (tgt := 14) hx hb dX6_about_7 (by decide) (fun c_2 => ?_) (fun c_2 => absurd c_2 (by decide))
  refine lv_iconst (v := 0) hx hb dX6_about_14 (by decide) ?_
  refine jw_i (wr := [(q6, .inl (cI, 2, .inl (fun _ => 0)))]) (va_runV (As := [.int 0]) (rest := []) ⟨hx, hb, hml, hown, hts⟩ (cM_refuses_0 l D cI cL cQ mo 0 q1 (nI g) q3 q4 q5 q6 0 0 0 0 q11 0 0 0 _) (cwV 1 hts gX6_about_X6_refuses rfl rfl rfl (by decide +kernel) ⟨Nat.le_of_ble_eq_true rfl, Nat.le_of_ble_eq_true rfl⟩) (jw_V hK hN hP hD [0] (by decide) rfl 6 0 rfl rfl rfl) rfl rfl hl.1 rfl (lv_room (Nat.le_of_ble_eq_true rfl)) dX6_about_15 ⟨Nat.le_of_ble_eq_true rfl, Nat.le_of_ble_eq_true rfl⟩) hP hD hS hA [0] [1] rfl rfl (by decide) (by decide) (fun r u H locs f_3 hP hD hS => ?_)
  obtain ⟨rfl, rfl⟩ := f_3
  have hP : va_P D vwCl [(q6, .inl (cI, 2, .inl (fun _ => 0))), (mo, .inr (6, [.int 0, .ref q1, .int (nI g), .ref q3, .ref q4, .ref q5, .ref q6, .int 0, .int 0, .int 0, .long 0, .ref q11, .int 0, .long 0, .long 0]))] H := hP
  have hD : va_D A [(q6, .inl (cI, 2, .inl (fun _ => 0))), (mo, .inr (6, [.int 0, .ref q1, .int (nI g), .ref q3, .ref q4, .ref q5, .ref q6, .int 0, .int 0, .int 0, .long 0, .ref q11, .int 0, .long 0, .long 0]))] := hD
  refine lv_if_eq (tgt := 23) hx hb dX6_about_18 (by decide) (fun c_4 => ?_) (fun c_4 => absurd c_4 (by decide))
  refine lv_iload_n hx hb dX6_about_23 rfl (lv_at hl 1 rfl) ?_
  refine lv_if_ne (tgt := 34) hx hb dX6_about_24 (by decide) (fun c_5 => ?_) (fun c_5 => absurd c_5 (by decide))
  refine lv_iload_n hx hb dX6_about_34 rfl (lv_at hl 1 rfl) ?_
  refine lv_iconst (v := 3) hx hb dX6_about_35 (by decide) ?_
  refine lv_icmp_ge (tgt := 51) hx hb dX6_about_36 (by decide) (fun c_6 => ?_) (fun c_6 => absurd c_6 (by decide))
  refine lv_iload_n hx hb dX6_about_51 rfl (lv_at hl 1 rfl) ?_
  refine lv_iconst (v := 3) hx hb dX6_about_52 (by decide) ?_
  refine lv_icmp_ne (tgt := 71) hx hb dX6_about_53 (by decide) (fun c_7 => ?_) (fun c_7 => absurd c_7 (by decide))
  refine lv_aload_n hx hb dX6_about_71 rfl (lv_at hl 0 rfl) ?_
  refine va_get (D := D) (ci := 6) (v := .int 0) (C := RX6) (T := TX6) (N := 15) hx hb hts (by decide +kernel) hown hK hP 1 rfl rfl 9 (by decide) (hts (.fieldLink RX6 60 "JoinDeskModel" "kind" "I") (by decide +kernel)) (fun _ h9 => h9) rfl dX6_about_72 ?_
  refine lv_i2l (v := 0) hx hb dX6_about_75 (by first | rfl | decide) ?_
  have hP := hP.sub (ws' := [(mo, .inr (6, [.int 0, .ref q1, .int (nI g), .ref q3, .ref q4, .ref q5, .ref q6, .int 0, .int 0, .int 0, .long 0, .ref q11, .int 0, .long 0, .long 0])), (q6, .inl (cI, 2, .inl (fun _ => 0)))]) [1, 0] rfl
  have hD := hD.sub (ws' := [(mo, .inr (6, [.int 0, .ref q1, .int (nI g), .ref q3, .ref q4, .ref q5, .ref q6, .int 0, .int 0, .int 0, .long 0, .ref q11, .int 0, .long 0, .long 0])), (q6, .inl (cI, 2, .inl (fun _ => 0)))]) [1, 0] (by decide) rfl
  refine W.widen (k := 0) (n := 0) (by omega) (by omega) ?_
  exact W.lret (v := 0) hx hb hr (fun t ht hW => ⟨⟨0, [(mo, .inr (6, [.int 0, .ref q1, .int (nI g), .ref q3, .ref q4, .ref q5, .ref q6, .int 0, .int 0, .int 0, .long 0, .ref q11, .int 0, .long 0, .long 0])), (q6, .inl (cI, 2, .inl (fun _ => 0)))], rfl, (by exact ⟨rfl, rfl⟩), by rw [ht]; exact hP, hD⟩, hS.F ht⟩) hS.2.2 dX6_about_76
set_option maxHeartbeats 1000000 in
set_option maxRecDepth 100000 in
theorem cM_clear (l : Launch) (D : va_G) (cI cL cQ : ClassId) (g : Nat) (mo : Nat) (q1 : Nat) (q3 : Nat) (q4 : Nat) (q5 : Nat) (q6 : Nat) (q11 : Nat) (sz : Nat) : Met l yX6_clear wsX6_clear ({ frames := 1, cells := 0, slots := 0, locals := 21 }) (jw_P D vwCl (jT cI cL cQ) cL cQ [.ref mo] [(mo, .inr (6, [.int 0, .ref q1, .int (nI g), .ref q3, .ref q4, .ref q5, .ref q6, .int 0, .int 0, .int 0, .long 0, .ref q11, .int 0, .long 0, .long 0])), (q6, .inl (cI, 2, .inl (fun _ => 0))), (q11, .inl (cI, 24, .inl (fun _ => 0)))] sz) (va_Qv (fun u : va_W => ∃ (k6 : Nat → Int32) (g11 : Nat → Int32), u = [(mo, .inr (6, [.int 0, .ref q1, .int (nI g), .ref q3, .ref q4, .ref q5, .ref q6, .int 0, .int 0, .int 0, .long 0, .ref q11, .int 0, .long 0, .long 0])), (q6, .inl (cI, 2, .inl k6)), (q11, .inl (cI, 24, .inl g11))]) (jw_B D vwCl (va_A [(mo, .inr (6, [.int 0, .ref q1, .int (nI g), .ref q3, .ref q4, .ref q5, .ref q6, .int 0, .int 0, .int 0, .long 0, .ref q11, .int 0, .long 0, .long 0])), (q6, .inl (cI, 2, .inl (fun _ => 0))), (q11, .inl (cI, 24, .inl (fun _ => 0)))] sz) (fun u : va_W => u)) (va_A [(mo, .inr (6, [.int 0, .ref q1, .int (nI g), .ref q3, .ref q4, .ref q5, .ref q6, .int 0, .int 0, .int 0, .long 0, .ref q11, .int 0, .long 0, .long 0])), (q6, .inl (cI, 2, .inl (fun _ => 0))), (q11, .inl (cI, 24, .inl (fun _ => 0)))] sz)) 0 0 (va_A [(mo, .inr (6, [.int 0, .ref q1, .int (nI g), .ref q3, .ref q4, .ref q5, .ref q6, .int 0, .int 0, .int 0, .long 0, .ref q11, .int 0, .long 0, .long 0])), (q6, .inl (cI, 2, .inl (fun _ => 0))), (q11, .inl (cI, 24, .inl (fun _ => 0)))] sz) := by
  refine Met.ofW (cc := cX6_clear) (maxL := 1) (ret := none) (by decide) rfl ?_
  intro p e s m args below meth c s₁ B hml hv
  obtain ⟨rfl, hsz, hP, hK, hN, hD0⟩ := hv
  have hx := B.exec
  have hb := B.bytes
  have hr := B.returns
  have hts := atoms_spec (ws := wsX6_clear) B.pre
  have hown : s.vm.findClass RX6 = some m.cls := findClass_of_methodNamed B.named
  have hlocks := B.notSynchronized
  subst hsz
  have hD := hD0.self (sz := s.heap.size)
  generalize hAe : va_A [(mo, .inr (6, [.int 0, .ref q1, .int (nI g), .ref q3, .ref q4, .ref q5, .ref q6, .int 0, .int 0, .int 0, .long 0, .ref q11, .int 0, .long 0, .long 0])), (q6, .inl (cI, 2, .inl (fun _ => 0))), (q11, .inl (cI, 24, .inl (fun _ => 0)))] s.heap.size = A at hD ⊢
  have hA : ∀ q : Nat, s.heap.size ≤ q → A q := fun q h => by rw [← hAe]; exact Or.inr h
  have hS : va_S A s.heap s.heap [] := va_S.rf
  have hl := lv_entry ([.ref mo]) (n := 1) (Nat.le_of_ble_eq_true rfl)
  rw [lg_entry_eq]
  generalize (lg_sl ([.ref mo]) ++ List.replicate (1 - (lg_sl ([.ref mo])).length) Slot.unset).toArray = ls at hl ⊢
  have hl : lv_has ls 1 [(0, .ref mo)] := hl
  refine lv_aload_n hx hb dX6_clear_0 rfl (lv_at hl 0 rfl) ?_
  refine lv_iconst (v := 0) hx hb dX6_clear_1 (by decide) ?_
  refine va_put (D := D) (ci := 6) (v := .int 0) (ty := .int) (C := RX6) (T := TX6) (N := 15) hx hb hts (by decide +kernel) tyX6 tyX6_ok nmX6 hown hK hP hD hS 0 rfl rfl 0 (by decide) (hts (.fieldLink RX6 36 "JoinDeskModel" "code" "I") (by decide +kernel)) (fun _ h9 => h9) rfl (by decide +kernel) rfl rfl (Nat.le_of_ble_eq_true rfl) dX6_clear_2 (fun H locs hP hD hS => ?_)
  have hP : va_P D vwCl [(mo, .inr (6, [.int 0, .ref q1, .int (nI g), .ref q3, .ref q4, .ref q5, .ref q6, .int 0, .int 0, .int 0, .long 0, .ref q11, .int 0, .long 0, .long 0])), (q6, .inl (cI, 2, .inl (fun _ => 0))), (q11, .inl (cI, 24, .inl (fun _ => 0)))] H := hP
  have hD : va_D A [(mo, .inr (6, [.int 0, .ref q1, .int (nI g), .ref q3, .ref q4, .ref q5, .ref q6, .int 0, .int 0, .int 0, .long 0, .ref q11, .int 0, .long 0, .long 0])), (q6, .inl (cI, 2, .inl (fun _ => 0))), (q11, .inl (cI, 24, .inl (fun _ => 0)))] := hD
  refine lv_aload_n hx hb dX6_clear_5 rfl (lv_at hl 0 rfl) ?_
  refine va_get (D := D) (ci := 6) (v := .ref q6) (C := RX6) (T := TX6) (N := 15) hx hb hts (by decide +kernel) hown hK hP 0 rfl rfl 6 (by decide) (hts (.fieldLink RX6 22 "JoinDeskModel" "many" "[I") (by decide +kernel)) (fun _ h9 => h9) rfl dX6_clear_6 ?_
  refine lv_iconst (v := 0) hx hb dX6_clear_9 (by decide) ?_
  refine lv_iconst (v := 0) hx hb dX6_clear_10 (by decide) ?_
  refine va_iast hx hb hK hP hD hS 1 0 rfl rfl (by unfold vp_in; decide) dX6_clear_11 (fun H locs hP hD hS => ?_)
  have hP : va_P D vwCl [(mo, .inr (6, [.int 0, .ref q1, .int (nI g), .ref q3, .ref q4, .ref q5, .ref q6, .int 0, .int 0, .int 0, .long 0, .ref q11, .int 0, .long 0, .long 0])), (q6, .inl (cI, 2, .inl (upd (fun _ => 0) (0 : Int32).toNatClampNeg 0))), (q11, .inl (cI, 24, .inl (fun _ => 0)))] H := hP
  have hD : va_D A [(mo, .inr (6, [.int 0, .ref q1, .int (nI g), .ref q3, .ref q4, .ref q5, .ref q6, .int 0, .int 0, .int 0, .long 0, .ref q11, .int 0, .long 0, .long 0])), (q6, .inl (cI, 2, .inl (upd (fun _ => 0) (0 : Int32).toNatClampNeg 0))), (q11, .inl (cI, 24, .inl (fun _ => 0)))] := hD
  refine lv_aload_n hx hb dX6_clear_12 rfl (lv_at hl 0 rfl) ?_
  refine va_get (D := D) (ci := 6) (v := .ref q6) (C := RX6) (T := TX6) (N := 15) hx hb hts (by decide +kernel) hown hK hP 0 rfl rfl 6 (by decide) (hts (.fieldLink RX6 22 "JoinDeskModel" "many" "[I") (by decide +kernel)) (fun _ h9 => h9) rfl dX6_clear_13 ?_
  refine lv_iconst (v := 1) hx hb dX6_clear_16 (by decide) ?_
  refine lv_iconst (v := 0) hx hb dX6_clear_17 (by decide) ?_
  refine va_iast hx hb hK hP hD hS 1 0 rfl rfl (by unfold vp_in; decide) dX6_clear_18 (fun H locs hP hD hS => ?_)
  have hP : va_P D vwCl [(mo, .inr (6, [.int 0, .ref q1, .int (nI g), .ref q3, .ref q4, .ref q5, .ref q6, .int 0, .int 0, .int 0, .long 0, .ref q11, .int 0, .long 0, .long 0])), (q6, .inl (cI, 2, .inl (upd (upd (fun _ => 0) (0 : Int32).toNatClampNeg 0) (1 : Int32).toNatClampNeg 0))), (q11, .inl (cI, 24, .inl (fun _ => 0)))] H := hP
  have hD : va_D A [(mo, .inr (6, [.int 0, .ref q1, .int (nI g), .ref q3, .ref q4, .ref q5, .ref q6, .int 0, .int 0, .int 0, .long 0, .ref q11, .int 0, .long 0, .long 0])), (q6, .inl (cI, 2, .inl (upd (upd (fun _ => 0) (0 : Int32).toNatClampNeg 0) (1 : Int32).toNatClampNeg 0))), (q11, .inl (cI, 24, .inl (fun _ => 0)))] := hD
  refine lv_aload_n hx hb dX6_clear_19 rfl (lv_at hl 0 rfl) ?_
  refine lv_iconst (v := 0) hx hb dX6_clear_20 (by decide) ?_
  refine va_put (D := D) (ci := 6) (v := .int 0) (ty := .int) (C := RX6) (T := TX6) (N := 15) hx hb hts (by decide +kernel) tyX6 tyX6_ok nmX6 hown hK hP hD hS 0 rfl rfl 9 (by decide) (hts (.fieldLink RX6 60 "JoinDeskModel" "kind" "I") (by decide +kernel)) (fun _ h9 => h9) rfl (by decide +kernel) rfl rfl (Nat.le_of_ble_eq_true rfl) dX6_clear_21 (fun H locs hP hD hS => ?_)
  have hP : va_P D vwCl [(mo, .inr (6, [.int 0, .ref q1, .int (nI g), .ref q3, .ref q4, .ref q5, .ref q6, .int 0, .int 0, .int 0, .long 0, .ref q11, .int 0, .long 0, .long 0])), (q6, .inl (cI, 2, .inl (upd (upd (fun _ => 0) (0 : Int32).toNatClampNeg 0) (1 : Int32).toNatClampNeg 0))), (q11, .inl (cI, 24, .inl (fun _ => 0)))] H := hP
  have hD : va_D A [(mo, .inr (6, [.int 0, .ref q1, .int (nI g), .ref q3, .ref q4, .ref q5, .ref q6, .int 0, .int 0, .int 0, .long 0, .ref q11, .int 0, .long 0, .long 0])), (q6, .inl (cI, 2, .inl (upd (upd (fun _ => 0) (0 : Int32).toNatClampNeg 0) (1 : Int32).toNatClampNeg 0))), (q11, .inl (cI, 24, .inl (fun _ => 0)))] := hD
  refine lv_aload_n hx hb dX6_clear_24 rfl (lv_at hl 0 rfl) ?_
  refine lv_iconst (v := 0) hx hb dX6_clear_25 (by decide) ?_
  refine va_put (D := D) (ci := 6) (v := .int 0) (ty := .boolean) (C := RX6) (T := TX6) (N := 15) hx hb hts (by decide +kernel) tyX6 tyX6_ok nmX6 hown hK hP hD hS 0 rfl rfl 7 (by decide) (hts (.fieldLink RX6 43 "JoinDeskModel" "prepared" "Z") (by decide +kernel)) (fun _ h9 => h9) rfl (by decide +kernel) rfl rfl (Nat.le_of_ble_eq_true rfl) dX6_clear_26 (fun H locs hP hD hS => ?_)
  have hP : va_P D vwCl [(mo, .inr (6, [.int 0, .ref q1, .int (nI g), .ref q3, .ref q4, .ref q5, .ref q6, .int 0, .int 0, .int 0, .long 0, .ref q11, .int 0, .long 0, .long 0])), (q6, .inl (cI, 2, .inl (upd (upd (fun _ => 0) (0 : Int32).toNatClampNeg 0) (1 : Int32).toNatClampNeg 0))), (q11, .inl (cI, 24, .inl (fun _ => 0)))] H := hP
  have hD : va_D A [(mo, .inr (6, [.int 0, .ref q1, .int (nI g), .ref q3, .ref q4, .ref q5, .ref q6, .int 0, .int 0, .int 0, .long 0, .ref q11, .int 0, .long 0, .long 0])), (q6, .inl (cI, 2, .inl (upd (upd (fun _ => 0) (0 : Int32).toNatClampNeg 0) (1 : Int32).toNatClampNeg 0))), (q11, .inl (cI, 24, .inl (fun _ => 0)))] := hD
  refine lv_aload_n hx hb dX6_clear_29 rfl (lv_at hl 0 rfl) ?_
  refine lv_iconst (v := 0) hx hb dX6_clear_30 (by decide) ?_
  refine va_put (D := D) (ci := 6) (v := .int 0) (ty := .boolean) (C := RX6) (T := TX6) (N := 15) hx hb hts (by decide +kernel) tyX6 tyX6_ok nmX6 hown hK hP hD hS 0 rfl rfl 8 (by decide) (hts (.fieldLink RX6 47 "JoinDeskModel" "grouped" "Z") (by decide +kernel)) (fun _ h9 => h9) rfl (by decide +kernel) rfl rfl (Nat.le_of_ble_eq_true rfl) dX6_clear_31 (fun H locs hP hD hS => ?_)
  have hP : va_P D vwCl [(mo, .inr (6, [.int 0, .ref q1, .int (nI g), .ref q3, .ref q4, .ref q5, .ref q6, .int 0, .int 0, .int 0, .long 0, .ref q11, .int 0, .long 0, .long 0])), (q6, .inl (cI, 2, .inl (upd (upd (fun _ => 0) (0 : Int32).toNatClampNeg 0) (1 : Int32).toNatClampNeg 0))), (q11, .inl (cI, 24, .inl (fun _ => 0)))] H := hP
  have hD : va_D A [(mo, .inr (6, [.int 0, .ref q1, .int (nI g), .ref q3, .ref q4, .ref q5, .ref q6, .int 0, .int 0, .int 0, .long 0, .ref q11, .int 0, .long 0, .long 0])), (q6, .inl (cI, 2, .inl (upd (upd (fun _ => 0) (0 : Int32).toNatClampNeg 0) (1 : Int32).toNatClampNeg 0))), (q11, .inl (cI, 24, .inl (fun _ => 0)))] := hD
  refine lv_aload_n hx hb dX6_clear_34 rfl (lv_at hl 0 rfl) ?_
  refine lv_iconst (v := 0) hx hb dX6_clear_35 (by decide) ?_
  refine va_put (D := D) (ci := 6) (v := .int 0) (ty := .boolean) (C := RX6) (T := TX6) (N := 15) hx hb hts (by decide +kernel) tyX6 tyX6_ok nmX6 hown hK hP hD hS 0 rfl rfl 12 (by decide) (hts (.fieldLink RX6 57 "JoinDeskModel" "marked" "Z") (by decide +kernel)) (fun _ h9 => h9) rfl (by decide +kernel) rfl rfl (Nat.le_of_ble_eq_true rfl) dX6_clear_36 (fun H locs hP hD hS => ?_)
  have hP : va_P D vwCl [(mo, .inr (6, [.int 0, .ref q1, .int (nI g), .ref q3, .ref q4, .ref q5, .ref q6, .int 0, .int 0, .int 0, .long 0, .ref q11, .int 0, .long 0, .long 0])), (q6, .inl (cI, 2, .inl (upd (upd (fun _ => 0) (0 : Int32).toNatClampNeg 0) (1 : Int32).toNatClampNeg 0))), (q11, .inl (cI, 24, .inl (fun _ => 0)))] H := hP
  have hD : va_D A [(mo, .inr (6, [.int 0, .ref q1, .int (nI g), .ref q3, .ref q4, .ref q5, .ref q6, .int 0, .int 0, .int 0, .long 0, .ref q11, .int 0, .long 0, .long 0])), (q6, .inl (cI, 2, .inl (upd (upd (fun _ => 0) (0 : Int32).toNatClampNeg 0) (1 : Int32).toNatClampNeg 0))), (q11, .inl (cI, 24, .inl (fun _ => 0)))] := hD
  refine lv_aload_n hx hb dX6_clear_39 rfl (lv_at hl 0 rfl) ?_
  refine lv_lconst (v := 0) hx hb dX6_clear_40 (by decide) ?_
  refine va_put (D := D) (ci := 6) (v := .long 0) (ty := .long) (C := RX6) (T := TX6) (N := 15) hx hb hts (by decide +kernel) tyX6 tyX6_ok nmX6 hown hK hP hD hS 0 rfl rfl 10 (by decide) (hts (.fieldLink RX6 53 "JoinDeskModel" "cells" "J") (by decide +kernel)) (fun _ h9 => h9) rfl (by decide +kernel) rfl rfl (Nat.le_of_ble_eq_true rfl) dX6_clear_41 (fun H locs hP hD hS => ?_)
  have hP : va_P D vwCl [(mo, .inr (6, [.int 0, .ref q1, .int (nI g), .ref q3, .ref q4, .ref q5, .ref q6, .int 0, .int 0, .int 0, .long 0, .ref q11, .int 0, .long 0, .long 0])), (q6, .inl (cI, 2, .inl (upd (upd (fun _ => 0) (0 : Int32).toNatClampNeg 0) (1 : Int32).toNatClampNeg 0))), (q11, .inl (cI, 24, .inl (fun _ => 0)))] H := hP
  have hD : va_D A [(mo, .inr (6, [.int 0, .ref q1, .int (nI g), .ref q3, .ref q4, .ref q5, .ref q6, .int 0, .int 0, .int 0, .long 0, .ref q11, .int 0, .long 0, .long 0])), (q6, .inl (cI, 2, .inl (upd (upd (fun _ => 0) (0 : Int32).toNatClampNeg 0) (1 : Int32).toNatClampNeg 0))), (q11, .inl (cI, 24, .inl (fun _ => 0)))] := hD
  refine lv_aload_n hx hb dX6_clear_44 rfl (lv_at hl 0 rfl) ?_
  refine jw_v (wr := [(q6, .inl (cI, 2, .inl (upd (upd (fun _ => 0) (0 : Int32).toNatClampNeg 0) (1 : Int32).toNatClampNeg 0)))]) (va_runV (As := []) (rest := []) ⟨hx, hb, hml, hown, hts⟩ (cM_begins l D cI cL cQ mo 0 q1 (nI g) q3 q4 q5 q6 0 0 0 0 q11 0 0 0 (fun _ => 0) _) (cwV 0 hts gX6_clear_X6_begins rfl rfl rfl (by decide +kernel) ⟨Nat.le_of_ble_eq_true rfl, Nat.le_of_ble_eq_true rfl⟩) (jw_V hK hN hP hD [0, 2] (by decide) rfl 6 0 rfl rfl rfl) rfl rfl hl.1 rfl (lv_room (Nat.le_of_ble_eq_true rfl)) dX6_clear_45 ⟨Nat.le_of_ble_eq_true rfl, Nat.le_of_ble_eq_true rfl⟩) hP hD hS hA [0, 2] [1] rfl rfl (by decide) (by decide) (fun u H locs f_1 hP hD hS => ?_)
  obtain ⟨g11, rfl⟩ := f_1
  have hP : va_P D vwCl [(q6, .inl (cI, 2, .inl (upd (upd (fun _ => 0) (0 : Int32).toNatClampNeg 0) (1 : Int32).toNatClampNeg 0))), (mo, .inr (6, [.int 0, .ref q1, .int (nI g), .ref q3, .ref q4, .ref q5, .ref q6, .int 0, .int 0, .int 0, .long 0, .ref q11, .int 0, .long 0, .long 0])), (q11, .inl (cI, 24, .inl g11))] H := hP
  have hD : va_D A [(q6, .inl (cI, 2, .inl (upd (upd (fun _ => 0) (0 : Int32).toNatClampNeg 0) (1 : Int32).toNatClampNeg 0))), (mo, .inr (6, [.int 0, .ref q1, .int (nI g), .ref q3, .ref q4, .ref q5, .ref q6, .int 0, .int 0, .int 0, .long 0, .ref q11, .int 0, .long 0, .long 0])), (q11, .inl (cI, 24, .inl g11))] := hD
  have hP := hP.sub (ws' := [(mo, .inr (6, [.int 0, .ref q1, .int (nI g), .ref q3, .ref q4, .ref q5, .ref q6, .int 0, .int 0, .int 0, .long 0, .ref q11, .int 0, .long 0, .long 0])), (q6, .inl (cI, 2, .inl (upd (upd (fun _ => 0) (0 : Int32).toNatClampNeg 0) (1 : Int32).toNatClampNeg 0))), (q11, .inl (cI, 24, .inl g11))]) [1, 0, 2] rfl
  have hD := hD.sub (ws' := [(mo, .inr (6, [.int 0, .ref q1, .int (nI g), .ref q3, .ref q4, .ref q5, .ref q6, .int 0, .int 0, .int 0, .long 0, .ref q11, .int 0, .long 0, .long 0])), (q6, .inl (cI, 2, .inl (upd (upd (fun _ => 0) (0 : Int32).toNatClampNeg 0) (1 : Int32).toNatClampNeg 0))), (q11, .inl (cI, 24, .inl g11))]) [1, 0, 2] (by decide) rfl
  refine W.widen (k := 0) (n := 0) (by omega) (by omega) ?_
  exact W.vret hx hb hr (fun t ht hW => ⟨⟨[(mo, .inr (6, [.int 0, .ref q1, .int (nI g), .ref q3, .ref q4, .ref q5, .ref q6, .int 0, .int 0, .int 0, .long 0, .ref q11, .int 0, .long 0, .long 0])), (q6, .inl (cI, 2, .inl (upd (upd (fun _ => 0) (0 : Int32).toNatClampNeg 0) (1 : Int32).toNatClampNeg 0))), (q11, .inl (cI, 24, .inl g11))], rfl, (by exact ⟨_, _, rfl⟩), by rw [ht]; exact hP, hD⟩, hS.F ht⟩) hS.2.2 dX6_clear_48
