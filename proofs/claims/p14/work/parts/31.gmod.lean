set_option maxHeartbeats 1000000 in
set_option maxRecDepth 100000 in
theorem gM_thrown (l : Launch) (D : va_G) (cI cL cQ : ClassId) (mo : Nat) (g : Nat) (q1 : Nat) (q3 : Nat) (q4 : Nat) (q5 : Nat) (q6 : Nat) (q11 : Nat) (z0 : Int32) (pr : Int32) (gr : Int32) (kd : Int32) (mk : Int32) (w10 : Int64) (w13 : Int64) (w14 : Int64) : Met l yX6_thrown wsX6_thrown ({ frames := 0, cells := 0, slots := 0, locals := 0 }) (jr_P D vwCl (jT cI cL cQ) cL cQ [.ref mo] [(mo, .inr (6, [.int z0, .ref q1, .int (nI g), .ref q3, .ref q4, .ref q5, .ref q6, .int pr, .int gr, .int kd, .long w10, .ref q11, .int mk, .long w13, .long w14]))]) (vp_Si (fun r : Int32 => r = z0)) 0 0 (fun _ => False) := by
  refine Met.ofW (cc := cX6_thrown) (maxL := 1) (ret := (some .int)) (by decide) rfl ?_
  intro p e s m args below meth c s₁ B hml hv
  obtain ⟨rfl, hP, hK, hN⟩ := hv
  have hx := B.exec
  have hb := B.bytes
  have hr := B.returns
  have hts := atoms_spec (ws := wsX6_thrown) B.pre
  have hown : s.vm.findClass RX6 = some m.cls := findClass_of_methodNamed B.named
  have hlocks := B.notSynchronized
  have hl := lv_entry ([.ref mo]) (n := 1) (Nat.le_of_ble_eq_true rfl)
  rw [lg_entry_eq]
  generalize (lg_sl ([.ref mo]) ++ List.replicate (1 - (lg_sl ([.ref mo])).length) Slot.unset).toArray = ls at hl ⊢
  have hl : lv_has ls 1 [(0, .ref mo)] := hl
  refine lv_aload_n hx hb dX6_thrown_0 rfl (lv_at hl 0 rfl) ?_
  refine va_get (D := D) (ci := 6) (v := .int z0) (C := RX6) (T := TX6) (N := 15) hx hb hts (by decide +kernel) hown hK hP 0 rfl rfl 0 (by decide) (hts (.fieldLink RX6 36 "JoinDeskModel" "code" "I") (by decide +kernel)) (fun _ h9 => h9) rfl dX6_thrown_1 ?_
  exact W.iret (v := z0) hx hb hr (fun t ht hW => ⟨z0, rfl, (by exact rfl), ht⟩) (fun _ h => nomatch h) dX6_thrown_4
set_option maxHeartbeats 1000000 in
set_option maxRecDepth 100000 in
theorem gM_refuses_0 (l : Launch) (D : va_G) (cI cL cQ : ClassId) (mo : Nat) (g : Nat) (q1 : Nat) (q3 : Nat) (q4 : Nat) (q5 : Nat) (q6 : Nat) (q11 : Nat) (z0 : Int32) (pr : Int32) (gr : Int32) (kd : Int32) (mk : Int32) (w10 : Int64) (w13 : Int64) (w14 : Int64) (sz : Nat) : Met l yX6_refuses wsX6_refuses ({ frames := 0, cells := 0, slots := 0, locals := 0 }) (jw_P D vwCl (jT cI cL cQ) cL cQ [.ref mo, .int 0] [(mo, .inr (6, [.int z0, .ref q1, .int (nI g), .ref q3, .ref q4, .ref q5, .ref q6, .int pr, .int gr, .int kd, .long w10, .ref q11, .int mk, .long w13, .long w14]))] sz) (va_Qi (fun (r : Int32) (u : va_W) => r = 0 ∧ u = [(mo, .inr (6, [.int 0, .ref q1, .int (nI g), .ref q3, .ref q4, .ref q5, .ref q6, .int pr, .int gr, .int kd, .long w10, .ref q11, .int mk, .long w13, .long w14]))]) (jw_B D vwCl (va_A [(mo, .inr (6, [.int z0, .ref q1, .int (nI g), .ref q3, .ref q4, .ref q5, .ref q6, .int pr, .int gr, .int kd, .long w10, .ref q11, .int mk, .long w13, .long w14]))] sz) (fun u : va_W => u)) (va_A [(mo, .inr (6, [.int z0, .ref q1, .int (nI g), .ref q3, .ref q4, .ref q5, .ref q6, .int pr, .int gr, .int kd, .long w10, .ref q11, .int mk, .long w13, .long w14]))] sz)) 0 0 (va_A [(mo, .inr (6, [.int z0, .ref q1, .int (nI g), .ref q3, .ref q4, .ref q5, .ref q6, .int pr, .int gr, .int kd, .long w10, .ref q11, .int mk, .long w13, .long w14]))] sz) := by
  refine Met.ofW (cc := cX6_refuses) (maxL := 2) (ret := (some .boolean)) (by decide) rfl ?_
  intro p e s m args below meth c s₁ B hml hv
  obtain ⟨rfl, hsz, hP, hK, hN, hD0⟩ := hv
  have hx := B.exec
  have hb := B.bytes
  have hr := B.returns
  have hts := atoms_spec (ws := wsX6_refuses) B.pre
  have hown : s.vm.findClass RX6 = some m.cls := findClass_of_methodNamed B.named
  have hlocks := B.notSynchronized
  subst hsz
  have hD := hD0.self (sz := s.heap.size)
  generalize hAe : va_A [(mo, .inr (6, [.int z0, .ref q1, .int (nI g), .ref q3, .ref q4, .ref q5, .ref q6, .int pr, .int gr, .int kd, .long w10, .ref q11, .int mk, .long w13, .long w14]))] s.heap.size = A at hD ⊢
  have hA : ∀ q : Nat, s.heap.size ≤ q → A q := fun q h => by rw [← hAe]; exact Or.inr h
  have hS : va_S A s.heap s.heap [] := va_S.rf
  have hl := lv_entry ([.ref mo, .int 0]) (n := 2) (Nat.le_of_ble_eq_true rfl)
  rw [lg_entry_eq]
  generalize (lg_sl ([.ref mo, .int 0]) ++ List.replicate (2 - (lg_sl ([.ref mo, .int 0])).length) Slot.unset).toArray = ls at hl ⊢
  have hl : lv_has ls 2 [(0, .ref mo), (1, .int 0)] := hl
  refine lv_aload_n hx hb dX6_refuses_0 rfl (lv_at hl 0 rfl) ?_
  refine lv_iload_n hx hb dX6_refuses_1 rfl (lv_at hl 1 rfl) ?_
  refine va_put (D := D) (ci := 6) (v := .int 0) (ty := .int) (C := RX6) (T := TX6) (N := 15) hx hb hts (by decide +kernel) tyX6 tyX6_ok nmX6 hown hK hP hD hS 0 rfl rfl 0 (by decide) (hts (.fieldLink RX6 36 "JoinDeskModel" "code" "I") (by decide +kernel)) (fun _ h9 => h9) rfl (by decide +kernel) rfl rfl (Nat.le_of_ble_eq_true rfl) dX6_refuses_2 (fun H locs hP hD hS => ?_)
  have hP : va_P D vwCl [(mo, .inr (6, [.int 0, .ref q1, .int (nI g), .ref q3, .ref q4, .ref q5, .ref q6, .int pr, .int gr, .int kd, .long w10, .ref q11, .int mk, .long w13, .long w14]))] H := hP
  have hD : va_D A [(mo, .inr (6, [.int 0, .ref q1, .int (nI g), .ref q3, .ref q4, .ref q5, .ref q6, .int pr, .int gr, .int kd, .long w10, .ref q11, .int mk, .long w13, .long w14]))] := hD
  refine lv_iload_n hx hb dX6_refuses_5 rfl (lv_at hl 1 rfl) ?_
  refine lv_if_le (tgt := 13) hx hb dX6_refuses_6 (by decide) (fun c_1 => ?_) (fun c_1 => absurd c_1 (by decide))
  refine lv_iconst (v := 0) hx hb dX6_refuses_13 (by decide) ?_
  refine W.widen (k := 0) (n := 0) (by omega) (by omega) ?_
  exact W.zret (v := 0) (ty := .boolean) hx hb hr rfl (fun t ht hW => ⟨⟨0, [(mo, .inr (6, [.int 0, .ref q1, .int (nI g), .ref q3, .ref q4, .ref q5, .ref q6, .int pr, .int gr, .int kd, .long w10, .ref q11, .int mk, .long w13, .long w14]))], rfl, (by exact ⟨rfl, rfl⟩), by rw [ht]; exact hP, hD⟩, hS.F ht⟩) hS.2.2 dX6_refuses_14
set_option maxHeartbeats 1000000 in
set_option maxRecDepth 100000 in
theorem gM_refuses_1 (l : Launch) (D : va_G) (cI cL cQ : ClassId) (mo : Nat) (g : Nat) (q1 : Nat) (q3 : Nat) (q4 : Nat) (q5 : Nat) (q6 : Nat) (q11 : Nat) (z0 : Int32) (pr : Int32) (gr : Int32) (kd : Int32) (mk : Int32) (w10 : Int64) (w13 : Int64) (w14 : Int64) (sz : Nat) : Met l yX6_refuses wsX6_refuses ({ frames := 0, cells := 0, slots := 0, locals := 0 }) (jw_P D vwCl (jT cI cL cQ) cL cQ [.ref mo, .int 1] [(mo, .inr (6, [.int z0, .ref q1, .int (nI g), .ref q3, .ref q4, .ref q5, .ref q6, .int pr, .int gr, .int kd, .long w10, .ref q11, .int mk, .long w13, .long w14]))] sz) (va_Qi (fun (r : Int32) (u : va_W) => r = 1 ∧ u = [(mo, .inr (6, [.int 1, .ref q1, .int (nI g), .ref q3, .ref q4, .ref q5, .ref q6, .int pr, .int gr, .int kd, .long w10, .ref q11, .int mk, .long w13, .long w14]))]) (jw_B D vwCl (va_A [(mo, .inr (6, [.int z0, .ref q1, .int (nI g), .ref q3, .ref q4, .ref q5, .ref q6, .int pr, .int gr, .int kd, .long w10, .ref q11, .int mk, .long w13, .long w14]))] sz) (fun u : va_W => u)) (va_A [(mo, .inr (6, [.int z0, .ref q1, .int (nI g), .ref q3, .ref q4, .ref q5, .ref q6, .int pr, .int gr, .int kd, .long w10, .ref q11, .int mk, .long w13, .long w14]))] sz)) 0 0 (va_A [(mo, .inr (6, [.int z0, .ref q1, .int (nI g), .ref q3, .ref q4, .ref q5, .ref q6, .int pr, .int gr, .int kd, .long w10, .ref q11, .int mk, .long w13, .long w14]))] sz) := by
  refine Met.ofW (cc := cX6_refuses) (maxL := 2) (ret := (some .boolean)) (by decide) rfl ?_
  intro p e s m args below meth c s₁ B hml hv
  obtain ⟨rfl, hsz, hP, hK, hN, hD0⟩ := hv
  have hx := B.exec
  have hb := B.bytes
  have hr := B.returns
  have hts := atoms_spec (ws := wsX6_refuses) B.pre
  have hown : s.vm.findClass RX6 = some m.cls := findClass_of_methodNamed B.named
  have hlocks := B.notSynchronized
  subst hsz
  have hD := hD0.self (sz := s.heap.size)
  generalize hAe : va_A [(mo, .inr (6, [.int z0, .ref q1, .int (nI g), .ref q3, .ref q4, .ref q5, .ref q6, .int pr, .int gr, .int kd, .long w10, .ref q11, .int mk, .long w13, .long w14]))] s.heap.size = A at hD ⊢
  have hA : ∀ q : Nat, s.heap.size ≤ q → A q := fun q h => by rw [← hAe]; exact Or.inr h
  have hS : va_S A s.heap s.heap [] := va_S.rf
  have hl := lv_entry ([.ref mo, .int 1]) (n := 2) (Nat.le_of_ble_eq_true rfl)
  rw [lg_entry_eq]
  generalize (lg_sl ([.ref mo, .int 1]) ++ List.replicate (2 - (lg_sl ([.ref mo, .int 1])).length) Slot.unset).toArray = ls at hl ⊢
  have hl : lv_has ls 2 [(0, .ref mo), (1, .int 1)] := hl
  refine lv_aload_n hx hb dX6_refuses_0 rfl (lv_at hl 0 rfl) ?_
  refine lv_iload_n hx hb dX6_refuses_1 rfl (lv_at hl 1 rfl) ?_
  refine va_put (D := D) (ci := 6) (v := .int 1) (ty := .int) (C := RX6) (T := TX6) (N := 15) hx hb hts (by decide +kernel) tyX6 tyX6_ok nmX6 hown hK hP hD hS 0 rfl rfl 0 (by decide) (hts (.fieldLink RX6 36 "JoinDeskModel" "code" "I") (by decide +kernel)) (fun _ h9 => h9) rfl (by decide +kernel) rfl rfl (Nat.le_of_ble_eq_true rfl) dX6_refuses_2 (fun H locs hP hD hS => ?_)
  have hP : va_P D vwCl [(mo, .inr (6, [.int 1, .ref q1, .int (nI g), .ref q3, .ref q4, .ref q5, .ref q6, .int pr, .int gr, .int kd, .long w10, .ref q11, .int mk, .long w13, .long w14]))] H := hP
  have hD : va_D A [(mo, .inr (6, [.int 1, .ref q1, .int (nI g), .ref q3, .ref q4, .ref q5, .ref q6, .int pr, .int gr, .int kd, .long w10, .ref q11, .int mk, .long w13, .long w14]))] := hD
  refine lv_iload_n hx hb dX6_refuses_5 rfl (lv_at hl 1 rfl) ?_
  refine lv_if_le (tgt := 13) hx hb dX6_refuses_6 (by decide) (fun c_1 => absurd c_1 (by decide)) (fun c_1 => ?_)
  refine lv_iconst (v := 1) hx hb dX6_refuses_9 (by decide) ?_
  refine lv_goto (tgt := 14) hx hb dX6_refuses_10 (by decide) ?_
  refine W.widen (k := 0) (n := 0) (by omega) (by omega) ?_
  exact W.zret (v := 1) (ty := .boolean) hx hb hr rfl (fun t ht hW => ⟨⟨1, [(mo, .inr (6, [.int 1, .ref q1, .int (nI g), .ref q3, .ref q4, .ref q5, .ref q6, .int pr, .int gr, .int kd, .long w10, .ref q11, .int mk, .long w13, .long w14]))], rfl, (by exact ⟨rfl, rfl⟩), by rw [ht]; exact hP, hD⟩, hS.F ht⟩) hS.2.2 dX6_refuses_14
set_option maxHeartbeats 1000000 in
set_option maxRecDepth 100000 in
theorem gM_refuses_2 (l : Launch) (D : va_G) (cI cL cQ : ClassId) (mo : Nat) (g : Nat) (q1 : Nat) (q3 : Nat) (q4 : Nat) (q5 : Nat) (q6 : Nat) (q11 : Nat) (z0 : Int32) (pr : Int32) (gr : Int32) (kd : Int32) (mk : Int32) (w10 : Int64) (w13 : Int64) (w14 : Int64) (sz : Nat) : Met l yX6_refuses wsX6_refuses ({ frames := 0, cells := 0, slots := 0, locals := 0 }) (jw_P D vwCl (jT cI cL cQ) cL cQ [.ref mo, .int 2] [(mo, .inr (6, [.int z0, .ref q1, .int (nI g), .ref q3, .ref q4, .ref q5, .ref q6, .int pr, .int gr, .int kd, .long w10, .ref q11, .int mk, .long w13, .long w14]))] sz) (va_Qi (fun (r : Int32) (u : va_W) => r = 1 ∧ u = [(mo, .inr (6, [.int 2, .ref q1, .int (nI g), .ref q3, .ref q4, .ref q5, .ref q6, .int pr, .int gr, .int kd, .long w10, .ref q11, .int mk, .long w13, .long w14]))]) (jw_B D vwCl (va_A [(mo, .inr (6, [.int z0, .ref q1, .int (nI g), .ref q3, .ref q4, .ref q5, .ref q6, .int pr, .int gr, .int kd, .long w10, .ref q11, .int mk, .long w13, .long w14]))] sz) (fun u : va_W => u)) (va_A [(mo, .inr (6, [.int z0, .ref q1, .int (nI g), .ref q3, .ref q4, .ref q5, .ref q6, .int pr, .int gr, .int kd, .long w10, .ref q11, .int mk, .long w13, .long w14]))] sz)) 0 0 (va_A [(mo, .inr (6, [.int z0, .ref q1, .int (nI g), .ref q3, .ref q4, .ref q5, .ref q6, .int pr, .int gr, .int kd, .long w10, .ref q11, .int mk, .long w13, .long w14]))] sz) := by
  refine Met.ofW (cc := cX6_refuses) (maxL := 2) (ret := (some .boolean)) (by decide) rfl ?_
  intro p e s m args below meth c s₁ B hml hv
  obtain ⟨rfl, hsz, hP, hK, hN, hD0⟩ := hv
  have hx := B.exec
  have hb := B.bytes
  have hr := B.returns
  have hts := atoms_spec (ws := wsX6_refuses) B.pre
  have hown : s.vm.findClass RX6 = some m.cls := findClass_of_methodNamed B.named
  have hlocks := B.notSynchronized
  subst hsz
  have hD := hD0.self (sz := s.heap.size)
  generalize hAe : va_A [(mo, .inr (6, [.int z0, .ref q1, .int (nI g), .ref q3, .ref q4, .ref q5, .ref q6, .int pr, .int gr, .int kd, .long w10, .ref q11, .int mk, .long w13, .long w14]))] s.heap.size = A at hD ⊢
  have hA : ∀ q : Nat, s.heap.size ≤ q → A q := fun q h => by rw [← hAe]; exact Or.inr h
  have hS : va_S A s.heap s.heap [] := va_S.rf
  have hl := lv_entry ([.ref mo, .int 2]) (n := 2) (Nat.le_of_ble_eq_true rfl)
  rw [lg_entry_eq]
  generalize (lg_sl ([.ref mo, .int 2]) ++ List.replicate (2 - (lg_sl ([.ref mo, .int 2])).length) Slot.unset).toArray = ls at hl ⊢
  have hl : lv_has ls 2 [(0, .ref mo), (1, .int 2)] := hl
  refine lv_aload_n hx hb dX6_refuses_0 rfl (lv_at hl 0 rfl) ?_
  refine lv_iload_n hx hb dX6_refuses_1 rfl (lv_at hl 1 rfl) ?_
  refine va_put (D := D) (ci := 6) (v := .int 2) (ty := .int) (C := RX6) (T := TX6) (N := 15) hx hb hts (by decide +kernel) tyX6 tyX6_ok nmX6 hown hK hP hD hS 0 rfl rfl 0 (by decide) (hts (.fieldLink RX6 36 "JoinDeskModel" "code" "I") (by decide +kernel)) (fun _ h9 => h9) rfl (by decide +kernel) rfl rfl (Nat.le_of_ble_eq_true rfl) dX6_refuses_2 (fun H locs hP hD hS => ?_)
  have hP : va_P D vwCl [(mo, .inr (6, [.int 2, .ref q1, .int (nI g), .ref q3, .ref q4, .ref q5, .ref q6, .int pr, .int gr, .int kd, .long w10, .ref q11, .int mk, .long w13, .long w14]))] H := hP
  have hD : va_D A [(mo, .inr (6, [.int 2, .ref q1, .int (nI g), .ref q3, .ref q4, .ref q5, .ref q6, .int pr, .int gr, .int kd, .long w10, .ref q11, .int mk, .long w13, .long w14]))] := hD
  refine lv_iload_n hx hb dX6_refuses_5 rfl (lv_at hl 1 rfl) ?_
  refine lv_if_le (tgt := 13) hx hb dX6_refuses_6 (by decide) (fun c_1 => absurd c_1 (by decide)) (fun c_1 => ?_)
  refine lv_iconst (v := 1) hx hb dX6_refuses_9 (by decide) ?_
  refine lv_goto (tgt := 14) hx hb dX6_refuses_10 (by decide) ?_
  refine W.widen (k := 0) (n := 0) (by omega) (by omega) ?_
  exact W.zret (v := 1) (ty := .boolean) hx hb hr rfl (fun t ht hW => ⟨⟨1, [(mo, .inr (6, [.int 2, .ref q1, .int (nI g), .ref q3, .ref q4, .ref q5, .ref q6, .int pr, .int gr, .int kd, .long w10, .ref q11, .int mk, .long w13, .long w14]))], rfl, (by exact ⟨rfl, rfl⟩), by rw [ht]; exact hP, hD⟩, hS.F ht⟩) hS.2.2 dX6_refuses_14
set_option maxHeartbeats 1000000 in
set_option maxRecDepth 100000 in
theorem gM_begins (l : Launch) (D : va_G) (cI cL cQ : ClassId) (mo : Nat) (g : Nat) (q1 : Nat) (q3 : Nat) (q4 : Nat) (q5 : Nat) (q6 : Nat) (q11 : Nat) (z0 : Int32) (pr : Int32) (gr : Int32) (kd : Int32) (mk : Int32) (w10 : Int64) (w13 : Int64) (w14 : Int64) (t0 : Int32) (t1 : Int32) (t2 : Int32) (t3 : Int32) (t4 : Int32) (t5 : Int32) (t6 : Int32) (t7 : Int32) (t8 : Int32) (t9 : Int32) (t10 : Int32) (t11 : Int32) (t12 : Int32) (t13 : Int32) (t14 : Int32) (t15 : Int32) (t16 : Int32) (t17 : Int32) (t18 : Int32) (t19 : Int32) (t20 : Int32) (t21 : Int32) (t22 : Int32) (t23 : Int32) (sz : Nat) : Met l yX6_begins wsX6_begins ({ frames := 0, cells := 0, slots := 0, locals := 0 }) (jw_P D vwCl (jT cI cL cQ) cL cQ [.ref mo] [(mo, .inr (6, [.int z0, .ref q1, .int (nI g), .ref q3, .ref q4, .ref q5, .ref q6, .int pr, .int gr, .int kd, .long w10, .ref q11, .int mk, .long w13, .long w14])), (q11, .inl (cI, 24, .inl (jl [t0, t1, t2, t3, t4, t5, t6, t7, t8, t9, t10, t11, t12, t13, t14, t15, t16, t17, t18, t19, t20, t21, t22, t23])))] sz) (va_Qv (fun u : va_W => u = [(mo, .inr (6, [.int z0, .ref q1, .int (nI g), .ref q3, .ref q4, .ref q5, .ref q6, .int pr, .int gr, .int kd, .long w10, .ref q11, .int mk, .long w13, .long w14])), (q11, .inl (cI, 24, .inl (jl [0, 0, 0, 0, 0, 0, 0, 0, 0, 0, 0, 0, t12, t13, t14, t15, t16, t17, t18, t19, t20, t21, t22, t23])))]) (jw_B D vwCl (va_A [(mo, .inr (6, [.int z0, .ref q1, .int (nI g), .ref q3, .ref q4, .ref q5, .ref q6, .int pr, .int gr, .int kd, .long w10, .ref q11, .int mk, .long w13, .long w14])), (q11, .inl (cI, 24, .inl (jl [t0, t1, t2, t3, t4, t5, t6, t7, t8, t9, t10, t11, t12, t13, t14, t15, t16, t17, t18, t19, t20, t21, t22, t23])))] sz) (fun u : va_W => u)) (va_A [(mo, .inr (6, [.int z0, .ref q1, .int (nI g), .ref q3, .ref q4, .ref q5, .ref q6, .int pr, .int gr, .int kd, .long w10, .ref q11, .int mk, .long w13, .long w14])), (q11, .inl (cI, 24, .inl (jl [t0, t1, t2, t3, t4, t5, t6, t7, t8, t9, t10, t11, t12, t13, t14, t15, t16, t17, t18, t19, t20, t21, t22, t23])))] sz)) 0 0 (va_A [(mo, .inr (6, [.int z0, .ref q1, .int (nI g), .ref q3, .ref q4, .ref q5, .ref q6, .int pr, .int gr, .int kd, .long w10, .ref q11, .int mk, .long w13, .long w14])), (q11, .inl (cI, 24, .inl (jl [t0, t1, t2, t3, t4, t5, t6, t7, t8, t9, t10, t11, t12, t13, t14, t15, t16, t17, t18, t19, t20, t21, t22, t23])))] sz) := by
  refine Met.ofW (cc := cX6_begins) (maxL := 2) (ret := none) (by decide) rfl ?_
  intro p e s m args below meth c s₁ B hml hv
  obtain ⟨rfl, hsz, hP, hK, hN, hD0⟩ := hv
  have hx := B.exec
  have hb := B.bytes
  have hr := B.returns
  have hts := atoms_spec (ws := wsX6_begins) B.pre
  have hown : s.vm.findClass RX6 = some m.cls := findClass_of_methodNamed B.named
  have hlocks := B.notSynchronized
  subst hsz
  have hD := hD0.self (sz := s.heap.size)
  generalize hAe : va_A [(mo, .inr (6, [.int z0, .ref q1, .int (nI g), .ref q3, .ref q4, .ref q5, .ref q6, .int pr, .int gr, .int kd, .long w10, .ref q11, .int mk, .long w13, .long w14])), (q11, .inl (cI, 24, .inl (jl [t0, t1, t2, t3, t4, t5, t6, t7, t8, t9, t10, t11, t12, t13, t14, t15, t16, t17, t18, t19, t20, t21, t22, t23])))] s.heap.size = A at hD ⊢
  have hA : ∀ q : Nat, s.heap.size ≤ q → A q := fun q h => by rw [← hAe]; exact Or.inr h
  have hS : va_S A s.heap s.heap [] := va_S.rf
  have hl := lv_entry ([.ref mo]) (n := 2) (Nat.le_of_ble_eq_true rfl)
  rw [lg_entry_eq]
  generalize (lg_sl ([.ref mo]) ++ List.replicate (2 - (lg_sl ([.ref mo])).length) Slot.unset).toArray = ls at hl ⊢
  have hl : lv_has ls 2 [(0, .ref mo)] := hl
  refine lv_iconst (v := 0) hx hb dX6_begins_0 (by decide) ?_
  refine lv_istore_n (lv' := [(1, .int 0), (0, .ref mo)]) hx hb dX6_begins_1 rfl hl (by decide) rfl (fun ls hl => ?_)
  refine lv_iload_n hx hb dX6_begins_2 rfl (lv_at hl 0 rfl) ?_
  refine lv_bipush (v := 12) hx hb dX6_begins_3 (by decide) ?_
  refine lv_icmp_ge (tgt := 21) hx hb dX6_begins_5 (by decide) (fun c_1 => absurd c_1 (by decide)) (fun c_1 => ?_)
  refine lv_aload_n hx hb dX6_begins_8 rfl (lv_at hl 1 rfl) ?_
  refine va_get (D := D) (ci := 6) (v := .ref q11) (C := RX6) (T := TX6) (N := 15) hx hb hts (by decide +kernel) hown hK hP 0 rfl rfl 11 (by decide) (hts (.fieldLink RX6 25 "JoinDeskModel" "at" "[I") (by decide +kernel)) (fun _ h9 => h9) rfl dX6_begins_9 ?_
  refine lv_iload_n hx hb dX6_begins_12 rfl (lv_at hl 0 rfl) ?_
  refine lv_iconst (v := 0) hx hb dX6_begins_13 (by decide) ?_
  refine va_iast hx hb hK hP hD hS 1 0 rfl rfl (by unfold vp_in; decide) dX6_begins_14 (fun H locs hP hD hS => ?_)
  rw [jl_upd (show (0 : Int32).toNatClampNeg = 0 by decide) (Nat.le_of_ble_eq_true rfl)] at hP hD
  have hP : va_P D vwCl [(mo, .inr (6, [.int z0, .ref q1, .int (nI g), .ref q3, .ref q4, .ref q5, .ref q6, .int pr, .int gr, .int kd, .long w10, .ref q11, .int mk, .long w13, .long w14])), (q11, .inl (cI, 24, .inl (jl [0, t1, t2, t3, t4, t5, t6, t7, t8, t9, t10, t11, t12, t13, t14, t15, t16, t17, t18, t19, t20, t21, t22, t23])))] H := hP
  have hD : va_D A [(mo, .inr (6, [.int z0, .ref q1, .int (nI g), .ref q3, .ref q4, .ref q5, .ref q6, .int pr, .int gr, .int kd, .long w10, .ref q11, .int mk, .long w13, .long w14])), (q11, .inl (cI, 24, .inl (jl [0, t1, t2, t3, t4, t5, t6, t7, t8, t9, t10, t11, t12, t13, t14, t15, t16, t17, t18, t19, t20, t21, t22, t23])))] := hD
  refine lv_iinc (v := 1) (lv' := [(1, .int 1), (0, .ref mo)]) hx hb dX6_begins_15 hl (k := 0) rfl (by first | rfl | decide) (by decide) rfl (fun ls hl => ?_)
  refine lv_goto (tgt := 2) hx hb dX6_begins_18 (by decide) ?_
  refine lv_iload_n hx hb dX6_begins_2 rfl (lv_at hl 0 rfl) ?_
  refine lv_bipush (v := 12) hx hb dX6_begins_3 (by decide) ?_
  refine lv_icmp_ge (tgt := 21) hx hb dX6_begins_5 (by decide) (fun c_2 => absurd c_2 (by decide)) (fun c_2 => ?_)
  refine lv_aload_n hx hb dX6_begins_8 rfl (lv_at hl 1 rfl) ?_
  refine va_get (D := D) (ci := 6) (v := .ref q11) (C := RX6) (T := TX6) (N := 15) hx hb hts (by decide +kernel) hown hK hP 0 rfl rfl 11 (by decide) (hts (.fieldLink RX6 25 "JoinDeskModel" "at" "[I") (by decide +kernel)) (fun _ h9 => h9) rfl dX6_begins_9 ?_
  refine lv_iload_n hx hb dX6_begins_12 rfl (lv_at hl 0 rfl) ?_
  refine lv_iconst (v := 0) hx hb dX6_begins_13 (by decide) ?_
  refine va_iast hx hb hK hP hD hS 1 0 rfl rfl (by unfold vp_in; decide) dX6_begins_14 (fun H locs hP hD hS => ?_)
  rw [jl_upd (show (1 : Int32).toNatClampNeg = 1 by decide) (Nat.le_of_ble_eq_true rfl)] at hP hD
  have hP : va_P D vwCl [(mo, .inr (6, [.int z0, .ref q1, .int (nI g), .ref q3, .ref q4, .ref q5, .ref q6, .int pr, .int gr, .int kd, .long w10, .ref q11, .int mk, .long w13, .long w14])), (q11, .inl (cI, 24, .inl (jl [0, 0, t2, t3, t4, t5, t6, t7, t8, t9, t10, t11, t12, t13, t14, t15, t16, t17, t18, t19, t20, t21, t22, t23])))] H := hP
  have hD : va_D A [(mo, .inr (6, [.int z0, .ref q1, .int (nI g), .ref q3, .ref q4, .ref q5, .ref q6, .int pr, .int gr, .int kd, .long w10, .ref q11, .int mk, .long w13, .long w14])), (q11, .inl (cI, 24, .inl (jl [0, 0, t2, t3, t4, t5, t6, t7, t8, t9, t10, t11, t12, t13, t14, t15, t16, t17, t18, t19, t20, t21, t22, t23])))] := hD
  refine lv_iinc (v := 2) (lv' := [(1, .int 2), (0, .ref mo)]) hx hb dX6_begins_15 hl (k := 0) rfl (by first | rfl | decide) (by decide) rfl (fun ls hl => ?_)
  refine lv_goto (tgt := 2) hx hb dX6_begins_18 (by decide) ?_
  refine lv_iload_n hx hb dX6_begins_2 rfl (lv_at hl 0 rfl) ?_
  refine lv_bipush (v := 12) hx hb dX6_begins_3 (by decide) ?_
  refine lv_icmp_ge (tgt := 21) hx hb dX6_begins_5 (by decide) (fun c_3 => absurd c_3 (by decide)) (fun c_3 => ?_)
  refine lv_aload_n hx hb dX6_begins_8 rfl (lv_at hl 1 rfl) ?_
  refine va_get (D := D) (ci := 6) (v := .ref q11) (C := RX6) (T := TX6) (N := 15) hx hb hts (by decide +kernel) hown hK hP 0 rfl rfl 11 (by decide) (hts (.fieldLink RX6 25 "JoinDeskModel" "at" "[I") (by decide +kernel)) (fun _ h9 => h9) rfl dX6_begins_9 ?_
  refine lv_iload_n hx hb dX6_begins_12 rfl (lv_at hl 0 rfl) ?_
  refine lv_iconst (v := 0) hx hb dX6_begins_13 (by decide) ?_
  refine va_iast hx hb hK hP hD hS 1 0 rfl rfl (by unfold vp_in; decide) dX6_begins_14 (fun H locs hP hD hS => ?_)
  rw [jl_upd (show (2 : Int32).toNatClampNeg = 2 by decide) (Nat.le_of_ble_eq_true rfl)] at hP hD
  have hP : va_P D vwCl [(mo, .inr (6, [.int z0, .ref q1, .int (nI g), .ref q3, .ref q4, .ref q5, .ref q6, .int pr, .int gr, .int kd, .long w10, .ref q11, .int mk, .long w13, .long w14])), (q11, .inl (cI, 24, .inl (jl [0, 0, 0, t3, t4, t5, t6, t7, t8, t9, t10, t11, t12, t13, t14, t15, t16, t17, t18, t19, t20, t21, t22, t23])))] H := hP
  have hD : va_D A [(mo, .inr (6, [.int z0, .ref q1, .int (nI g), .ref q3, .ref q4, .ref q5, .ref q6, .int pr, .int gr, .int kd, .long w10, .ref q11, .int mk, .long w13, .long w14])), (q11, .inl (cI, 24, .inl (jl [0, 0, 0, t3, t4, t5, t6, t7, t8, t9, t10, t11, t12, t13, t14, t15, t16, t17, t18, t19, t20, t21, t22, t23])))] := hD
  refine lv_iinc (v := 3) (lv' := [(1, .int 3), (0, .ref mo)]) hx hb dX6_begins_15 hl (k := 0) rfl (by first | rfl | decide) (by decide) rfl (fun ls hl => ?_)
  refine lv_goto (tgt := 2) hx hb dX6_begins_18 (by decide) ?_
  refine lv_iload_n hx hb dX6_begins_2 rfl (lv_at hl 0 rfl) ?_
  refine lv_bipush (v := 12) hx hb dX6_begins_3 (by decide) ?_
  refine lv_icmp_ge (tgt := 21) hx hb dX6_begins_5 (by decide) (fun c_4 => absurd c_4 (by decide)) (fun c_4 => ?_)
  refine lv_aload_n hx hb dX6_begins_8 rfl (lv_at hl 1 rfl) ?_
  refine va_get (D := D) (ci := 6) (v := .ref q11) (C := RX6) (T := TX6) (N := 15) hx hb hts (by decide +kernel) hown hK hP 0 rfl rfl 11 (by decide) (hts (.fieldLink RX6 25 "JoinDeskModel" "at" "[I") (by decide +kernel)) (fun _ h9 => h9) rfl dX6_begins_9 ?_
  refine lv_iload_n hx hb dX6_begins_12 rfl (lv_at hl 0 rfl) ?_
  refine lv_iconst (v := 0) hx hb dX6_begins_13 (by decide) ?_
  refine va_iast hx hb hK hP hD hS 1 0 rfl rfl (by unfold vp_in; decide) dX6_begins_14 (fun H locs hP hD hS => ?_)
  rw [jl_upd (show (3 : Int32).toNatClampNeg = 3 by decide) (Nat.le_of_ble_eq_true rfl)] at hP hD
  have hP : va_P D vwCl [(mo, .inr (6, [.int z0, .ref q1, .int (nI g), .ref q3, .ref q4, .ref q5, .ref q6, .int pr, .int gr, .int kd, .long w10, .ref q11, .int mk, .long w13, .long w14])), (q11, .inl (cI, 24, .inl (jl [0, 0, 0, 0, t4, t5, t6, t7, t8, t9, t10, t11, t12, t13, t14, t15, t16, t17, t18, t19, t20, t21, t22, t23])))] H := hP
  have hD : va_D A [(mo, .inr (6, [.int z0, .ref q1, .int (nI g), .ref q3, .ref q4, .ref q5, .ref q6, .int pr, .int gr, .int kd, .long w10, .ref q11, .int mk, .long w13, .long w14])), (q11, .inl (cI, 24, .inl (jl [0, 0, 0, 0, t4, t5, t6, t7, t8, t9, t10, t11, t12, t13, t14, t15, t16, t17, t18, t19, t20, t21, t22, t23])))] := hD
  refine lv_iinc (v := 4) (lv' := [(1, .int 4), (0, .ref mo)]) hx hb dX6_begins_15 hl (k := 0) rfl (by first | rfl | decide) (by decide) rfl (fun ls hl => ?_)
  refine lv_goto (tgt := 2) hx hb dX6_begins_18 (by decide) ?_
  refine lv_iload_n hx hb dX6_begins_2 rfl (lv_at hl 0 rfl) ?_
  refine lv_bipush (v := 12) hx hb dX6_begins_3 (by decide) ?_
  refine lv_icmp_ge (tgt := 21) hx hb dX6_begins_5 (by decide) (fun c_5 => absurd c_5 (by decide)) (fun c_5 => ?_)
  refine lv_aload_n hx hb dX6_begins_8 rfl (lv_at hl 1 rfl) ?_
  refine va_get (D := D) (ci := 6) (v := .ref q11) (C := RX6) (T := TX6) (N := 15) hx hb hts (by decide +kernel) hown hK hP 0 rfl rfl 11 (by decide) (hts (.fieldLink RX6 25 "JoinDeskModel" "at" "[I") (by decide +kernel)) (fun _ h9 => h9) rfl dX6_begins_9 ?_
  refine lv_iload_n hx hb dX6_begins_12 rfl (lv_at hl 0 rfl) ?_
  refine lv_iconst (v := 0) hx hb dX6_begins_13 (by decide) ?_
  refine va_iast hx hb hK hP hD hS 1 0 rfl rfl (by unfold vp_in; decide) dX6_begins_14 (fun H locs hP hD hS => ?_)
  rw [jl_upd (show (4 : Int32).toNatClampNeg = 4 by decide) (Nat.le_of_ble_eq_true rfl)] at hP hD
  have hP : va_P D vwCl [(mo, .inr (6, [.int z0, .ref q1, .int (nI g), .ref q3, .ref q4, .ref q5, .ref q6, .int pr, .int gr, .int kd, .long w10, .ref q11, .int mk, .long w13, .long w14])), (q11, .inl (cI, 24, .inl (jl [0, 0, 0, 0, 0, t5, t6, t7, t8, t9, t10, t11, t12, t13, t14, t15, t16, t17, t18, t19, t20, t21, t22, t23])))] H := hP
  have hD : va_D A [(mo, .inr (6, [.int z0, .ref q1, .int (nI g), .ref q3, .ref q4, .ref q5, .ref q6, .int pr, .int gr, .int kd, .long w10, .ref q11, .int mk, .long w13, .long w14])), (q11, .inl (cI, 24, .inl (jl [0, 0, 0, 0, 0, t5, t6, t7, t8, t9, t10, t11, t12, t13, t14, t15, t16, t17, t18, t19, t20, t21, t22, t23])))] := hD
  refine lv_iinc (v := 5) (lv' := [(1, .int 5), (0, .ref mo)]) hx hb dX6_begins_15 hl (k := 0) rfl (by first | rfl | decide) (by decide) rfl (fun ls hl => ?_)
  refine lv_goto (tgt := 2) hx hb dX6_begins_18 (by decide) ?_
  refine lv_iload_n hx hb dX6_begins_2 rfl (lv_at hl 0 rfl) ?_
  refine lv_bipush (v := 12) hx hb dX6_begins_3 (by decide) ?_
  refine lv_icmp_ge (tgt := 21) hx hb dX6_begins_5 (by decide) (fun c_6 => absurd c_6 (by decide)) (fun c_6 => ?_)
  refine lv_aload_n hx hb dX6_begins_8 rfl (lv_at hl 1 rfl) ?_
  refine va_get (D := D) (ci := 6) (v := .ref q11) (C := RX6) (T := TX6) (N := 15) hx hb hts (by decide +kernel) hown hK hP 0 rfl rfl 11 (by decide) (hts (.fieldLink RX6 25 "JoinDeskModel" "at" "[I") (by decide +kernel)) (fun _ h9 => h9) rfl dX6_begins_9 ?_
  refine lv_iload_n hx hb dX6_begins_12 rfl (lv_at hl 0 rfl) ?_
  refine lv_iconst (v := 0) hx hb dX6_begins_13 (by decide) ?_
  refine va_iast hx hb hK hP hD hS 1 0 rfl rfl (by unfold vp_in; decide) dX6_begins_14 (fun H locs hP hD hS => ?_)
  rw [jl_upd (show (5 : Int32).toNatClampNeg = 5 by decide) (Nat.le_of_ble_eq_true rfl)] at hP hD
  have hP : va_P D vwCl [(mo, .inr (6, [.int z0, .ref q1, .int (nI g), .ref q3, .ref q4, .ref q5, .ref q6, .int pr, .int gr, .int kd, .long w10, .ref q11, .int mk, .long w13, .long w14])), (q11, .inl (cI, 24, .inl (jl [0, 0, 0, 0, 0, 0, t6, t7, t8, t9, t10, t11, t12, t13, t14, t15, t16, t17, t18, t19, t20, t21, t22, t23])))] H := hP
  have hD : va_D A [(mo, .inr (6, [.int z0, .ref q1, .int (nI g), .ref q3, .ref q4, .ref q5, .ref q6, .int pr, .int gr, .int kd, .long w10, .ref q11, .int mk, .long w13, .long w14])), (q11, .inl (cI, 24, .inl (jl [0, 0, 0, 0, 0, 0, t6, t7, t8, t9, t10, t11, t12, t13, t14, t15, t16, t17, t18, t19, t20, t21, t22, t23])))] := hD
  refine lv_iinc (v := 6) (lv' := [(1, .int 6), (0, .ref mo)]) hx hb dX6_begins_15 hl (k := 0) rfl (by first | rfl | decide) (by decide) rfl (fun ls hl => ?_)
  refine lv_goto (tgt := 2) hx hb dX6_begins_18 (by decide) ?_
  refine lv_iload_n hx hb dX6_begins_2 rfl (lv_at hl 0 rfl) ?_
  refine lv_bipush (v := 12) hx hb dX6_begins_3 (by decide) ?_
  refine lv_icmp_ge (tgt := 21) hx hb dX6_begins_5 (by decide) (fun c_7 => absurd c_7 (by decide)) (fun c_7 => ?_)
  refine lv_aload_n hx hb dX6_begins_8 rfl (lv_at hl 1 rfl) ?_
  refine va_get (D := D) (ci := 6) (v := .ref q11) (C := RX6) (T := TX6) (N := 15) hx hb hts (by decide +kernel) hown hK hP 0 rfl rfl 11 (by decide) (hts (.fieldLink RX6 25 "JoinDeskModel" "at" "[I") (by decide +kernel)) (fun _ h9 => h9) rfl dX6_begins_9 ?_
  refine lv_iload_n hx hb dX6_begins_12 rfl (lv_at hl 0 rfl) ?_
  refine lv_iconst (v := 0) hx hb dX6_begins_13 (by decide) ?_
  refine va_iast hx hb hK hP hD hS 1 0 rfl rfl (by unfold vp_in; decide) dX6_begins_14 (fun H locs hP hD hS => ?_)
  rw [jl_upd (show (6 : Int32).toNatClampNeg = 6 by decide) (Nat.le_of_ble_eq_true rfl)] at hP hD
  have hP : va_P D vwCl [(mo, .inr (6, [.int z0, .ref q1, .int (nI g), .ref q3, .ref q4, .ref q5, .ref q6, .int pr, .int gr, .int kd, .long w10, .ref q11, .int mk, .long w13, .long w14])), (q11, .inl (cI, 24, .inl (jl [0, 0, 0, 0, 0, 0, 0, t7, t8, t9, t10, t11, t12, t13, t14, t15, t16, t17, t18, t19, t20, t21, t22, t23])))] H := hP
  have hD : va_D A [(mo, .inr (6, [.int z0, .ref q1, .int (nI g), .ref q3, .ref q4, .ref q5, .ref q6, .int pr, .int gr, .int kd, .long w10, .ref q11, .int mk, .long w13, .long w14])), (q11, .inl (cI, 24, .inl (jl [0, 0, 0, 0, 0, 0, 0, t7, t8, t9, t10, t11, t12, t13, t14, t15, t16, t17, t18, t19, t20, t21, t22, t23])))] := hD
  refine lv_iinc (v := 7) (lv' := [(1, .int 7), (0, .ref mo)]) hx hb dX6_begins_15 hl (k := 0) rfl (by first | rfl | decide) (by decide) rfl (fun ls hl => ?_)
  refine lv_goto (tgt := 2) hx hb dX6_begins_18 (by decide) ?_
  refine lv_iload_n hx hb dX6_begins_2 rfl (lv_at hl 0 rfl) ?_
  refine lv_bipush (v := 12) hx hb dX6_begins_3 (by decide) ?_
  refine lv_icmp_ge (tgt := 21) hx hb dX6_begins_5 (by decide) (fun c_8 => absurd c_8 (by decide)) (fun c_8 => ?_)
  refine lv_aload_n hx hb dX6_begins_8 rfl (lv_at hl 1 rfl) ?_
  refine va_get (D := D) (ci := 6) (v := .ref q11) (C := RX6) (T := TX6) (N := 15) hx hb hts (by decide +kernel) hown hK hP 0 rfl rfl 11 (by decide) (hts (.fieldLink RX6 25 "JoinDeskModel" "at" "[I") (by decide +kernel)) (fun _ h9 => h9) rfl dX6_begins_9 ?_
  refine lv_iload_n hx hb dX6_begins_12 rfl (lv_at hl 0 rfl) ?_
  refine lv_iconst (v := 0) hx hb dX6_begins_13 (by decide) ?_
  refine va_iast hx hb hK hP hD hS 1 0 rfl rfl (by unfold vp_in; decide) dX6_begins_14 (fun H locs hP hD hS => ?_)
  rw [jl_upd (show (7 : Int32).toNatClampNeg = 7 by decide) (Nat.le_of_ble_eq_true rfl)] at hP hD
  have hP : va_P D vwCl [(mo, .inr (6, [.int z0, .ref q1, .int (nI g), .ref q3, .ref q4, .ref q5, .ref q6, .int pr, .int gr, .int kd, .long w10, .ref q11, .int mk, .long w13, .long w14])), (q11, .inl (cI, 24, .inl (jl [0, 0, 0, 0, 0, 0, 0, 0, t8, t9, t10, t11, t12, t13, t14, t15, t16, t17, t18, t19, t20, t21, t22, t23])))] H := hP
  have hD : va_D A [(mo, .inr (6, [.int z0, .ref q1, .int (nI g), .ref q3, .ref q4, .ref q5, .ref q6, .int pr, .int gr, .int kd, .long w10, .ref q11, .int mk, .long w13, .long w14])), (q11, .inl (cI, 24, .inl (jl [0, 0, 0, 0, 0, 0, 0, 0, t8, t9, t10, t11, t12, t13, t14, t15, t16, t17, t18, t19, t20, t21, t22, t23])))] := hD
  refine lv_iinc (v := 8) (lv' := [(1, .int 8), (0, .ref mo)]) hx hb dX6_begins_15 hl (k := 0) rfl (by first | rfl | decide) (by decide) rfl (fun ls hl => ?_)
  refine lv_goto (tgt := 2) hx hb dX6_begins_18 (by decide) ?_
  refine lv_iload_n hx hb dX6_begins_2 rfl (lv_at hl 0 rfl) ?_
  refine lv_bipush (v := 12) hx hb dX6_begins_3 (by decide) ?_
  refine lv_icmp_ge (tgt := 21) hx hb dX6_begins_5 (by decide) (fun c_9 => absurd c_9 (by decide)) (fun c_9 => ?_)
  refine lv_aload_n hx hb dX6_begins_8 rfl (lv_at hl 1 rfl) ?_
  refine va_get (D := D) (ci := 6) (v := .ref q11) (C := RX6) (T := TX6) (N := 15) hx hb hts (by decide +kernel) hown hK hP 0 rfl rfl 11 (by decide) (hts (.fieldLink RX6 25 "JoinDeskModel" "at" "[I") (by decide +kernel)) (fun _ h9 => h9) rfl dX6_begins_9 ?_
  refine lv_iload_n hx hb dX6_begins_12 rfl (lv_at hl 0 rfl) ?_
  refine lv_iconst (v := 0) hx hb dX6_begins_13 (by decide) ?_
  refine va_iast hx hb hK hP hD hS 1 0 rfl rfl (by unfold vp_in; decide) dX6_begins_14 (fun H locs hP hD hS => ?_)
  rw [jl_upd (show (8 : Int32).toNatClampNeg = 8 by decide) (Nat.le_of_ble_eq_true rfl)] at hP hD
  have hP : va_P D vwCl [(mo, .inr (6, [.int z0, .ref q1, .int (nI g), .ref q3, .ref q4, .ref q5, .ref q6, .int pr, .int gr, .int kd, .long w10, .ref q11, .int mk, .long w13, .long w14])), (q11, .inl (cI, 24, .inl (jl [0, 0, 0, 0, 0, 0, 0, 0, 0, t9, t10, t11, t12, t13, t14, t15, t16, t17, t18, t19, t20, t21, t22, t23])))] H := hP
  have hD : va_D A [(mo, .inr (6, [.int z0, .ref q1, .int (nI g), .ref q3, .ref q4, .ref q5, .ref q6, .int pr, .int gr, .int kd, .long w10, .ref q11, .int mk, .long w13, .long w14])), (q11, .inl (cI, 24, .inl (jl [0, 0, 0, 0, 0, 0, 0, 0, 0, t9, t10, t11, t12, t13, t14, t15, t16, t17, t18, t19, t20, t21, t22, t23])))] := hD
  refine lv_iinc (v := 9) (lv' := [(1, .int 9), (0, .ref mo)]) hx hb dX6_begins_15 hl (k := 0) rfl (by first | rfl | decide) (by decide) rfl (fun ls hl => ?_)
  refine lv_goto (tgt := 2) hx hb dX6_begins_18 (by decide) ?_
  refine lv_iload_n hx hb dX6_begins_2 rfl (lv_at hl 0 rfl) ?_
  refine lv_bipush (v := 12) hx hb dX6_begins_3 (by decide) ?_
  refine lv_icmp_ge (tgt := 21) hx hb dX6_begins_5 (by decide) (fun c_10 => absurd c_10 (by decide)) (fun c_10 => ?_)
  refine lv_aload_n hx hb dX6_begins_8 rfl (lv_at hl 1 rfl) ?_
  refine va_get (D := D) (ci := 6) (v := .ref q11) (C := RX6) (T := TX6) (N := 15) hx hb hts (by decide +kernel) hown hK hP 0 rfl rfl 11 (by decide) (hts (.fieldLink RX6 25 "JoinDeskModel" "at" "[I") (by decide +kernel)) (fun _ h9 => h9) rfl dX6_begins_9 ?_
  refine lv_iload_n hx hb dX6_begins_12 rfl (lv_at hl 0 rfl) ?_
  refine lv_iconst (v := 0) hx hb dX6_begins_13 (by decide) ?_
  refine va_iast hx hb hK hP hD hS 1 0 rfl rfl (by unfold vp_in; decide) dX6_begins_14 (fun H locs hP hD hS => ?_)
  rw [jl_upd (show (9 : Int32).toNatClampNeg = 9 by decide) (Nat.le_of_ble_eq_true rfl)] at hP hD
  have hP : va_P D vwCl [(mo, .inr (6, [.int z0, .ref q1, .int (nI g), .ref q3, .ref q4, .ref q5, .ref q6, .int pr, .int gr, .int kd, .long w10, .ref q11, .int mk, .long w13, .long w14])), (q11, .inl (cI, 24, .inl (jl [0, 0, 0, 0, 0, 0, 0, 0, 0, 0, t10, t11, t12, t13, t14, t15, t16, t17, t18, t19, t20, t21, t22, t23])))] H := hP
  have hD : va_D A [(mo, .inr (6, [.int z0, .ref q1, .int (nI g), .ref q3, .ref q4, .ref q5, .ref q6, .int pr, .int gr, .int kd, .long w10, .ref q11, .int mk, .long w13, .long w14])), (q11, .inl (cI, 24, .inl (jl [0, 0, 0, 0, 0, 0, 0, 0, 0, 0, t10, t11, t12, t13, t14, t15, t16, t17, t18, t19, t20, t21, t22, t23])))] := hD
  refine lv_iinc (v := 10) (lv' := [(1, .int 10), (0, .ref mo)]) hx hb dX6_begins_15 hl (k := 0) rfl (by first | rfl | decide) (by decide) rfl (fun ls hl => ?_)
  refine lv_goto (tgt := 2) hx hb dX6_begins_18 (by decide) ?_
  refine lv_iload_n hx hb dX6_begins_2 rfl (lv_at hl 0 rfl) ?_
  refine lv_bipush (v := 12) hx hb dX6_begins_3 (by decide) ?_
  refine lv_icmp_ge (tgt := 21) hx hb dX6_begins_5 (by decide) (fun c_11 => absurd c_11 (by decide)) (fun c_11 => ?_)
  refine lv_aload_n hx hb dX6_begins_8 rfl (lv_at hl 1 rfl) ?_
  refine va_get (D := D) (ci := 6) (v := .ref q11) (C := RX6) (T := TX6) (N := 15) hx hb hts (by decide +kernel) hown hK hP 0 rfl rfl 11 (by decide) (hts (.fieldLink RX6 25 "JoinDeskModel" "at" "[I") (by decide +kernel)) (fun _ h9 => h9) rfl dX6_begins_9 ?_
  refine lv_iload_n hx hb dX6_begins_12 rfl (lv_at hl 0 rfl) ?_
  refine lv_iconst (v := 0) hx hb dX6_begins_13 (by decide) ?_
  refine va_iast hx hb hK hP hD hS 1 0 rfl rfl (by unfold vp_in; decide) dX6_begins_14 (fun H locs hP hD hS => ?_)
  rw [jl_upd (show (10 : Int32).toNatClampNeg = 10 by decide) (Nat.le_of_ble_eq_true rfl)] at hP hD
  have hP : va_P D vwCl [(mo, .inr (6, [.int z0, .ref q1, .int (nI g), .ref q3, .ref q4, .ref q5, .ref q6, .int pr, .int gr, .int kd, .long w10, .ref q11, .int mk, .long w13, .long w14])), (q11, .inl (cI, 24, .inl (jl [0, 0, 0, 0, 0, 0, 0, 0, 0, 0, 0, t11, t12, t13, t14, t15, t16, t17, t18, t19, t20, t21, t22, t23])))] H := hP
  have hD : va_D A [(mo, .inr (6, [.int z0, .ref q1, .int (nI g), .ref q3, .ref q4, .ref q5, .ref q6, .int pr, .int gr, .int kd, .long w10, .ref q11, .int mk, .long w13, .long w14])), (q11, .inl (cI, 24, .inl (jl [0, 0, 0, 0, 0, 0, 0, 0, 0, 0, 0, t11, t12, t13, t14, t15, t16, t17, t18, t19, t20, t21, t22, t23])))] := hD
  refine lv_iinc (v := 11) (lv' := [(1, .int 11), (0, .ref mo)]) hx hb dX6_begins_15 hl (k := 0) rfl (by first | rfl | decide) (by decide) rfl (fun ls hl => ?_)
  refine lv_goto (tgt := 2) hx hb dX6_begins_18 (by decide) ?_
  refine lv_iload_n hx hb dX6_begins_2 rfl (lv_at hl 0 rfl) ?_
  refine lv_bipush (v := 12) hx hb dX6_begins_3 (by decide) ?_
  refine lv_icmp_ge (tgt := 21) hx hb dX6_begins_5 (by decide) (fun c_12 => absurd c_12 (by decide)) (fun c_12 => ?_)
  refine lv_aload_n hx hb dX6_begins_8 rfl (lv_at hl 1 rfl) ?_
  refine va_get (D := D) (ci := 6) (v := .ref q11) (C := RX6) (T := TX6) (N := 15) hx hb hts (by decide +kernel) hown hK hP 0 rfl rfl 11 (by decide) (hts (.fieldLink RX6 25 "JoinDeskModel" "at" "[I") (by decide +kernel)) (fun _ h9 => h9) rfl dX6_begins_9 ?_
  refine lv_iload_n hx hb dX6_begins_12 rfl (lv_at hl 0 rfl) ?_
  refine lv_iconst (v := 0) hx hb dX6_begins_13 (by decide) ?_
  refine va_iast hx hb hK hP hD hS 1 0 rfl rfl (by unfold vp_in; decide) dX6_begins_14 (fun H locs hP hD hS => ?_)
  rw [jl_upd (show (11 : Int32).toNatClampNeg = 11 by decide) (Nat.le_of_ble_eq_true rfl)] at hP hD
  have hP : va_P D vwCl [(mo, .inr (6, [.int z0, .ref q1, .int (nI g), .ref q3, .ref q4, .ref q5, .ref q6, .int pr, .int gr, .int kd, .long w10, .ref q11, .int mk, .long w13, .long w14])), (q11, .inl (cI, 24, .inl (jl [0, 0, 0, 0, 0, 0, 0, 0, 0, 0, 0, 0, t12, t13, t14, t15, t16, t17, t18, t19, t20, t21, t22, t23])))] H := hP
  have hD : va_D A [(mo, .inr (6, [.int z0, .ref q1, .int (nI g), .ref q3, .ref q4, .ref q5, .ref q6, .int pr, .int gr, .int kd, .long w10, .ref q11, .int mk, .long w13, .long w14])), (q11, .inl (cI, 24, .inl (jl [0, 0, 0, 0, 0, 0, 0, 0, 0, 0, 0, 0, t12, t13, t14, t15, t16, t17, t18, t19, t20, t21, t22, t23])))] := hD
  refine lv_iinc (v := 12) (lv' := [(1, .int 12), (0, .ref mo)]) hx hb dX6_begins_15 hl (k := 0) rfl (by first | rfl | decide) (by decide) rfl (fun ls hl => ?_)
  refine lv_goto (tgt := 2) hx hb dX6_begins_18 (by decide) ?_
  refine lv_iload_n hx hb dX6_begins_2 rfl (lv_at hl 0 rfl) ?_
  refine lv_bipush (v := 12) hx hb dX6_begins_3 (by decide) ?_
  refine lv_icmp_ge (tgt := 21) hx hb dX6_begins_5 (by decide) (fun c_13 => ?_) (fun c_13 => absurd c_13 (by decide))
  refine W.widen (k := 0) (n := 0) (by omega) (by omega) ?_
  exact W.vret hx hb hr (fun t ht hW => ⟨⟨[(mo, .inr (6, [.int z0, .ref q1, .int (nI g), .ref q3, .ref q4, .ref q5, .ref q6, .int pr, .int gr, .int kd, .long w10, .ref q11, .int mk, .long w13, .long w14])), (q11, .inl (cI, 24, .inl (jl [0, 0, 0, 0, 0, 0, 0, 0, 0, 0, 0, 0, t12, t13, t14, t15, t16, t17, t18, t19, t20, t21, t22, t23])))], rfl, (by exact rfl), by rw [ht]; exact hP, hD⟩, hS.F ht⟩) hS.2.2 dX6_begins_21
set_option maxHeartbeats 1000000 in
set_option maxRecDepth 100000 in
theorem gM_key_0 (l : Launch) (D : va_G) (cI cL cQ : ClassId) (mo : Nat) (g : Nat) (q1 : Nat) (q3 : Nat) (q4 : Nat) (q5 : Nat) (q6 : Nat) (q11 : Nat) (z0 : Int32) (pr : Int32) (gr : Int32) (kd : Int32) (mk : Int32) (w10 : Int64) (w13 : Int64) (w14 : Int64) (m3 : Nat → Int32) (m5 : Nat → Int32) (i : Nat) (h5 : jo5 m5) (hi : i < 800) : Met l yX6_key wsX6_key ({ frames := 0, cells := 0, slots := 0, locals := 0 }) (jr_P D vwCl (jT cI cL cQ) cL cQ [.ref mo, .int 0, .int (nI i)] [(mo, .inr (6, [.int z0, .ref q1, .int (nI g), .ref q3, .ref q4, .ref q5, .ref q6, .int pr, .int gr, .int kd, .long w10, .ref q11, .int mk, .long w13, .long w14])), (q3, .inl (cI, 800, .inl m3)), (q5, .inl (cI, 800, .inl m5))]) (vp_Si (fun r : Int32 => r = jmk 0 m3 m5 i)) 0 0 (fun _ => False) := by
  refine Met.ofW (cc := cX6_key) (maxL := 3) (ret := (some .int)) (by decide) rfl ?_
  intro p e s m args below meth c s₁ B hml hv
  obtain ⟨rfl, hP, hK, hN⟩ := hv
  have hx := B.exec
  have hb := B.bytes
  have hr := B.returns
  have hts := atoms_spec (ws := wsX6_key) B.pre
  have hown : s.vm.findClass RX6 = some m.cls := findClass_of_methodNamed B.named
  have hlocks := B.notSynchronized
  have hl := lv_entry ([.ref mo, .int 0, .int (nI i)]) (n := 3) (Nat.le_of_ble_eq_true rfl)
  rw [lg_entry_eq]
  generalize (lg_sl ([.ref mo, .int 0, .int (nI i)]) ++ List.replicate (3 - (lg_sl ([.ref mo, .int 0, .int (nI i)])).length) Slot.unset).toArray = ls at hl ⊢
  have hl : lv_has ls 3 [(0, .ref mo), (1, .int 0), (2, .int (nI i))] := hl
  refine lv_aload_n hx hb dX6_key_0 rfl (lv_at hl 0 rfl) ?_
  refine va_get (D := D) (ci := 6) (v := .ref q3) (C := RX6) (T := TX6) (N := 15) hx hb hts (by decide +kernel) hown hK hP 0 rfl rfl 3 (by decide) (hts (.fieldLink RX6 13 "JoinDeskModel" "keys" "[I") (by decide +kernel)) (fun _ h9 => h9) rfl dX6_key_1 ?_
  refine lv_sipush (v := 400) hx hb dX6_key_4 (by decide) ?_
  refine lv_iload_n hx hb dX6_key_7 rfl (lv_at hl 1 rfl) ?_
  refine lv_imul hx hb dX6_key_8 ?_
  refine lv_topi (fun z_1 e_z_1 => ?_)
  obtain rfl : z_1 = 0 := e_z_1.trans (by decide)
  refine lv_aload_n hx hb dX6_key_9 rfl (lv_at hl 0 rfl) ?_
  refine va_get (D := D) (ci := 6) (v := .ref q5) (C := RX6) (T := TX6) (N := 15) hx hb hts (by decide +kernel) hown hK hP 0 rfl rfl 5 (by decide) (hts (.fieldLink RX6 19 "JoinDeskModel" "order" "[I") (by decide +kernel)) (fun _ h9 => h9) rfl dX6_key_10 ?_
  refine lv_sipush (v := 400) hx hb dX6_key_13 (by decide) ?_
  refine lv_iload_n hx hb dX6_key_16 rfl (lv_at hl 1 rfl) ?_
  refine lv_imul hx hb dX6_key_17 ?_
  refine lv_topi (fun z_2 e_z_2 => ?_)
  obtain rfl : z_2 = 0 := e_z_2.trans (by decide)
  refine lv_iload_n hx hb dX6_key_18 rfl (lv_at hl 2 rfl) ?_
  refine lv_iadd hx hb dX6_key_19 ?_
  refine lv_topi (fun z_3 e_z_3 => ?_)
  obtain rfl : z_3 = nI (0 + i) := e_z_3.trans (nI_add 0 i)
  refine va_iald hx hb hK hP 2 0 rfl rfl (vp_in_nI (show 0 + i < 800 by omega) (by omega)) dX6_key_20 ?_
  refine lv_iadd hx hb dX6_key_21 ?_
  refine va_iald hx hb hK hP 1 0 rfl rfl (jo5_in0 h5 (show 0 + i < 800 by omega)) dX6_key_22 ?_
  exact W.iret (v := m3 (0 + (m5 (nI (0 + i)).toNatClampNeg)).toNatClampNeg) hx hb hr (fun t ht hW => ⟨(m3 (0 + (m5 (nI (0 + i)).toNatClampNeg)).toNatClampNeg), rfl, rfl, ht⟩) (fun _ h => nomatch h) dX6_key_23
set_option maxHeartbeats 1000000 in
set_option maxRecDepth 100000 in
theorem gM_value_0 (l : Launch) (D : va_G) (cI cL cQ : ClassId) (mo : Nat) (g : Nat) (q1 : Nat) (q3 : Nat) (q4 : Nat) (q5 : Nat) (q6 : Nat) (q11 : Nat) (z0 : Int32) (pr : Int32) (gr : Int32) (kd : Int32) (mk : Int32) (w10 : Int64) (w13 : Int64) (w14 : Int64) (m4 : Nat → Int32) (m5 : Nat → Int32) (i : Nat) (h5 : jo5 m5) (hi : i < 800) : Met l yX6_value wsX6_value ({ frames := 0, cells := 0, slots := 0, locals := 0 }) (jr_P D vwCl (jT cI cL cQ) cL cQ [.ref mo, .int 0, .int (nI i)] [(mo, .inr (6, [.int z0, .ref q1, .int (nI g), .ref q3, .ref q4, .ref q5, .ref q6, .int pr, .int gr, .int kd, .long w10, .ref q11, .int mk, .long w13, .long w14])), (q4, .inl (cI, 800, .inl m4)), (q5, .inl (cI, 800, .inl m5))]) (vp_Si (fun r : Int32 => r = jmk 0 m4 m5 i)) 0 0 (fun _ => False) := by
  refine Met.ofW (cc := cX6_value) (maxL := 3) (ret := (some .int)) (by decide) rfl ?_
  intro p e s m args below meth c s₁ B hml hv
  obtain ⟨rfl, hP, hK, hN⟩ := hv
  have hx := B.exec
  have hb := B.bytes
  have hr := B.returns
  have hts := atoms_spec (ws := wsX6_value) B.pre
  have hown : s.vm.findClass RX6 = some m.cls := findClass_of_methodNamed B.named
  have hlocks := B.notSynchronized
  have hl := lv_entry ([.ref mo, .int 0, .int (nI i)]) (n := 3) (Nat.le_of_ble_eq_true rfl)
  rw [lg_entry_eq]
  generalize (lg_sl ([.ref mo, .int 0, .int (nI i)]) ++ List.replicate (3 - (lg_sl ([.ref mo, .int 0, .int (nI i)])).length) Slot.unset).toArray = ls at hl ⊢
  have hl : lv_has ls 3 [(0, .ref mo), (1, .int 0), (2, .int (nI i))] := hl
  refine lv_aload_n hx hb dX6_value_0 rfl (lv_at hl 0 rfl) ?_
  refine va_get (D := D) (ci := 6) (v := .ref q4) (C := RX6) (T := TX6) (N := 15) hx hb hts (by decide +kernel) hown hK hP 0 rfl rfl 4 (by decide) (hts (.fieldLink RX6 16 "JoinDeskModel" "values" "[I") (by decide +kernel)) (fun _ h9 => h9) rfl dX6_value_1 ?_
  refine lv_sipush (v := 400) hx hb dX6_value_4 (by decide) ?_
  refine lv_iload_n hx hb dX6_value_7 rfl (lv_at hl 1 rfl) ?_
  refine lv_imul hx hb dX6_value_8 ?_
  refine lv_topi (fun z_1 e_z_1 => ?_)
  obtain rfl : z_1 = 0 := e_z_1.trans (by decide)
  refine lv_aload_n hx hb dX6_value_9 rfl (lv_at hl 0 rfl) ?_
  refine va_get (D := D) (ci := 6) (v := .ref q5) (C := RX6) (T := TX6) (N := 15) hx hb hts (by decide +kernel) hown hK hP 0 rfl rfl 5 (by decide) (hts (.fieldLink RX6 19 "JoinDeskModel" "order" "[I") (by decide +kernel)) (fun _ h9 => h9) rfl dX6_value_10 ?_
  refine lv_sipush (v := 400) hx hb dX6_value_13 (by decide) ?_
  refine lv_iload_n hx hb dX6_value_16 rfl (lv_at hl 1 rfl) ?_
  refine lv_imul hx hb dX6_value_17 ?_
  refine lv_topi (fun z_2 e_z_2 => ?_)
  obtain rfl : z_2 = 0 := e_z_2.trans (by decide)
  refine lv_iload_n hx hb dX6_value_18 rfl (lv_at hl 2 rfl) ?_
  refine lv_iadd hx hb dX6_value_19 ?_
  refine lv_topi (fun z_3 e_z_3 => ?_)
  obtain rfl : z_3 = nI (0 + i) := e_z_3.trans (nI_add 0 i)
  refine va_iald hx hb hK hP 2 0 rfl rfl (vp_in_nI (show 0 + i < 800 by omega) (by omega)) dX6_value_20 ?_
  refine lv_iadd hx hb dX6_value_21 ?_
  refine va_iald hx hb hK hP 1 0 rfl rfl (jo5_in0 h5 (show 0 + i < 800 by omega)) dX6_value_22 ?_
  exact W.iret (v := m4 (0 + (m5 (nI (0 + i)).toNatClampNeg)).toNatClampNeg) hx hb hr (fun t ht hW => ⟨(m4 (0 + (m5 (nI (0 + i)).toNatClampNeg)).toNatClampNeg), rfl, rfl, ht⟩) (fun _ h => nomatch h) dX6_value_23
set_option maxHeartbeats 1000000 in
set_option maxRecDepth 100000 in
theorem gM_key_1 (l : Launch) (D : va_G) (cI cL cQ : ClassId) (mo : Nat) (g : Nat) (q1 : Nat) (q3 : Nat) (q4 : Nat) (q5 : Nat) (q6 : Nat) (q11 : Nat) (z0 : Int32) (pr : Int32) (gr : Int32) (kd : Int32) (mk : Int32) (w10 : Int64) (w13 : Int64) (w14 : Int64) (m3 : Nat → Int32) (m5 : Nat → Int32) (i : Nat) (h5 : jo5 m5) (hi : i < 400) : Met l yX6_key wsX6_key ({ frames := 0, cells := 0, slots := 0, locals := 0 }) (jr_P D vwCl (jT cI cL cQ) cL cQ [.ref mo, .int 1, .int (nI i)] [(mo, .inr (6, [.int z0, .ref q1, .int (nI g), .ref q3, .ref q4, .ref q5, .ref q6, .int pr, .int gr, .int kd, .long w10, .ref q11, .int mk, .long w13, .long w14])), (q3, .inl (cI, 800, .inl m3)), (q5, .inl (cI, 800, .inl m5))]) (vp_Si (fun r : Int32 => r = jmk 400 m3 m5 i)) 0 0 (fun _ => False) := by
  refine Met.ofW (cc := cX6_key) (maxL := 3) (ret := (some .int)) (by decide) rfl ?_
  intro p e s m args below meth c s₁ B hml hv
  obtain ⟨rfl, hP, hK, hN⟩ := hv
  have hx := B.exec
  have hb := B.bytes
  have hr := B.returns
  have hts := atoms_spec (ws := wsX6_key) B.pre
  have hown : s.vm.findClass RX6 = some m.cls := findClass_of_methodNamed B.named
  have hlocks := B.notSynchronized
  have hl := lv_entry ([.ref mo, .int 1, .int (nI i)]) (n := 3) (Nat.le_of_ble_eq_true rfl)
  rw [lg_entry_eq]
  generalize (lg_sl ([.ref mo, .int 1, .int (nI i)]) ++ List.replicate (3 - (lg_sl ([.ref mo, .int 1, .int (nI i)])).length) Slot.unset).toArray = ls at hl ⊢
  have hl : lv_has ls 3 [(0, .ref mo), (1, .int 1), (2, .int (nI i))] := hl
  refine lv_aload_n hx hb dX6_key_0 rfl (lv_at hl 0 rfl) ?_
  refine va_get (D := D) (ci := 6) (v := .ref q3) (C := RX6) (T := TX6) (N := 15) hx hb hts (by decide +kernel) hown hK hP 0 rfl rfl 3 (by decide) (hts (.fieldLink RX6 13 "JoinDeskModel" "keys" "[I") (by decide +kernel)) (fun _ h9 => h9) rfl dX6_key_1 ?_
  refine lv_sipush (v := 400) hx hb dX6_key_4 (by decide) ?_
  refine lv_iload_n hx hb dX6_key_7 rfl (lv_at hl 1 rfl) ?_
  refine lv_imul hx hb dX6_key_8 ?_
  refine lv_topi (fun z_1 e_z_1 => ?_)
  obtain rfl : z_1 = 400 := e_z_1.trans (by decide)
  refine lv_aload_n hx hb dX6_key_9 rfl (lv_at hl 0 rfl) ?_
  refine va_get (D := D) (ci := 6) (v := .ref q5) (C := RX6) (T := TX6) (N := 15) hx hb hts (by decide +kernel) hown hK hP 0 rfl rfl 5 (by decide) (hts (.fieldLink RX6 19 "JoinDeskModel" "order" "[I") (by decide +kernel)) (fun _ h9 => h9) rfl dX6_key_10 ?_
  refine lv_sipush (v := 400) hx hb dX6_key_13 (by decide) ?_
  refine lv_iload_n hx hb dX6_key_16 rfl (lv_at hl 1 rfl) ?_
  refine lv_imul hx hb dX6_key_17 ?_
  refine lv_topi (fun z_2 e_z_2 => ?_)
  obtain rfl : z_2 = 400 := e_z_2.trans (by decide)
  refine lv_iload_n hx hb dX6_key_18 rfl (lv_at hl 2 rfl) ?_
  refine lv_iadd hx hb dX6_key_19 ?_
  refine lv_topi (fun z_3 e_z_3 => ?_)
  obtain rfl : z_3 = nI (400 + i) := e_z_3.trans (nI_add 400 i)
  refine va_iald hx hb hK hP 2 0 rfl rfl (vp_in_nI (show 400 + i < 800 by omega) (by omega)) dX6_key_20 ?_
  refine lv_iadd hx hb dX6_key_21 ?_
  refine va_iald hx hb hK hP 1 0 rfl rfl (jo5_in4 h5 (show 400 + i < 800 by omega)) dX6_key_22 ?_
  exact W.iret (v := m3 (400 + (m5 (nI (400 + i)).toNatClampNeg)).toNatClampNeg) hx hb hr (fun t ht hW => ⟨(m3 (400 + (m5 (nI (400 + i)).toNatClampNeg)).toNatClampNeg), rfl, rfl, ht⟩) (fun _ h => nomatch h) dX6_key_23
set_option maxHeartbeats 1000000 in
set_option maxRecDepth 100000 in
theorem gM_value_1 (l : Launch) (D : va_G) (cI cL cQ : ClassId) (mo : Nat) (g : Nat) (q1 : Nat) (q3 : Nat) (q4 : Nat) (q5 : Nat) (q6 : Nat) (q11 : Nat) (z0 : Int32) (pr : Int32) (gr : Int32) (kd : Int32) (mk : Int32) (w10 : Int64) (w13 : Int64) (w14 : Int64) (m4 : Nat → Int32) (m5 : Nat → Int32) (i : Nat) (h5 : jo5 m5) (hi : i < 400) : Met l yX6_value wsX6_value ({ frames := 0, cells := 0, slots := 0, locals := 0 }) (jr_P D vwCl (jT cI cL cQ) cL cQ [.ref mo, .int 1, .int (nI i)] [(mo, .inr (6, [.int z0, .ref q1, .int (nI g), .ref q3, .ref q4, .ref q5, .ref q6, .int pr, .int gr, .int kd, .long w10, .ref q11, .int mk, .long w13, .long w14])), (q4, .inl (cI, 800, .inl m4)), (q5, .inl (cI, 800, .inl m5))]) (vp_Si (fun r : Int32 => r = jmk 400 m4 m5 i)) 0 0 (fun _ => False) := by
  refine Met.ofW (cc := cX6_value) (maxL := 3) (ret := (some .int)) (by decide) rfl ?_
  intro p e s m args below meth c s₁ B hml hv
  obtain ⟨rfl, hP, hK, hN⟩ := hv
  have hx := B.exec
  have hb := B.bytes
  have hr := B.returns
  have hts := atoms_spec (ws := wsX6_value) B.pre
  have hown : s.vm.findClass RX6 = some m.cls := findClass_of_methodNamed B.named
  have hlocks := B.notSynchronized
  have hl := lv_entry ([.ref mo, .int 1, .int (nI i)]) (n := 3) (Nat.le_of_ble_eq_true rfl)
  rw [lg_entry_eq]
  generalize (lg_sl ([.ref mo, .int 1, .int (nI i)]) ++ List.replicate (3 - (lg_sl ([.ref mo, .int 1, .int (nI i)])).length) Slot.unset).toArray = ls at hl ⊢
  have hl : lv_has ls 3 [(0, .ref mo), (1, .int 1), (2, .int (nI i))] := hl
  refine lv_aload_n hx hb dX6_value_0 rfl (lv_at hl 0 rfl) ?_
  refine va_get (D := D) (ci := 6) (v := .ref q4) (C := RX6) (T := TX6) (N := 15) hx hb hts (by decide +kernel) hown hK hP 0 rfl rfl 4 (by decide) (hts (.fieldLink RX6 16 "JoinDeskModel" "values" "[I") (by decide +kernel)) (fun _ h9 => h9) rfl dX6_value_1 ?_
  refine lv_sipush (v := 400) hx hb dX6_value_4 (by decide) ?_
  refine lv_iload_n hx hb dX6_value_7 rfl (lv_at hl 1 rfl) ?_
  refine lv_imul hx hb dX6_value_8 ?_
  refine lv_topi (fun z_1 e_z_1 => ?_)
  obtain rfl : z_1 = 400 := e_z_1.trans (by decide)
  refine lv_aload_n hx hb dX6_value_9 rfl (lv_at hl 0 rfl) ?_
  refine va_get (D := D) (ci := 6) (v := .ref q5) (C := RX6) (T := TX6) (N := 15) hx hb hts (by decide +kernel) hown hK hP 0 rfl rfl 5 (by decide) (hts (.fieldLink RX6 19 "JoinDeskModel" "order" "[I") (by decide +kernel)) (fun _ h9 => h9) rfl dX6_value_10 ?_
  refine lv_sipush (v := 400) hx hb dX6_value_13 (by decide) ?_
  refine lv_iload_n hx hb dX6_value_16 rfl (lv_at hl 1 rfl) ?_
  refine lv_imul hx hb dX6_value_17 ?_
  refine lv_topi (fun z_2 e_z_2 => ?_)
  obtain rfl : z_2 = 400 := e_z_2.trans (by decide)
  refine lv_iload_n hx hb dX6_value_18 rfl (lv_at hl 2 rfl) ?_
  refine lv_iadd hx hb dX6_value_19 ?_
  refine lv_topi (fun z_3 e_z_3 => ?_)
  obtain rfl : z_3 = nI (400 + i) := e_z_3.trans (nI_add 400 i)
  refine va_iald hx hb hK hP 2 0 rfl rfl (vp_in_nI (show 400 + i < 800 by omega) (by omega)) dX6_value_20 ?_
  refine lv_iadd hx hb dX6_value_21 ?_
  refine va_iald hx hb hK hP 1 0 rfl rfl (jo5_in4 h5 (show 400 + i < 800 by omega)) dX6_value_22 ?_
  exact W.iret (v := m4 (400 + (m5 (nI (400 + i)).toNatClampNeg)).toNatClampNeg) hx hb hr (fun t ht hW => ⟨(m4 (400 + (m5 (nI (400 + i)).toNatClampNeg)).toNatClampNeg), rfl, rfl, ht⟩) (fun _ h => nomatch h) dX6_value_23
set_option maxHeartbeats 1000000 in
set_option maxRecDepth 100000 in
theorem gM_tells_0 (l : Launch) (D : va_G) (cI cL cQ : ClassId) (kd : Int32) : Met l yX6_tells wsX6_tells ({ frames := 0, cells := 0, slots := 0, locals := 0 }) (jr_P D vwCl (jT cI cL cQ) cL cQ [.int kd, .int 0] []) (vp_Si (fun r : Int32 => r = 1)) 0 0 (fun _ => False) := by
  refine Met.ofW (cc := cX6_tells) (maxL := 2) (ret := (some .boolean)) (by decide) rfl ?_
  intro p e s m args below meth c s₁ B hml hv
  obtain ⟨rfl, hP, hK, hN⟩ := hv
  have hx := B.exec
  have hb := B.bytes
  have hr := B.returns
  have hts := atoms_spec (ws := wsX6_tells) B.pre
  have hown : s.vm.findClass RX6 = some m.cls := findClass_of_methodNamed B.named
  have hlocks := B.notSynchronized
  have hl := lv_entry ([.int kd, .int 0]) (n := 2) (Nat.le_of_ble_eq_true rfl)
  rw [lg_entry_eq]
  generalize (lg_sl ([.int kd, .int 0]) ++ List.replicate (2 - (lg_sl ([.int kd, .int 0])).length) Slot.unset).toArray = ls at hl ⊢
  have hl : lv_has ls 2 [(0, .int kd), (1, .int 0)] := hl
  refine lv_iload_n hx hb dX6_tells_0 rfl (lv_at hl 1 rfl) ?_
  refine lv_if_eq (tgt := 15) hx hb dX6_tells_1 (by decide) (fun c_1 => ?_) (fun c_1 => absurd c_1 (by decide))
  refine lv_iconst (v := 1) hx hb dX6_tells_15 (by decide) ?_
  refine lv_goto (tgt := 20) hx hb dX6_tells_16 (by decide) ?_
  exact W.zret (v := 1) (ty := .boolean) hx hb hr rfl (fun t ht hW => ⟨1, rfl, (by exact rfl), ht⟩) (fun _ h => nomatch h) dX6_tells_20
set_option maxHeartbeats 1000000 in
set_option maxRecDepth 100000 in
theorem gM_tells_1 (l : Launch) (D : va_G) (cI cL cQ : ClassId) (kd : Int32) (hk4 : jk4 kd) : Met l yX6_tells wsX6_tells ({ frames := 0, cells := 0, slots := 0, locals := 0 }) (jr_P D vwCl (jT cI cL cQ) cL cQ [.int kd, .int 1] []) (vp_Si (fun r : Int32 => (r = 1 ∧ (¬ kd &&& 1 = 0)) ∨ (r = 0 ∧ (kd &&& 1 = 0)))) 0 0 (fun _ => False) := by
  refine Met.ofW (cc := cX6_tells) (maxL := 2) (ret := (some .boolean)) (by decide) rfl ?_
  intro p e s m args below meth c s₁ B hml hv
  obtain ⟨rfl, hP, hK, hN⟩ := hv
  have hx := B.exec
  have hb := B.bytes
  have hr := B.returns
  have hts := atoms_spec (ws := wsX6_tells) B.pre
  have hown : s.vm.findClass RX6 = some m.cls := findClass_of_methodNamed B.named
  have hlocks := B.notSynchronized
  have hl := lv_entry ([.int kd, .int 1]) (n := 2) (Nat.le_of_ble_eq_true rfl)
  rw [lg_entry_eq]
  generalize (lg_sl ([.int kd, .int 1]) ++ List.replicate (2 - (lg_sl ([.int kd, .int 1])).length) Slot.unset).toArray = ls at hl ⊢
  have hl : lv_has ls 2 [(0, .int kd), (1, .int 1)] := hl
  refine lv_iload_n hx hb dX6_tells_0 rfl (lv_at hl 1 rfl) ?_
  refine lv_if_eq (tgt := 15) hx hb dX6_tells_1 (by decide) (fun c_1 => absurd c_1 (by decide)) (fun c_1 => ?_)
  refine lv_iload_n hx hb dX6_tells_4 rfl (lv_at hl 0 rfl) ?_
  refine lv_iload_n hx hb dX6_tells_5 rfl (lv_at hl 1 rfl) ?_
  refine lv_iconst (v := 1) hx hb dX6_tells_6 (by decide) ?_
  refine lv_isub hx hb dX6_tells_7 ?_
  refine lv_topi (fun z_2 e_z_2 => ?_)
  obtain rfl : z_2 = 0 := e_z_2.trans (by decide)
  refine lv_ishr hx hb dX6_tells_8 ?_
  refine lv_iconst (v := 1) hx hb dX6_tells_9 (by decide) ?_
  refine lv_iand hx hb dX6_tells_10 ?_
  refine lv_iconst (v := 1) hx hb dX6_tells_11 (by decide) ?_
  refine lv_icmp_ne (tgt := 19) hx hb dX6_tells_12 (by decide) (fun ct => ?_) (fun ct => ?_)
  · refine lv_iconst (v := 0) hx hb dX6_tells_19 (by decide) ?_
    exact W.zret (v := 0) (ty := .boolean) hx hb hr rfl (fun t ht hW => ⟨0, rfl, (by exact Or.inr ⟨rfl, Decidable.of_not_not (fun h => ct ((jtl_1 hk4).mpr h))⟩), ht⟩) (fun _ h => nomatch h) dX6_tells_20
  · refine lv_iconst (v := 1) hx hb dX6_tells_15 (by decide) ?_
    refine lv_goto (tgt := 20) hx hb dX6_tells_16 (by decide) ?_
    exact W.zret (v := 1) (ty := .boolean) hx hb hr rfl (fun t ht hW => ⟨1, rfl, (by exact Or.inl ⟨rfl, (jtl_1 hk4).mp ct⟩), ht⟩) (fun _ h => nomatch h) dX6_tells_20
set_option maxHeartbeats 1000000 in
set_option maxRecDepth 100000 in
theorem gM_tells_2 (l : Launch) (D : va_G) (cI cL cQ : ClassId) (kd : Int32) (hk4 : jk4 kd) : Met l yX6_tells wsX6_tells ({ frames := 0, cells := 0, slots := 0, locals := 0 }) (jr_P D vwCl (jT cI cL cQ) cL cQ [.int kd, .int 2] []) (vp_Si (fun r : Int32 => (r = 1 ∧ (¬ kd &&& 2 = 0)) ∨ (r = 0 ∧ (kd &&& 2 = 0)))) 0 0 (fun _ => False) := by
  refine Met.ofW (cc := cX6_tells) (maxL := 2) (ret := (some .boolean)) (by decide) rfl ?_
  intro p e s m args below meth c s₁ B hml hv
  obtain ⟨rfl, hP, hK, hN⟩ := hv
  have hx := B.exec
  have hb := B.bytes
  have hr := B.returns
  have hts := atoms_spec (ws := wsX6_tells) B.pre
  have hown : s.vm.findClass RX6 = some m.cls := findClass_of_methodNamed B.named
  have hlocks := B.notSynchronized
  have hl := lv_entry ([.int kd, .int 2]) (n := 2) (Nat.le_of_ble_eq_true rfl)
  rw [lg_entry_eq]
  generalize (lg_sl ([.int kd, .int 2]) ++ List.replicate (2 - (lg_sl ([.int kd, .int 2])).length) Slot.unset).toArray = ls at hl ⊢
  have hl : lv_has ls 2 [(0, .int kd), (1, .int 2)] := hl
  refine lv_iload_n hx hb dX6_tells_0 rfl (lv_at hl 1 rfl) ?_
  refine lv_if_eq (tgt := 15) hx hb dX6_tells_1 (by decide) (fun c_1 => absurd c_1 (by decide)) (fun c_1 => ?_)
  refine lv_iload_n hx hb dX6_tells_4 rfl (lv_at hl 0 rfl) ?_
  refine lv_iload_n hx hb dX6_tells_5 rfl (lv_at hl 1 rfl) ?_
  refine lv_iconst (v := 1) hx hb dX6_tells_6 (by decide) ?_
  refine lv_isub hx hb dX6_tells_7 ?_
  refine lv_topi (fun z_2 e_z_2 => ?_)
  obtain rfl : z_2 = 1 := e_z_2.trans (by decide)
  refine lv_ishr hx hb dX6_tells_8 ?_
  refine lv_iconst (v := 1) hx hb dX6_tells_9 (by decide) ?_
  refine lv_iand hx hb dX6_tells_10 ?_
  refine lv_iconst (v := 1) hx hb dX6_tells_11 (by decide) ?_
  refine lv_icmp_ne (tgt := 19) hx hb dX6_tells_12 (by decide) (fun ct => ?_) (fun ct => ?_)
  · refine lv_iconst (v := 0) hx hb dX6_tells_19 (by decide) ?_
    exact W.zret (v := 0) (ty := .boolean) hx hb hr rfl (fun t ht hW => ⟨0, rfl, (by exact Or.inr ⟨rfl, Decidable.of_not_not (fun h => ct ((jtl_2 hk4).mpr h))⟩), ht⟩) (fun _ h => nomatch h) dX6_tells_20
  · refine lv_iconst (v := 1) hx hb dX6_tells_15 (by decide) ?_
    refine lv_goto (tgt := 20) hx hb dX6_tells_16 (by decide) ?_
    exact W.zret (v := 1) (ty := .boolean) hx hb hr rfl (fun t ht hW => ⟨1, rfl, (by exact Or.inl ⟨rfl, (jtl_2 hk4).mp ct⟩), ht⟩) (fun _ h => nomatch h) dX6_tells_20
set_option maxHeartbeats 1000000 in
set_option maxRecDepth 100000 in
theorem gM_add_1 (l : Launch) (D : va_G) (cI cL cQ : ClassId) (mo : Nat) (a : Nat) (a2 : Nat) (g : Nat) (n : Nat) (n2 : Nat) (q1 : Nat) (q3 : Nat) (q4 : Nat) (q5 : Nat) (q6 : Nat) (q11 : Nat) (z0 : Int32) (pr : Int32) (gr : Int32) (kd : Int32) (mk : Int32) (w10 : Int64) (w13 : Int64) (w14 : Int64) (m3 : Nat → Int32) (m4 : Nat → Int32) (x : Int32) (y : Int32) (sz : Nat) (ha : a ≤ 400) (hlt : n < a) : Met l yX6_add wsX6_add ({ frames := 1, cells := 0, slots := 0, locals := 21 }) (jw_P D vwCl (jT cI cL cQ) cL cQ [.ref mo, .int 1, .int x, .int y] [(mo, .inr (6, [.int z0, .ref q1, .int (nI g), .ref q3, .ref q4, .ref q5, .ref q6, .int pr, .int gr, .int kd, .long w10, .ref q11, .int mk, .long w13, .long w14])), (q1, .inl (cI, 2, .inl (jl [nI a, nI a2]))), (q3, .inl (cI, 800, .inl m3)), (q4, .inl (cI, 800, .inl m4)), (q6, .inl (cI, 2, .inl (jl [nI n, nI n2])))] sz) (va_Qi (fun (r : Int32) (u : va_W) => r = nI n ∧ u = [(mo, .inr (6, [.int 0, .ref q1, .int (nI g), .ref q3, .ref q4, .ref q5, .ref q6, .int 0, .int 0, .int kd, .long w10, .ref q11, .int mk, .long w13, .long w14])), (q1, .inl (cI, 2, .inl (jl [nI a, nI a2]))), (q3, .inl (cI, 800, .inl (upd m3 (0 + n) x))), (q4, .inl (cI, 800, .inl (upd m4 (0 + n) y))), (q6, .inl (cI, 2, .inl (jl [nI (n + 1), nI n2])))]) (jw_B D vwCl (va_A [(mo, .inr (6, [.int z0, .ref q1, .int (nI g), .ref q3, .ref q4, .ref q5, .ref q6, .int pr, .int gr, .int kd, .long w10, .ref q11, .int mk, .long w13, .long w14])), (q1, .inl (cI, 2, .inl (jl [nI a, nI a2]))), (q3, .inl (cI, 800, .inl m3)), (q4, .inl (cI, 800, .inl m4)), (q6, .inl (cI, 2, .inl (jl [nI n, nI n2])))] sz) (fun u : va_W => u)) (va_A [(mo, .inr (6, [.int z0, .ref q1, .int (nI g), .ref q3, .ref q4, .ref q5, .ref q6, .int pr, .int gr, .int kd, .long w10, .ref q11, .int mk, .long w13, .long w14])), (q1, .inl (cI, 2, .inl (jl [nI a, nI a2]))), (q3, .inl (cI, 800, .inl m3)), (q4, .inl (cI, 800, .inl m4)), (q6, .inl (cI, 2, .inl (jl [nI n, nI n2])))] sz)) 0 0 (va_A [(mo, .inr (6, [.int z0, .ref q1, .int (nI g), .ref q3, .ref q4, .ref q5, .ref q6, .int pr, .int gr, .int kd, .long w10, .ref q11, .int mk, .long w13, .long w14])), (q1, .inl (cI, 2, .inl (jl [nI a, nI a2]))), (q3, .inl (cI, 800, .inl m3)), (q4, .inl (cI, 800, .inl m4)), (q6, .inl (cI, 2, .inl (jl [nI n, nI n2])))] sz) := by
  refine Met.ofW (cc := cX6_add) (maxL := 6) (ret := (some .int)) (by decide) rfl ?_
  intro p e s m args below meth c s₁ B hml hv
  obtain ⟨rfl, hsz, hP, hK, hN, hD0⟩ := hv
  have hx := B.exec
  have hb := B.bytes
  have hr := B.returns
  have hts := atoms_spec (ws := wsX6_add) B.pre
  have hown : s.vm.findClass RX6 = some m.cls := findClass_of_methodNamed B.named
  have hlocks := B.notSynchronized
  subst hsz
  have hD := hD0.self (sz := s.heap.size)
  generalize hAe : va_A [(mo, .inr (6, [.int z0, .ref q1, .int (nI g), .ref q3, .ref q4, .ref q5, .ref q6, .int pr, .int gr, .int kd, .long w10, .ref q11, .int mk, .long w13, .long w14])), (q1, .inl (cI, 2, .inl (jl [nI a, nI a2]))), (q3, .inl (cI, 800, .inl m3)), (q4, .inl (cI, 800, .inl m4)), (q6, .inl (cI, 2, .inl (jl [nI n, nI n2])))] s.heap.size = A at hD ⊢
  have hA : ∀ q : Nat, s.heap.size ≤ q → A q := fun q h => by rw [← hAe]; exact Or.inr h
  have hS : va_S A s.heap s.heap [] := va_S.rf
  have hl := lv_entry ([.ref mo, .int 1, .int x, .int y]) (n := 6) (Nat.le_of_ble_eq_true rfl)
  rw [lg_entry_eq]
  generalize (lg_sl ([.ref mo, .int 1, .int x, .int y]) ++ List.replicate (6 - (lg_sl ([.ref mo, .int 1, .int x, .int y])).length) Slot.unset).toArray = ls at hl ⊢
  have hl : lv_has ls 6 [(0, .ref mo), (1, .int 1), (2, .int x), (3, .int y)] := hl
  refine lv_iload_n hx hb dX6_add_0 rfl (lv_at hl 1 rfl) ?_
  refine lv_if_eq (tgt := 8) hx hb dX6_add_1 (by decide) (fun c_1 => absurd c_1 (by decide)) (fun c_1 => ?_)
  refine lv_iconst (v := 0) hx hb dX6_add_4 (by decide) ?_
  refine lv_goto (tgt := 9) hx hb dX6_add_5 (by decide) ?_
  refine lv_istore (lv' := [(4, .int 0), (0, .ref mo), (1, .int 1), (2, .int x), (3, .int y)]) hx hb dX6_add_9 hl (by decide) rfl (fun ls hl => ?_)
  refine lv_aload_n hx hb dX6_add_11 rfl (lv_at hl 1 rfl) ?_
  refine lv_aload_n hx hb dX6_add_12 rfl (lv_at hl 1 rfl) ?_
  refine va_get (D := D) (ci := 6) (v := .ref q6) (C := RX6) (T := TX6) (N := 15) hx hb hts (by decide +kernel) hown hK hP 0 rfl rfl 6 (by decide) (hts (.fieldLink RX6 22 "JoinDeskModel" "many" "[I") (by decide +kernel)) (fun _ h9 => h9) rfl dX6_add_13 ?_
  refine lv_iload hx hb dX6_add_16 (lv_at hl 0 rfl) ?_
  refine va_iald hx hb hK hP 4 0 rfl rfl (by unfold vp_in; decide) dX6_add_18 ?_
  refine W.eq (g2 := F0 m 19 ls [.int (nI n), .ref mo]) rfl ?_
  refine lv_aload_n hx hb dX6_add_19 rfl (lv_at hl 1 rfl) ?_
  refine va_get (D := D) (ci := 6) (v := .ref q1) (C := RX6) (T := TX6) (N := 15) hx hb hts (by decide +kernel) hown hK hP 0 rfl rfl 1 (by decide) (hts (.fieldLink RX6 7 "JoinDeskModel" "most" "[I") (by decide +kernel)) (fun _ h9 => h9) rfl dX6_add_20 ?_
  refine lv_iload hx hb dX6_add_23 (lv_at hl 0 rfl) ?_
  refine va_iald hx hb hK hP 1 0 rfl rfl (by unfold vp_in; decide) dX6_add_25 ?_
  refine W.eq (g2 := F0 m 26 ls [.int (nI a), .int (nI n), .ref mo]) rfl ?_
  refine lv_icmp_ne (tgt := 33) hx hb dX6_add_26 (by decide) (fun c_2 => ?_) (fun c_2 => absurd c_2 (by exact fun h => absurd ((nI_eq (by omega) (by omega)).mp h) (by omega)))
  refine lv_iconst (v := 0) hx hb dX6_add_33 (by decide) ?_
  refine jw_i (wr := [(q1, .inl (cI, 2, .inl (jl [nI a, nI a2]))), (q3, .inl (cI, 800, .inl m3)), (q4, .inl (cI, 800, .inl m4)), (q6, .inl (cI, 2, .inl (jl [nI n, nI n2])))]) (va_runV (As := [.int 0]) (rest := []) ⟨hx, hb, hml, hown, hts⟩ (gM_refuses_0 l D cI cL cQ mo g q1 q3 q4 q5 q6 q11 z0 pr gr kd mk w10 w13 w14 _) (cwV 1 hts gX6_add_X6_refuses rfl rfl rfl (by decide +kernel) ⟨Nat.le_of_ble_eq_true rfl, Nat.le_of_ble_eq_true rfl⟩) (jw_V hK hN hP hD [0] (by decide) rfl 6 0 rfl rfl rfl) rfl rfl hl.1 rfl (lv_room (Nat.le_of_ble_eq_true rfl)) dX6_add_34 ⟨Nat.le_of_ble_eq_true rfl, Nat.le_of_ble_eq_true rfl⟩) hP hD hS hA [0] [1, 2, 3, 4] rfl rfl (by decide) (by decide) (fun r u H locs f_3 hP hD hS => ?_)
  obtain ⟨rfl, rfl⟩ := f_3
  have hP : va_P D vwCl [(q1, .inl (cI, 2, .inl (jl [nI a, nI a2]))), (q3, .inl (cI, 800, .inl m3)), (q4, .inl (cI, 800, .inl m4)), (q6, .inl (cI, 2, .inl (jl [nI n, nI n2]))), (mo, .inr (6, [.int 0, .ref q1, .int (nI g), .ref q3, .ref q4, .ref q5, .ref q6, .int pr, .int gr, .int kd, .long w10, .ref q11, .int mk, .long w13, .long w14]))] H := hP
  have hD : va_D A [(q1, .inl (cI, 2, .inl (jl [nI a, nI a2]))), (q3, .inl (cI, 800, .inl m3)), (q4, .inl (cI, 800, .inl m4)), (q6, .inl (cI, 2, .inl (jl [nI n, nI n2]))), (mo, .inr (6, [.int 0, .ref q1, .int (nI g), .ref q3, .ref q4, .ref q5, .ref q6, .int pr, .int gr, .int kd, .long w10, .ref q11, .int mk, .long w13, .long w14]))] := hD
  refine lv_if_eq (tgt := 42) hx hb dX6_add_37 (by decide) (fun c_4 => ?_) (fun c_4 => absurd c_4 (by decide))
  refine lv_aload_n hx hb dX6_add_42 rfl (lv_at hl 1 rfl) ?_
  refine va_get (D := D) (ci := 6) (v := .ref q6) (C := RX6) (T := TX6) (N := 15) hx hb hts (by decide +kernel) hown hK hP 4 rfl rfl 6 (by decide) (hts (.fieldLink RX6 22 "JoinDeskModel" "many" "[I") (by decide +kernel)) (fun _ h9 => h9) rfl dX6_add_43 ?_
  refine lv_iload hx hb dX6_add_46 (lv_at hl 0 rfl) ?_
  refine va_iald hx hb hK hP 3 0 rfl rfl (by unfold vp_in; decide) dX6_add_48 ?_
  refine W.eq (g2 := F0 m 49 ls [.int (nI n)]) rfl ?_
  refine lv_istore (lv' := [(5, .int (nI n)), (4, .int 0), (0, .ref mo), (1, .int 1), (2, .int x), (3, .int y)]) hx hb dX6_add_49 hl (by decide) rfl (fun ls hl => ?_)
  refine lv_aload_n hx hb dX6_add_51 rfl (lv_at hl 2 rfl) ?_
  refine va_get (D := D) (ci := 6) (v := .ref q3) (C := RX6) (T := TX6) (N := 15) hx hb hts (by decide +kernel) hown hK hP 4 rfl rfl 3 (by decide) (hts (.fieldLink RX6 13 "JoinDeskModel" "keys" "[I") (by decide +kernel)) (fun _ h9 => h9) rfl dX6_add_52 ?_
  refine lv_sipush (v := 400) hx hb dX6_add_55 (by decide) ?_
  refine lv_iload hx hb dX6_add_58 (lv_at hl 1 rfl) ?_
  refine lv_imul hx hb dX6_add_60 ?_
  refine lv_topi (fun z_5 e_z_5 => ?_)
  obtain rfl : z_5 = 0 := e_z_5.trans (by decide)
  refine lv_iload hx hb dX6_add_61 (lv_at hl 0 rfl) ?_
  refine lv_iadd hx hb dX6_add_63 ?_
  refine lv_topi (fun z_6 e_z_6 => ?_)
  obtain rfl : z_6 = nI (0 + n) := e_z_6.trans (nI_add 0 n)
  refine lv_iload_n hx hb dX6_add_64 rfl (lv_at hl 4 rfl) ?_
  refine va_iast hx hb hK hP hD hS 1 0 rfl rfl (vp_in_nI (show 0 + n < 800 by omega) (by omega)) dX6_add_65 (fun H locs hP hD hS => ?_)
  have hP : va_P D vwCl [(q1, .inl (cI, 2, .inl (jl [nI a, nI a2]))), (q3, .inl (cI, 800, .inl (upd m3 (nI (0 + n)).toNatClampNeg x))), (q4, .inl (cI, 800, .inl m4)), (q6, .inl (cI, 2, .inl (jl [nI n, nI n2]))), (mo, .inr (6, [.int 0, .ref q1, .int (nI g), .ref q3, .ref q4, .ref q5, .ref q6, .int pr, .int gr, .int kd, .long w10, .ref q11, .int mk, .long w13, .long w14]))] H := hP
  have hD : va_D A [(q1, .inl (cI, 2, .inl (jl [nI a, nI a2]))), (q3, .inl (cI, 800, .inl (upd m3 (nI (0 + n)).toNatClampNeg x))), (q4, .inl (cI, 800, .inl m4)), (q6, .inl (cI, 2, .inl (jl [nI n, nI n2]))), (mo, .inr (6, [.int 0, .ref q1, .int (nI g), .ref q3, .ref q4, .ref q5, .ref q6, .int pr, .int gr, .int kd, .long w10, .ref q11, .int mk, .long w13, .long w14]))] := hD
  refine lv_aload_n hx hb dX6_add_66 rfl (lv_at hl 2 rfl) ?_
  refine va_get (D := D) (ci := 6) (v := .ref q4) (C := RX6) (T := TX6) (N := 15) hx hb hts (by decide +kernel) hown hK hP 4 rfl rfl 4 (by decide) (hts (.fieldLink RX6 16 "JoinDeskModel" "values" "[I") (by decide +kernel)) (fun _ h9 => h9) rfl dX6_add_67 ?_
  refine lv_sipush (v := 400) hx hb dX6_add_70 (by decide) ?_
  refine lv_iload hx hb dX6_add_73 (lv_at hl 1 rfl) ?_
  refine lv_imul hx hb dX6_add_75 ?_
  refine lv_topi (fun z_7 e_z_7 => ?_)
  obtain rfl : z_7 = 0 := e_z_7.trans (by decide)
  refine lv_iload hx hb dX6_add_76 (lv_at hl 0 rfl) ?_
  refine lv_iadd hx hb dX6_add_78 ?_
  refine lv_topi (fun z_8 e_z_8 => ?_)
  obtain rfl : z_8 = nI (0 + n) := e_z_8.trans (nI_add 0 n)
  refine lv_iload_n hx hb dX6_add_79 rfl (lv_at hl 5 rfl) ?_
  refine va_iast hx hb hK hP hD hS 2 0 rfl rfl (vp_in_nI (show 0 + n < 800 by omega) (by omega)) dX6_add_80 (fun H locs hP hD hS => ?_)
  have hP : va_P D vwCl [(q1, .inl (cI, 2, .inl (jl [nI a, nI a2]))), (q3, .inl (cI, 800, .inl (upd m3 (nI (0 + n)).toNatClampNeg x))), (q4, .inl (cI, 800, .inl (upd m4 (nI (0 + n)).toNatClampNeg y))), (q6, .inl (cI, 2, .inl (jl [nI n, nI n2]))), (mo, .inr (6, [.int 0, .ref q1, .int (nI g), .ref q3, .ref q4, .ref q5, .ref q6, .int pr, .int gr, .int kd, .long w10, .ref q11, .int mk, .long w13, .long w14]))] H := hP
  have hD : va_D A [(q1, .inl (cI, 2, .inl (jl [nI a, nI a2]))), (q3, .inl (cI, 800, .inl (upd m3 (nI (0 + n)).toNatClampNeg x))), (q4, .inl (cI, 800, .inl (upd m4 (nI (0 + n)).toNatClampNeg y))), (q6, .inl (cI, 2, .inl (jl [nI n, nI n2]))), (mo, .inr (6, [.int 0, .ref q1, .int (nI g), .ref q3, .ref q4, .ref q5, .ref q6, .int pr, .int gr, .int kd, .long w10, .ref q11, .int mk, .long w13, .long w14]))] := hD
  refine lv_aload_n hx hb dX6_add_81 rfl (lv_at hl 2 rfl) ?_
  refine va_get (D := D) (ci := 6) (v := .ref q6) (C := RX6) (T := TX6) (N := 15) hx hb hts (by decide +kernel) hown hK hP 4 rfl rfl 6 (by decide) (hts (.fieldLink RX6 22 "JoinDeskModel" "many" "[I") (by decide +kernel)) (fun _ h9 => h9) rfl dX6_add_82 ?_
  refine lv_iload hx hb dX6_add_85 (lv_at hl 1 rfl) ?_
  refine lv_dup2_11 hx hb dX6_add_87 rfl rfl ?_
  refine va_iald hx hb hK hP 3 0 rfl rfl (by unfold vp_in; decide) dX6_add_88 ?_
  refine W.eq (g2 := F0 m 89 ls [.int (nI n), .int 0, .ref q6]) rfl ?_
  refine lv_iconst (v := 1) hx hb dX6_add_89 (by decide) ?_
  refine lv_iadd hx hb dX6_add_90 ?_
  refine lv_topi (fun z_9 e_z_9 => ?_)
  obtain rfl : z_9 = nI (n + 1) := e_z_9.trans (nI_add n 1)
  refine va_iast hx hb hK hP hD hS 3 0 rfl rfl (by unfold vp_in; decide) dX6_add_91 (fun H locs hP hD hS => ?_)
  rw [jl_upd (show (0 : Int32).toNatClampNeg = 0 by decide) (Nat.le_of_ble_eq_true rfl)] at hP hD
  have hP : va_P D vwCl [(q1, .inl (cI, 2, .inl (jl [nI a, nI a2]))), (q3, .inl (cI, 800, .inl (upd m3 (nI (0 + n)).toNatClampNeg x))), (q4, .inl (cI, 800, .inl (upd m4 (nI (0 + n)).toNatClampNeg y))), (q6, .inl (cI, 2, .inl (jl [nI (n + 1), nI n2]))), (mo, .inr (6, [.int 0, .ref q1, .int (nI g), .ref q3, .ref q4, .ref q5, .ref q6, .int pr, .int gr, .int kd, .long w10, .ref q11, .int mk, .long w13, .long w14]))] H := hP
  have hD : va_D A [(q1, .inl (cI, 2, .inl (jl [nI a, nI a2]))), (q3, .inl (cI, 800, .inl (upd m3 (nI (0 + n)).toNatClampNeg x))), (q4, .inl (cI, 800, .inl (upd m4 (nI (0 + n)).toNatClampNeg y))), (q6, .inl (cI, 2, .inl (jl [nI (n + 1), nI n2]))), (mo, .inr (6, [.int 0, .ref q1, .int (nI g), .ref q3, .ref q4, .ref q5, .ref q6, .int pr, .int gr, .int kd, .long w10, .ref q11, .int mk, .long w13, .long w14]))] := hD
  refine lv_aload_n hx hb dX6_add_92 rfl (lv_at hl 2 rfl) ?_
  refine lv_iconst (v := 0) hx hb dX6_add_93 (by decide) ?_
  refine va_put (D := D) (ci := 6) (v := .int 0) (ty := .boolean) (C := RX6) (T := TX6) (N := 15) hx hb hts (by decide +kernel) tyX6 tyX6_ok nmX6 hown hK hP hD hS 4 rfl rfl 7 (by decide) (hts (.fieldLink RX6 43 "JoinDeskModel" "prepared" "Z") (by decide +kernel)) (fun _ h9 => h9) rfl (by decide +kernel) rfl rfl (Nat.le_of_ble_eq_true rfl) dX6_add_94 (fun H locs hP hD hS => ?_)
  have hP : va_P D vwCl [(q1, .inl (cI, 2, .inl (jl [nI a, nI a2]))), (q3, .inl (cI, 800, .inl (upd m3 (nI (0 + n)).toNatClampNeg x))), (q4, .inl (cI, 800, .inl (upd m4 (nI (0 + n)).toNatClampNeg y))), (q6, .inl (cI, 2, .inl (jl [nI (n + 1), nI n2]))), (mo, .inr (6, [.int 0, .ref q1, .int (nI g), .ref q3, .ref q4, .ref q5, .ref q6, .int 0, .int gr, .int kd, .long w10, .ref q11, .int mk, .long w13, .long w14]))] H := hP
  have hD : va_D A [(q1, .inl (cI, 2, .inl (jl [nI a, nI a2]))), (q3, .inl (cI, 800, .inl (upd m3 (nI (0 + n)).toNatClampNeg x))), (q4, .inl (cI, 800, .inl (upd m4 (nI (0 + n)).toNatClampNeg y))), (q6, .inl (cI, 2, .inl (jl [nI (n + 1), nI n2]))), (mo, .inr (6, [.int 0, .ref q1, .int (nI g), .ref q3, .ref q4, .ref q5, .ref q6, .int 0, .int gr, .int kd, .long w10, .ref q11, .int mk, .long w13, .long w14]))] := hD
  refine lv_aload_n hx hb dX6_add_97 rfl (lv_at hl 2 rfl) ?_
  refine lv_iconst (v := 0) hx hb dX6_add_98 (by decide) ?_
  refine va_put (D := D) (ci := 6) (v := .int 0) (ty := .boolean) (C := RX6) (T := TX6) (N := 15) hx hb hts (by decide +kernel) tyX6 tyX6_ok nmX6 hown hK hP hD hS 4 rfl rfl 8 (by decide) (hts (.fieldLink RX6 47 "JoinDeskModel" "grouped" "Z") (by decide +kernel)) (fun _ h9 => h9) rfl (by decide +kernel) rfl rfl (Nat.le_of_ble_eq_true rfl) dX6_add_99 (fun H locs hP hD hS => ?_)
  have hP : va_P D vwCl [(q1, .inl (cI, 2, .inl (jl [nI a, nI a2]))), (q3, .inl (cI, 800, .inl (upd m3 (nI (0 + n)).toNatClampNeg x))), (q4, .inl (cI, 800, .inl (upd m4 (nI (0 + n)).toNatClampNeg y))), (q6, .inl (cI, 2, .inl (jl [nI (n + 1), nI n2]))), (mo, .inr (6, [.int 0, .ref q1, .int (nI g), .ref q3, .ref q4, .ref q5, .ref q6, .int 0, .int 0, .int kd, .long w10, .ref q11, .int mk, .long w13, .long w14]))] H := hP
  have hD : va_D A [(q1, .inl (cI, 2, .inl (jl [nI a, nI a2]))), (q3, .inl (cI, 800, .inl (upd m3 (nI (0 + n)).toNatClampNeg x))), (q4, .inl (cI, 800, .inl (upd m4 (nI (0 + n)).toNatClampNeg y))), (q6, .inl (cI, 2, .inl (jl [nI (n + 1), nI n2]))), (mo, .inr (6, [.int 0, .ref q1, .int (nI g), .ref q3, .ref q4, .ref q5, .ref q6, .int 0, .int 0, .int kd, .long w10, .ref q11, .int mk, .long w13, .long w14]))] := hD
  refine lv_iload hx hb dX6_add_102 (lv_at hl 0 rfl) ?_
  have hP := hP.sub (ws' := [(mo, .inr (6, [.int 0, .ref q1, .int (nI g), .ref q3, .ref q4, .ref q5, .ref q6, .int 0, .int 0, .int kd, .long w10, .ref q11, .int mk, .long w13, .long w14])), (q1, .inl (cI, 2, .inl (jl [nI a, nI a2]))), (q3, .inl (cI, 800, .inl (upd m3 (nI (0 + n)).toNatClampNeg x))), (q4, .inl (cI, 800, .inl (upd m4 (nI (0 + n)).toNatClampNeg y))), (q6, .inl (cI, 2, .inl (jl [nI (n + 1), nI n2])))]) [4, 0, 1, 2, 3] rfl
  have hD := hD.sub (ws' := [(mo, .inr (6, [.int 0, .ref q1, .int (nI g), .ref q3, .ref q4, .ref q5, .ref q6, .int 0, .int 0, .int kd, .long w10, .ref q11, .int mk, .long w13, .long w14])), (q1, .inl (cI, 2, .inl (jl [nI a, nI a2]))), (q3, .inl (cI, 800, .inl (upd m3 (nI (0 + n)).toNatClampNeg x))), (q4, .inl (cI, 800, .inl (upd m4 (nI (0 + n)).toNatClampNeg y))), (q6, .inl (cI, 2, .inl (jl [nI (n + 1), nI n2])))]) [4, 0, 1, 2, 3] (by decide) rfl
  refine W.widen (k := 0) (n := 0) (by omega) (by omega) ?_
  exact W.iret (v := nI n) hx hb hr (fun t ht hW => ⟨⟨(nI n), [(mo, .inr (6, [.int 0, .ref q1, .int (nI g), .ref q3, .ref q4, .ref q5, .ref q6, .int 0, .int 0, .int kd, .long w10, .ref q11, .int mk, .long w13, .long w14])), (q1, .inl (cI, 2, .inl (jl [nI a, nI a2]))), (q3, .inl (cI, 800, .inl (upd m3 (nI (0 + n)).toNatClampNeg x))), (q4, .inl (cI, 800, .inl (upd m4 (nI (0 + n)).toNatClampNeg y))), (q6, .inl (cI, 2, .inl (jl [nI (n + 1), nI n2])))], rfl, (by rw [nI_clamp (show 0 + n < 2 ^ 31 by omega)]; exact ⟨rfl, rfl⟩), by rw [ht]; exact hP, hD⟩, hS.F ht⟩) hS.2.2 dX6_add_104
set_option maxHeartbeats 1000000 in
set_option maxRecDepth 100000 in
theorem gM_add_1t (l : Launch) (D : va_G) (cI cL cQ : ClassId) (mo : Nat) (a : Nat) (a2 : Nat) (g : Nat) (n : Nat) (n2 : Nat) (q1 : Nat) (q3 : Nat) (q4 : Nat) (q5 : Nat) (q6 : Nat) (q11 : Nat) (z0 : Int32) (pr : Int32) (gr : Int32) (kd : Int32) (mk : Int32) (w10 : Int64) (w13 : Int64) (w14 : Int64) (x : Int32) (y : Int32) (sz : Nat) (hlt : n = a) : Met l yX6_add wsX6_add ({ frames := 1, cells := 0, slots := 0, locals := 21 }) (jw_P D vwCl (jT cI cL cQ) cL cQ [.ref mo, .int 1, .int x, .int y] [(mo, .inr (6, [.int z0, .ref q1, .int (nI g), .ref q3, .ref q4, .ref q5, .ref q6, .int pr, .int gr, .int kd, .long w10, .ref q11, .int mk, .long w13, .long w14])), (q1, .inl (cI, 2, .inl (jl [nI a, nI a2]))), (q6, .inl (cI, 2, .inl (jl [nI n, nI n2])))] sz) (va_Qi (fun (r : Int32) (u : va_W) => r = 0 ∧ u = [(mo, .inr (6, [.int 1, .ref q1, .int (nI g), .ref q3, .ref q4, .ref q5, .ref q6, .int pr, .int gr, .int kd, .long w10, .ref q11, .int mk, .long w13, .long w14])), (q1, .inl (cI, 2, .inl (jl [nI a, nI a2]))), (q6, .inl (cI, 2, .inl (jl [nI n, nI n2])))]) (jw_B D vwCl (va_A [(mo, .inr (6, [.int z0, .ref q1, .int (nI g), .ref q3, .ref q4, .ref q5, .ref q6, .int pr, .int gr, .int kd, .long w10, .ref q11, .int mk, .long w13, .long w14])), (q1, .inl (cI, 2, .inl (jl [nI a, nI a2]))), (q6, .inl (cI, 2, .inl (jl [nI n, nI n2])))] sz) (fun u : va_W => u)) (va_A [(mo, .inr (6, [.int z0, .ref q1, .int (nI g), .ref q3, .ref q4, .ref q5, .ref q6, .int pr, .int gr, .int kd, .long w10, .ref q11, .int mk, .long w13, .long w14])), (q1, .inl (cI, 2, .inl (jl [nI a, nI a2]))), (q6, .inl (cI, 2, .inl (jl [nI n, nI n2])))] sz)) 0 0 (va_A [(mo, .inr (6, [.int z0, .ref q1, .int (nI g), .ref q3, .ref q4, .ref q5, .ref q6, .int pr, .int gr, .int kd, .long w10, .ref q11, .int mk, .long w13, .long w14])), (q1, .inl (cI, 2, .inl (jl [nI a, nI a2]))), (q6, .inl (cI, 2, .inl (jl [nI n, nI n2])))] sz) := by
  refine Met.ofW (cc := cX6_add) (maxL := 6) (ret := (some .int)) (by decide) rfl ?_
  intro p e s m args below meth c s₁ B hml hv
  obtain ⟨rfl, hsz, hP, hK, hN, hD0⟩ := hv
  have hx := B.exec
  have hb := B.bytes
  have hr := B.returns
  have hts := atoms_spec (ws := wsX6_add) B.pre
  have hown : s.vm.findClass RX6 = some m.cls := findClass_of_methodNamed B.named
  have hlocks := B.notSynchronized
  subst hsz
  have hD := hD0.self (sz := s.heap.size)
  generalize hAe : va_A [(mo, .inr (6, [.int z0, .ref q1, .int (nI g), .ref q3, .ref q4, .ref q5, .ref q6, .int pr, .int gr, .int kd, .long w10, .ref q11, .int mk, .long w13, .long w14])), (q1, .inl (cI, 2, .inl (jl [nI a, nI a2]))), (q6, .inl (cI, 2, .inl (jl [nI n, nI n2])))] s.heap.size = A at hD ⊢
  have hA : ∀ q : Nat, s.heap.size ≤ q → A q := fun q h => by rw [← hAe]; exact Or.inr h
  have hS : va_S A s.heap s.heap [] := va_S.rf
  have hl := lv_entry ([.ref mo, .int 1, .int x, .int y]) (n := 6) (Nat.le_of_ble_eq_true rfl)
  rw [lg_entry_eq]
  generalize (lg_sl ([.ref mo, .int 1, .int x, .int y]) ++ List.replicate (6 - (lg_sl ([.ref mo, .int 1, .int x, .int y])).length) Slot.unset).toArray = ls at hl ⊢
  have hl : lv_has ls 6 [(0, .ref mo), (1, .int 1), (2, .int x), (3, .int y)] := hl
  refine lv_iload_n hx hb dX6_add_0 rfl (lv_at hl 1 rfl) ?_
  refine lv_if_eq (tgt := 8) hx hb dX6_add_1 (by decide) (fun c_1 => absurd c_1 (by decide)) (fun c_1 => ?_)
  refine lv_iconst (v := 0) hx hb dX6_add_4 (by decide) ?_
  refine lv_goto (tgt := 9) hx hb dX6_add_5 (by decide) ?_
  refine lv_istore (lv' := [(4, .int 0), (0, .ref mo), (1, .int 1), (2, .int x), (3, .int y)]) hx hb dX6_add_9 hl (by decide) rfl (fun ls hl => ?_)
  refine lv_aload_n hx hb dX6_add_11 rfl (lv_at hl 1 rfl) ?_
  refine lv_aload_n hx hb dX6_add_12 rfl (lv_at hl 1 rfl) ?_
  refine va_get (D := D) (ci := 6) (v := .ref q6) (C := RX6) (T := TX6) (N := 15) hx hb hts (by decide +kernel) hown hK hP 0 rfl rfl 6 (by decide) (hts (.fieldLink RX6 22 "JoinDeskModel" "many" "[I") (by decide +kernel)) (fun _ h9 => h9) rfl dX6_add_13 ?_
  refine lv_iload hx hb dX6_add_16 (lv_at hl 0 rfl) ?_
  refine va_iald hx hb hK hP 2 0 rfl rfl (by unfold vp_in; decide) dX6_add_18 ?_
  refine W.eq (g2 := F0 m 19 ls [.int (nI n), .ref mo]) rfl ?_
  refine lv_aload_n hx hb dX6_add_19 rfl (lv_at hl 1 rfl) ?_
  refine va_get (D := D) (ci := 6) (v := .ref q1) (C := RX6) (T := TX6) (N := 15) hx hb hts (by decide +kernel) hown hK hP 0 rfl rfl 1 (by decide) (hts (.fieldLink RX6 7 "JoinDeskModel" "most" "[I") (by decide +kernel)) (fun _ h9 => h9) rfl dX6_add_20 ?_
  refine lv_iload hx hb dX6_add_23 (lv_at hl 0 rfl) ?_
  refine va_iald hx hb hK hP 1 0 rfl rfl (by unfold vp_in; decide) dX6_add_25 ?_
  refine W.eq (g2 := F0 m 26 ls [.int (nI a), .int (nI n), .ref mo]) rfl ?_
  refine lv_icmp_ne (tgt := 33) hx hb dX6_add_26 (by decide) (fun c_2 => absurd c_2 (by exact fun h => h (by rw [hlt]))) (fun c_2 => ?_)
  refine lv_iconst (v := 1) hx hb dX6_add_29 (by decide) ?_
  refine lv_goto (tgt := 34) hx hb dX6_add_30 (by decide) ?_
  refine jw_i (wr := [(q1, .inl (cI, 2, .inl (jl [nI a, nI a2]))), (q6, .inl (cI, 2, .inl (jl [nI n, nI n2])))]) (va_runV (As := [.int 1]) (rest := []) ⟨hx, hb, hml, hown, hts⟩ (gM_refuses_1 l D cI cL cQ mo g q1 q3 q4 q5 q6 q11 z0 pr gr kd mk w10 w13 w14 _) (cwV 1 hts gX6_add_X6_refuses rfl rfl rfl (by decide +kernel) ⟨Nat.le_of_ble_eq_true rfl, Nat.le_of_ble_eq_true rfl⟩) (jw_V hK hN hP hD [0] (by decide) rfl 6 0 rfl rfl rfl) rfl rfl hl.1 rfl (lv_room (Nat.le_of_ble_eq_true rfl)) dX6_add_34 ⟨Nat.le_of_ble_eq_true rfl, Nat.le_of_ble_eq_true rfl⟩) hP hD hS hA [0] [1, 2] rfl rfl (by decide) (by decide) (fun r u H locs f_3 hP hD hS => ?_)
  obtain ⟨rfl, rfl⟩ := f_3
  have hP : va_P D vwCl [(q1, .inl (cI, 2, .inl (jl [nI a, nI a2]))), (q6, .inl (cI, 2, .inl (jl [nI n, nI n2]))), (mo, .inr (6, [.int 1, .ref q1, .int (nI g), .ref q3, .ref q4, .ref q5, .ref q6, .int pr, .int gr, .int kd, .long w10, .ref q11, .int mk, .long w13, .long w14]))] H := hP
  have hD : va_D A [(q1, .inl (cI, 2, .inl (jl [nI a, nI a2]))), (q6, .inl (cI, 2, .inl (jl [nI n, nI n2]))), (mo, .inr (6, [.int 1, .ref q1, .int (nI g), .ref q3, .ref q4, .ref q5, .ref q6, .int pr, .int gr, .int kd, .long w10, .ref q11, .int mk, .long w13, .long w14]))] := hD
  refine lv_if_eq (tgt := 42) hx hb dX6_add_37 (by decide) (fun c_4 => absurd c_4 (by decide)) (fun c_4 => ?_)
  refine lv_iconst (v := 0) hx hb dX6_add_40 (by decide) ?_
  have hP := hP.sub (ws' := [(mo, .inr (6, [.int 1, .ref q1, .int (nI g), .ref q3, .ref q4, .ref q5, .ref q6, .int pr, .int gr, .int kd, .long w10, .ref q11, .int mk, .long w13, .long w14])), (q1, .inl (cI, 2, .inl (jl [nI a, nI a2]))), (q6, .inl (cI, 2, .inl (jl [nI n, nI n2])))]) [2, 0, 1] rfl
  have hD := hD.sub (ws' := [(mo, .inr (6, [.int 1, .ref q1, .int (nI g), .ref q3, .ref q4, .ref q5, .ref q6, .int pr, .int gr, .int kd, .long w10, .ref q11, .int mk, .long w13, .long w14])), (q1, .inl (cI, 2, .inl (jl [nI a, nI a2]))), (q6, .inl (cI, 2, .inl (jl [nI n, nI n2])))]) [2, 0, 1] (by decide) rfl
  refine W.widen (k := 0) (n := 0) (by omega) (by omega) ?_
  exact W.iret (v := 0) hx hb hr (fun t ht hW => ⟨⟨0, [(mo, .inr (6, [.int 1, .ref q1, .int (nI g), .ref q3, .ref q4, .ref q5, .ref q6, .int pr, .int gr, .int kd, .long w10, .ref q11, .int mk, .long w13, .long w14])), (q1, .inl (cI, 2, .inl (jl [nI a, nI a2]))), (q6, .inl (cI, 2, .inl (jl [nI n, nI n2])))], rfl, (by exact ⟨rfl, rfl⟩), by rw [ht]; exact hP, hD⟩, hS.F ht⟩) hS.2.2 dX6_add_41
set_option maxHeartbeats 1000000 in
set_option maxRecDepth 100000 in
theorem gM_add_0 (l : Launch) (D : va_G) (cI cL cQ : ClassId) (mo : Nat) (a : Nat) (a2 : Nat) (g : Nat) (n : Nat) (n2 : Nat) (q1 : Nat) (q3 : Nat) (q4 : Nat) (q5 : Nat) (q6 : Nat) (q11 : Nat) (z0 : Int32) (pr : Int32) (gr : Int32) (kd : Int32) (mk : Int32) (w10 : Int64) (w13 : Int64) (w14 : Int64) (m3 : Nat → Int32) (m4 : Nat → Int32) (x : Int32) (y : Int32) (sz : Nat) (ha : a2 ≤ 400) (hlt : n2 < a2) : Met l yX6_add wsX6_add ({ frames := 1, cells := 0, slots := 0, locals := 21 }) (jw_P D vwCl (jT cI cL cQ) cL cQ [.ref mo, .int 0, .int x, .int y] [(mo, .inr (6, [.int z0, .ref q1, .int (nI g), .ref q3, .ref q4, .ref q5, .ref q6, .int pr, .int gr, .int kd, .long w10, .ref q11, .int mk, .long w13, .long w14])), (q1, .inl (cI, 2, .inl (jl [nI a, nI a2]))), (q3, .inl (cI, 800, .inl m3)), (q4, .inl (cI, 800, .inl m4)), (q6, .inl (cI, 2, .inl (jl [nI n, nI n2])))] sz) (va_Qi (fun (r : Int32) (u : va_W) => r = nI n2 ∧ u = [(mo, .inr (6, [.int 0, .ref q1, .int (nI g), .ref q3, .ref q4, .ref q5, .ref q6, .int 0, .int 0, .int kd, .long w10, .ref q11, .int mk, .long w13, .long w14])), (q1, .inl (cI, 2, .inl (jl [nI a, nI a2]))), (q3, .inl (cI, 800, .inl (upd m3 (400 + n2) x))), (q4, .inl (cI, 800, .inl (upd m4 (400 + n2) y))), (q6, .inl (cI, 2, .inl (jl [nI n, nI (n2 + 1)])))]) (jw_B D vwCl (va_A [(mo, .inr (6, [.int z0, .ref q1, .int (nI g), .ref q3, .ref q4, .ref q5, .ref q6, .int pr, .int gr, .int kd, .long w10, .ref q11, .int mk, .long w13, .long w14])), (q1, .inl (cI, 2, .inl (jl [nI a, nI a2]))), (q3, .inl (cI, 800, .inl m3)), (q4, .inl (cI, 800, .inl m4)), (q6, .inl (cI, 2, .inl (jl [nI n, nI n2])))] sz) (fun u : va_W => u)) (va_A [(mo, .inr (6, [.int z0, .ref q1, .int (nI g), .ref q3, .ref q4, .ref q5, .ref q6, .int pr, .int gr, .int kd, .long w10, .ref q11, .int mk, .long w13, .long w14])), (q1, .inl (cI, 2, .inl (jl [nI a, nI a2]))), (q3, .inl (cI, 800, .inl m3)), (q4, .inl (cI, 800, .inl m4)), (q6, .inl (cI, 2, .inl (jl [nI n, nI n2])))] sz)) 0 0 (va_A [(mo, .inr (6, [.int z0, .ref q1, .int (nI g), .ref q3, .ref q4, .ref q5, .ref q6, .int pr, .int gr, .int kd, .long w10, .ref q11, .int mk, .long w13, .long w14])), (q1, .inl (cI, 2, .inl (jl [nI a, nI a2]))), (q3, .inl (cI, 800, .inl m3)), (q4, .inl (cI, 800, .inl m4)), (q6, .inl (cI, 2, .inl (jl [nI n, nI n2])))] sz) := by
  refine Met.ofW (cc := cX6_add) (maxL := 6) (ret := (some .int)) (by decide) rfl ?_
  intro p e s m args below meth c s₁ B hml hv
  obtain ⟨rfl, hsz, hP, hK, hN, hD0⟩ := hv
  have hx := B.exec
  have hb := B.bytes
  have hr := B.returns
  have hts := atoms_spec (ws := wsX6_add) B.pre
  have hown : s.vm.findClass RX6 = some m.cls := findClass_of_methodNamed B.named
  have hlocks := B.notSynchronized
  subst hsz
  have hD := hD0.self (sz := s.heap.size)
  generalize hAe : va_A [(mo, .inr (6, [.int z0, .ref q1, .int (nI g), .ref q3, .ref q4, .ref q5, .ref q6, .int pr, .int gr, .int kd, .long w10, .ref q11, .int mk, .long w13, .long w14])), (q1, .inl (cI, 2, .inl (jl [nI a, nI a2]))), (q3, .inl (cI, 800, .inl m3)), (q4, .inl (cI, 800, .inl m4)), (q6, .inl (cI, 2, .inl (jl [nI n, nI n2])))] s.heap.size = A at hD ⊢
  have hA : ∀ q : Nat, s.heap.size ≤ q → A q := fun q h => by rw [← hAe]; exact Or.inr h
  have hS : va_S A s.heap s.heap [] := va_S.rf
  have hl := lv_entry ([.ref mo, .int 0, .int x, .int y]) (n := 6) (Nat.le_of_ble_eq_true rfl)
  rw [lg_entry_eq]
  generalize (lg_sl ([.ref mo, .int 0, .int x, .int y]) ++ List.replicate (6 - (lg_sl ([.ref mo, .int 0, .int x, .int y])).length) Slot.unset).toArray = ls at hl ⊢
  have hl : lv_has ls 6 [(0, .ref mo), (1, .int 0), (2, .int x), (3, .int y)] := hl
  refine lv_iload_n hx hb dX6_add_0 rfl (lv_at hl 1 rfl) ?_
  refine lv_if_eq (tgt := 8) hx hb dX6_add_1 (by decide) (fun c_1 => ?_) (fun c_1 => absurd c_1 (by decide))
  refine lv_iconst (v := 1) hx hb dX6_add_8 (by decide) ?_
  refine lv_istore (lv' := [(4, .int 1), (0, .ref mo), (1, .int 0), (2, .int x), (3, .int y)]) hx hb dX6_add_9 hl (by decide) rfl (fun ls hl => ?_)
  refine lv_aload_n hx hb dX6_add_11 rfl (lv_at hl 1 rfl) ?_
  refine lv_aload_n hx hb dX6_add_12 rfl (lv_at hl 1 rfl) ?_
  refine va_get (D := D) (ci := 6) (v := .ref q6) (C := RX6) (T := TX6) (N := 15) hx hb hts (by decide +kernel) hown hK hP 0 rfl rfl 6 (by decide) (hts (.fieldLink RX6 22 "JoinDeskModel" "many" "[I") (by decide +kernel)) (fun _ h9 => h9) rfl dX6_add_13 ?_
  refine lv_iload hx hb dX6_add_16 (lv_at hl 0 rfl) ?_
  refine va_iald hx hb hK hP 4 0 rfl rfl (by unfold vp_in; decide) dX6_add_18 ?_
  refine W.eq (g2 := F0 m 19 ls [.int (nI n2), .ref mo]) rfl ?_
  refine lv_aload_n hx hb dX6_add_19 rfl (lv_at hl 1 rfl) ?_
  refine va_get (D := D) (ci := 6) (v := .ref q1) (C := RX6) (T := TX6) (N := 15) hx hb hts (by decide +kernel) hown hK hP 0 rfl rfl 1 (by decide) (hts (.fieldLink RX6 7 "JoinDeskModel" "most" "[I") (by decide +kernel)) (fun _ h9 => h9) rfl dX6_add_20 ?_
  refine lv_iload hx hb dX6_add_23 (lv_at hl 0 rfl) ?_
  refine va_iald hx hb hK hP 1 0 rfl rfl (by unfold vp_in; decide) dX6_add_25 ?_
  refine W.eq (g2 := F0 m 26 ls [.int (nI a2), .int (nI n2), .ref mo]) rfl ?_
  refine lv_icmp_ne (tgt := 33) hx hb dX6_add_26 (by decide) (fun c_2 => ?_) (fun c_2 => absurd c_2 (by exact fun h => absurd ((nI_eq (by omega) (by omega)).mp h) (by omega)))
  refine lv_iconst (v := 0) hx hb dX6_add_33 (by decide) ?_
  refine jw_i (wr := [(q1, .inl (cI, 2, .inl (jl [nI a, nI a2]))), (q3, .inl (cI, 800, .inl m3)), (q4, .inl (cI, 800, .inl m4)), (q6, .inl (cI, 2, .inl (jl [nI n, nI n2])))]) (va_runV (As := [.int 0]) (rest := []) ⟨hx, hb, hml, hown, hts⟩ (gM_refuses_0 l D cI cL cQ mo g q1 q3 q4 q5 q6 q11 z0 pr gr kd mk w10 w13 w14 _) (cwV 1 hts gX6_add_X6_refuses rfl rfl rfl (by decide +kernel) ⟨Nat.le_of_ble_eq_true rfl, Nat.le_of_ble_eq_true rfl⟩) (jw_V hK hN hP hD [0] (by decide) rfl 6 0 rfl rfl rfl) rfl rfl hl.1 rfl (lv_room (Nat.le_of_ble_eq_true rfl)) dX6_add_34 ⟨Nat.le_of_ble_eq_true rfl, Nat.le_of_ble_eq_true rfl⟩) hP hD hS hA [0] [1, 2, 3, 4] rfl rfl (by decide) (by decide) (fun r u H locs f_3 hP hD hS => ?_)
  obtain ⟨rfl, rfl⟩ := f_3
  have hP : va_P D vwCl [(q1, .inl (cI, 2, .inl (jl [nI a, nI a2]))), (q3, .inl (cI, 800, .inl m3)), (q4, .inl (cI, 800, .inl m4)), (q6, .inl (cI, 2, .inl (jl [nI n, nI n2]))), (mo, .inr (6, [.int 0, .ref q1, .int (nI g), .ref q3, .ref q4, .ref q5, .ref q6, .int pr, .int gr, .int kd, .long w10, .ref q11, .int mk, .long w13, .long w14]))] H := hP
  have hD : va_D A [(q1, .inl (cI, 2, .inl (jl [nI a, nI a2]))), (q3, .inl (cI, 800, .inl m3)), (q4, .inl (cI, 800, .inl m4)), (q6, .inl (cI, 2, .inl (jl [nI n, nI n2]))), (mo, .inr (6, [.int 0, .ref q1, .int (nI g), .ref q3, .ref q4, .ref q5, .ref q6, .int pr, .int gr, .int kd, .long w10, .ref q11, .int mk, .long w13, .long w14]))] := hD
  refine lv_if_eq (tgt := 42) hx hb dX6_add_37 (by decide) (fun c_4 => ?_) (fun c_4 => absurd c_4 (by decide))
  refine lv_aload_n hx hb dX6_add_42 rfl (lv_at hl 1 rfl) ?_
  refine va_get (D := D) (ci := 6) (v := .ref q6) (C := RX6) (T := TX6) (N := 15) hx hb hts (by decide +kernel) hown hK hP 4 rfl rfl 6 (by decide) (hts (.fieldLink RX6 22 "JoinDeskModel" "many" "[I") (by decide +kernel)) (fun _ h9 => h9) rfl dX6_add_43 ?_
  refine lv_iload hx hb dX6_add_46 (lv_at hl 0 rfl) ?_
  refine va_iald hx hb hK hP 3 0 rfl rfl (by unfold vp_in; decide) dX6_add_48 ?_
  refine W.eq (g2 := F0 m 49 ls [.int (nI n2)]) rfl ?_
  refine lv_istore (lv' := [(5, .int (nI n2)), (4, .int 1), (0, .ref mo), (1, .int 0), (2, .int x), (3, .int y)]) hx hb dX6_add_49 hl (by decide) rfl (fun ls hl => ?_)
  refine lv_aload_n hx hb dX6_add_51 rfl (lv_at hl 2 rfl) ?_
  refine va_get (D := D) (ci := 6) (v := .ref q3) (C := RX6) (T := TX6) (N := 15) hx hb hts (by decide +kernel) hown hK hP 4 rfl rfl 3 (by decide) (hts (.fieldLink RX6 13 "JoinDeskModel" "keys" "[I") (by decide +kernel)) (fun _ h9 => h9) rfl dX6_add_52 ?_
  refine lv_sipush (v := 400) hx hb dX6_add_55 (by decide) ?_
  refine lv_iload hx hb dX6_add_58 (lv_at hl 1 rfl) ?_
  refine lv_imul hx hb dX6_add_60 ?_
  refine lv_topi (fun z_5 e_z_5 => ?_)
  obtain rfl : z_5 = 400 := e_z_5.trans (by decide)
  refine lv_iload hx hb dX6_add_61 (lv_at hl 0 rfl) ?_
  refine lv_iadd hx hb dX6_add_63 ?_
  refine lv_topi (fun z_6 e_z_6 => ?_)
  obtain rfl : z_6 = nI (400 + n2) := e_z_6.trans (nI_add 400 n2)
  refine lv_iload_n hx hb dX6_add_64 rfl (lv_at hl 4 rfl) ?_
  refine va_iast hx hb hK hP hD hS 1 0 rfl rfl (vp_in_nI (show 400 + n2 < 800 by omega) (by omega)) dX6_add_65 (fun H locs hP hD hS => ?_)
  have hP : va_P D vwCl [(q1, .inl (cI, 2, .inl (jl [nI a, nI a2]))), (q3, .inl (cI, 800, .inl (upd m3 (nI (400 + n2)).toNatClampNeg x))), (q4, .inl (cI, 800, .inl m4)), (q6, .inl (cI, 2, .inl (jl [nI n, nI n2]))), (mo, .inr (6, [.int 0, .ref q1, .int (nI g), .ref q3, .ref q4, .ref q5, .ref q6, .int pr, .int gr, .int kd, .long w10, .ref q11, .int mk, .long w13, .long w14]))] H := hP
  have hD : va_D A [(q1, .inl (cI, 2, .inl (jl [nI a, nI a2]))), (q3, .inl (cI, 800, .inl (upd m3 (nI (400 + n2)).toNatClampNeg x))), (q4, .inl (cI, 800, .inl m4)), (q6, .inl (cI, 2, .inl (jl [nI n, nI n2]))), (mo, .inr (6, [.int 0, .ref q1, .int (nI g), .ref q3, .ref q4, .ref q5, .ref q6, .int pr, .int gr, .int kd, .long w10, .ref q11, .int mk, .long w13, .long w14]))] := hD
  refine lv_aload_n hx hb dX6_add_66 rfl (lv_at hl 2 rfl) ?_
  refine va_get (D := D) (ci := 6) (v := .ref q4) (C := RX6) (T := TX6) (N := 15) hx hb hts (by decide +kernel) hown hK hP 4 rfl rfl 4 (by decide) (hts (.fieldLink RX6 16 "JoinDeskModel" "values" "[I") (by decide +kernel)) (fun _ h9 => h9) rfl dX6_add_67 ?_
  refine lv_sipush (v := 400) hx hb dX6_add_70 (by decide) ?_
  refine lv_iload hx hb dX6_add_73 (lv_at hl 1 rfl) ?_
  refine lv_imul hx hb dX6_add_75 ?_
  refine lv_topi (fun z_7 e_z_7 => ?_)
  obtain rfl : z_7 = 400 := e_z_7.trans (by decide)
  refine lv_iload hx hb dX6_add_76 (lv_at hl 0 rfl) ?_
  refine lv_iadd hx hb dX6_add_78 ?_
  refine lv_topi (fun z_8 e_z_8 => ?_)
  obtain rfl : z_8 = nI (400 + n2) := e_z_8.trans (nI_add 400 n2)
  refine lv_iload_n hx hb dX6_add_79 rfl (lv_at hl 5 rfl) ?_
  refine va_iast hx hb hK hP hD hS 2 0 rfl rfl (vp_in_nI (show 400 + n2 < 800 by omega) (by omega)) dX6_add_80 (fun H locs hP hD hS => ?_)
  have hP : va_P D vwCl [(q1, .inl (cI, 2, .inl (jl [nI a, nI a2]))), (q3, .inl (cI, 800, .inl (upd m3 (nI (400 + n2)).toNatClampNeg x))), (q4, .inl (cI, 800, .inl (upd m4 (nI (400 + n2)).toNatClampNeg y))), (q6, .inl (cI, 2, .inl (jl [nI n, nI n2]))), (mo, .inr (6, [.int 0, .ref q1, .int (nI g), .ref q3, .ref q4, .ref q5, .ref q6, .int pr, .int gr, .int kd, .long w10, .ref q11, .int mk, .long w13, .long w14]))] H := hP
  have hD : va_D A [(q1, .inl (cI, 2, .inl (jl [nI a, nI a2]))), (q3, .inl (cI, 800, .inl (upd m3 (nI (400 + n2)).toNatClampNeg x))), (q4, .inl (cI, 800, .inl (upd m4 (nI (400 + n2)).toNatClampNeg y))), (q6, .inl (cI, 2, .inl (jl [nI n, nI n2]))), (mo, .inr (6, [.int 0, .ref q1, .int (nI g), .ref q3, .ref q4, .ref q5, .ref q6, .int pr, .int gr, .int kd, .long w10, .ref q11, .int mk, .long w13, .long w14]))] := hD
  refine lv_aload_n hx hb dX6_add_81 rfl (lv_at hl 2 rfl) ?_
  refine va_get (D := D) (ci := 6) (v := .ref q6) (C := RX6) (T := TX6) (N := 15) hx hb hts (by decide +kernel) hown hK hP 4 rfl rfl 6 (by decide) (hts (.fieldLink RX6 22 "JoinDeskModel" "many" "[I") (by decide +kernel)) (fun _ h9 => h9) rfl dX6_add_82 ?_
  refine lv_iload hx hb dX6_add_85 (lv_at hl 1 rfl) ?_
  refine lv_dup2_11 hx hb dX6_add_87 rfl rfl ?_
  refine va_iald hx hb hK hP 3 0 rfl rfl (by unfold vp_in; decide) dX6_add_88 ?_
  refine W.eq (g2 := F0 m 89 ls [.int (nI n2), .int 1, .ref q6]) rfl ?_
  refine lv_iconst (v := 1) hx hb dX6_add_89 (by decide) ?_
  refine lv_iadd hx hb dX6_add_90 ?_
  refine lv_topi (fun z_9 e_z_9 => ?_)
  obtain rfl : z_9 = nI (n2 + 1) := e_z_9.trans (nI_add n2 1)
  refine va_iast hx hb hK hP hD hS 3 0 rfl rfl (by unfold vp_in; decide) dX6_add_91 (fun H locs hP hD hS => ?_)
  rw [jl_upd (show (1 : Int32).toNatClampNeg = 1 by decide) (Nat.le_of_ble_eq_true rfl)] at hP hD
  have hP : va_P D vwCl [(q1, .inl (cI, 2, .inl (jl [nI a, nI a2]))), (q3, .inl (cI, 800, .inl (upd m3 (nI (400 + n2)).toNatClampNeg x))), (q4, .inl (cI, 800, .inl (upd m4 (nI (400 + n2)).toNatClampNeg y))), (q6, .inl (cI, 2, .inl (jl [nI n, nI (n2 + 1)]))), (mo, .inr (6, [.int 0, .ref q1, .int (nI g), .ref q3, .ref q4, .ref q5, .ref q6, .int pr, .int gr, .int kd, .long w10, .ref q11, .int mk, .long w13, .long w14]))] H := hP
  have hD : va_D A [(q1, .inl (cI, 2, .inl (jl [nI a, nI a2]))), (q3, .inl (cI, 800, .inl (upd m3 (nI (400 + n2)).toNatClampNeg x))), (q4, .inl (cI, 800, .inl (upd m4 (nI (400 + n2)).toNatClampNeg y))), (q6, .inl (cI, 2, .inl (jl [nI n, nI (n2 + 1)]))), (mo, .inr (6, [.int 0, .ref q1, .int (nI g), .ref q3, .ref q4, .ref q5, .ref q6, .int pr, .int gr, .int kd, .long w10, .ref q11, .int mk, .long w13, .long w14]))] := hD
  refine lv_aload_n hx hb dX6_add_92 rfl (lv_at hl 2 rfl) ?_
  refine lv_iconst (v := 0) hx hb dX6_add_93 (by decide) ?_
  refine va_put (D := D) (ci := 6) (v := .int 0) (ty := .boolean) (C := RX6) (T := TX6) (N := 15) hx hb hts (by decide +kernel) tyX6 tyX6_ok nmX6 hown hK hP hD hS 4 rfl rfl 7 (by decide) (hts (.fieldLink RX6 43 "JoinDeskModel" "prepared" "Z") (by decide +kernel)) (fun _ h9 => h9) rfl (by decide +kernel) rfl rfl (Nat.le_of_ble_eq_true rfl) dX6_add_94 (fun H locs hP hD hS => ?_)
  have hP : va_P D vwCl [(q1, .inl (cI, 2, .inl (jl [nI a, nI a2]))), (q3, .inl (cI, 800, .inl (upd m3 (nI (400 + n2)).toNatClampNeg x))), (q4, .inl (cI, 800, .inl (upd m4 (nI (400 + n2)).toNatClampNeg y))), (q6, .inl (cI, 2, .inl (jl [nI n, nI (n2 + 1)]))), (mo, .inr (6, [.int 0, .ref q1, .int (nI g), .ref q3, .ref q4, .ref q5, .ref q6, .int 0, .int gr, .int kd, .long w10, .ref q11, .int mk, .long w13, .long w14]))] H := hP
  have hD : va_D A [(q1, .inl (cI, 2, .inl (jl [nI a, nI a2]))), (q3, .inl (cI, 800, .inl (upd m3 (nI (400 + n2)).toNatClampNeg x))), (q4, .inl (cI, 800, .inl (upd m4 (nI (400 + n2)).toNatClampNeg y))), (q6, .inl (cI, 2, .inl (jl [nI n, nI (n2 + 1)]))), (mo, .inr (6, [.int 0, .ref q1, .int (nI g), .ref q3, .ref q4, .ref q5, .ref q6, .int 0, .int gr, .int kd, .long w10, .ref q11, .int mk, .long w13, .long w14]))] := hD
  refine lv_aload_n hx hb dX6_add_97 rfl (lv_at hl 2 rfl) ?_
  refine lv_iconst (v := 0) hx hb dX6_add_98 (by decide) ?_
  refine va_put (D := D) (ci := 6) (v := .int 0) (ty := .boolean) (C := RX6) (T := TX6) (N := 15) hx hb hts (by decide +kernel) tyX6 tyX6_ok nmX6 hown hK hP hD hS 4 rfl rfl 8 (by decide) (hts (.fieldLink RX6 47 "JoinDeskModel" "grouped" "Z") (by decide +kernel)) (fun _ h9 => h9) rfl (by decide +kernel) rfl rfl (Nat.le_of_ble_eq_true rfl) dX6_add_99 (fun H locs hP hD hS => ?_)
  have hP : va_P D vwCl [(q1, .inl (cI, 2, .inl (jl [nI a, nI a2]))), (q3, .inl (cI, 800, .inl (upd m3 (nI (400 + n2)).toNatClampNeg x))), (q4, .inl (cI, 800, .inl (upd m4 (nI (400 + n2)).toNatClampNeg y))), (q6, .inl (cI, 2, .inl (jl [nI n, nI (n2 + 1)]))), (mo, .inr (6, [.int 0, .ref q1, .int (nI g), .ref q3, .ref q4, .ref q5, .ref q6, .int 0, .int 0, .int kd, .long w10, .ref q11, .int mk, .long w13, .long w14]))] H := hP
  have hD : va_D A [(q1, .inl (cI, 2, .inl (jl [nI a, nI a2]))), (q3, .inl (cI, 800, .inl (upd m3 (nI (400 + n2)).toNatClampNeg x))), (q4, .inl (cI, 800, .inl (upd m4 (nI (400 + n2)).toNatClampNeg y))), (q6, .inl (cI, 2, .inl (jl [nI n, nI (n2 + 1)]))), (mo, .inr (6, [.int 0, .ref q1, .int (nI g), .ref q3, .ref q4, .ref q5, .ref q6, .int 0, .int 0, .int kd, .long w10, .ref q11, .int mk, .long w13, .long w14]))] := hD
  refine lv_iload hx hb dX6_add_102 (lv_at hl 0 rfl) ?_
  have hP := hP.sub (ws' := [(mo, .inr (6, [.int 0, .ref q1, .int (nI g), .ref q3, .ref q4, .ref q5, .ref q6, .int 0, .int 0, .int kd, .long w10, .ref q11, .int mk, .long w13, .long w14])), (q1, .inl (cI, 2, .inl (jl [nI a, nI a2]))), (q3, .inl (cI, 800, .inl (upd m3 (nI (400 + n2)).toNatClampNeg x))), (q4, .inl (cI, 800, .inl (upd m4 (nI (400 + n2)).toNatClampNeg y))), (q6, .inl (cI, 2, .inl (jl [nI n, nI (n2 + 1)])))]) [4, 0, 1, 2, 3] rfl
  have hD := hD.sub (ws' := [(mo, .inr (6, [.int 0, .ref q1, .int (nI g), .ref q3, .ref q4, .ref q5, .ref q6, .int 0, .int 0, .int kd, .long w10, .ref q11, .int mk, .long w13, .long w14])), (q1, .inl (cI, 2, .inl (jl [nI a, nI a2]))), (q3, .inl (cI, 800, .inl (upd m3 (nI (400 + n2)).toNatClampNeg x))), (q4, .inl (cI, 800, .inl (upd m4 (nI (400 + n2)).toNatClampNeg y))), (q6, .inl (cI, 2, .inl (jl [nI n, nI (n2 + 1)])))]) [4, 0, 1, 2, 3] (by decide) rfl
  refine W.widen (k := 0) (n := 0) (by omega) (by omega) ?_
  exact W.iret (v := nI n2) hx hb hr (fun t ht hW => ⟨⟨(nI n2), [(mo, .inr (6, [.int 0, .ref q1, .int (nI g), .ref q3, .ref q4, .ref q5, .ref q6, .int 0, .int 0, .int kd, .long w10, .ref q11, .int mk, .long w13, .long w14])), (q1, .inl (cI, 2, .inl (jl [nI a, nI a2]))), (q3, .inl (cI, 800, .inl (upd m3 (nI (400 + n2)).toNatClampNeg x))), (q4, .inl (cI, 800, .inl (upd m4 (nI (400 + n2)).toNatClampNeg y))), (q6, .inl (cI, 2, .inl (jl [nI n, nI (n2 + 1)])))], rfl, (by rw [nI_clamp (show 400 + n2 < 2 ^ 31 by omega)]; exact ⟨rfl, rfl⟩), by rw [ht]; exact hP, hD⟩, hS.F ht⟩) hS.2.2 dX6_add_104
set_option maxHeartbeats 1000000 in
set_option maxRecDepth 100000 in
theorem gM_add_0t (l : Launch) (D : va_G) (cI cL cQ : ClassId) (mo : Nat) (a : Nat) (a2 : Nat) (g : Nat) (n : Nat) (n2 : Nat) (q1 : Nat) (q3 : Nat) (q4 : Nat) (q5 : Nat) (q6 : Nat) (q11 : Nat) (z0 : Int32) (pr : Int32) (gr : Int32) (kd : Int32) (mk : Int32) (w10 : Int64) (w13 : Int64) (w14 : Int64) (x : Int32) (y : Int32) (sz : Nat) (hlt : n2 = a2) : Met l yX6_add wsX6_add ({ frames := 1, cells := 0, slots := 0, locals := 21 }) (jw_P D vwCl (jT cI cL cQ) cL cQ [.ref mo, .int 0, .int x, .int y] [(mo, .inr (6, [.int z0, .ref q1, .int (nI g), .ref q3, .ref q4, .ref q5, .ref q6, .int pr, .int gr, .int kd, .long w10, .ref q11, .int mk, .long w13, .long w14])), (q1, .inl (cI, 2, .inl (jl [nI a, nI a2]))), (q6, .inl (cI, 2, .inl (jl [nI n, nI n2])))] sz) (va_Qi (fun (r : Int32) (u : va_W) => r = 0 ∧ u = [(mo, .inr (6, [.int 1, .ref q1, .int (nI g), .ref q3, .ref q4, .ref q5, .ref q6, .int pr, .int gr, .int kd, .long w10, .ref q11, .int mk, .long w13, .long w14])), (q1, .inl (cI, 2, .inl (jl [nI a, nI a2]))), (q6, .inl (cI, 2, .inl (jl [nI n, nI n2])))]) (jw_B D vwCl (va_A [(mo, .inr (6, [.int z0, .ref q1, .int (nI g), .ref q3, .ref q4, .ref q5, .ref q6, .int pr, .int gr, .int kd, .long w10, .ref q11, .int mk, .long w13, .long w14])), (q1, .inl (cI, 2, .inl (jl [nI a, nI a2]))), (q6, .inl (cI, 2, .inl (jl [nI n, nI n2])))] sz) (fun u : va_W => u)) (va_A [(mo, .inr (6, [.int z0, .ref q1, .int (nI g), .ref q3, .ref q4, .ref q5, .ref q6, .int pr, .int gr, .int kd, .long w10, .ref q11, .int mk, .long w13, .long w14])), (q1, .inl (cI, 2, .inl (jl [nI a, nI a2]))), (q6, .inl (cI, 2, .inl (jl [nI n, nI n2])))] sz)) 0 0 (va_A [(mo, .inr (6, [.int z0, .ref q1, .int (nI g), .ref q3, .ref q4, .ref q5, .ref q6, .int pr, .int gr, .int kd, .long w10, .ref q11, .int mk, .long w13, .long w14])), (q1, .inl (cI, 2, .inl (jl [nI a, nI a2]))), (q6, .inl (cI, 2, .inl (jl [nI n, nI n2])))] sz) := by
  refine Met.ofW (cc := cX6_add) (maxL := 6) (ret := (some .int)) (by decide) rfl ?_
  intro p e s m args below meth c s₁ B hml hv
  obtain ⟨rfl, hsz, hP, hK, hN, hD0⟩ := hv
  have hx := B.exec
  have hb := B.bytes
  have hr := B.returns
  have hts := atoms_spec (ws := wsX6_add) B.pre
  have hown : s.vm.findClass RX6 = some m.cls := findClass_of_methodNamed B.named
  have hlocks := B.notSynchronized
  subst hsz
  have hD := hD0.self (sz := s.heap.size)
  generalize hAe : va_A [(mo, .inr (6, [.int z0, .ref q1, .int (nI g), .ref q3, .ref q4, .ref q5, .ref q6, .int pr, .int gr, .int kd, .long w10, .ref q11, .int mk, .long w13, .long w14])), (q1, .inl (cI, 2, .inl (jl [nI a, nI a2]))), (q6, .inl (cI, 2, .inl (jl [nI n, nI n2])))] s.heap.size = A at hD ⊢
  have hA : ∀ q : Nat, s.heap.size ≤ q → A q := fun q h => by rw [← hAe]; exact Or.inr h
  have hS : va_S A s.heap s.heap [] := va_S.rf
  have hl := lv_entry ([.ref mo, .int 0, .int x, .int y]) (n := 6) (Nat.le_of_ble_eq_true rfl)
  rw [lg_entry_eq]
  generalize (lg_sl ([.ref mo, .int 0, .int x, .int y]) ++ List.replicate (6 - (lg_sl ([.ref mo, .int 0, .int x, .int y])).length) Slot.unset).toArray = ls at hl ⊢
  have hl : lv_has ls 6 [(0, .ref mo), (1, .int 0), (2, .int x), (3, .int y)] := hl
  refine lv_iload_n hx hb dX6_add_0 rfl (lv_at hl 1 rfl) ?_
  refine lv_if_eq (tgt := 8) hx hb dX6_add_1 (by decide) (fun c_1 => ?_) (fun c_1 => absurd c_1 (by decide))
  refine lv_iconst (v := 1) hx hb dX6_add_8 (by decide) ?_
  refine lv_istore (lv' := [(4, .int 1), (0, .ref mo), (1, .int 0), (2, .int x), (3, .int y)]) hx hb dX6_add_9 hl (by decide) rfl (fun ls hl => ?_)
  refine lv_aload_n hx hb dX6_add_11 rfl (lv_at hl 1 rfl) ?_
  refine lv_aload_n hx hb dX6_add_12 rfl (lv_at hl 1 rfl) ?_
  refine va_get (D := D) (ci := 6) (v := .ref q6) (C := RX6) (T := TX6) (N := 15) hx hb hts (by decide +kernel) hown hK hP 0 rfl rfl 6 (by decide) (hts (.fieldLink RX6 22 "JoinDeskModel" "many" "[I") (by decide +kernel)) (fun _ h9 => h9) rfl dX6_add_13 ?_
  refine lv_iload hx hb dX6_add_16 (lv_at hl 0 rfl) ?_
  refine va_iald hx hb hK hP 2 0 rfl rfl (by unfold vp_in; decide) dX6_add_18 ?_
  refine W.eq (g2 := F0 m 19 ls [.int (nI n2), .ref mo]) rfl ?_
  refine lv_aload_n hx hb dX6_add_19 rfl (lv_at hl 1 rfl) ?_
  refine va_get (D := D) (ci := 6) (v := .ref q1) (C := RX6) (T := TX6) (N := 15) hx hb hts (by decide +kernel) hown hK hP 0 rfl rfl 1 (by decide) (hts (.fieldLink RX6 7 "JoinDeskModel" "most" "[I") (by decide +kernel)) (fun _ h9 => h9) rfl dX6_add_20 ?_
  refine lv_iload hx hb dX6_add_23 (lv_at hl 0 rfl) ?_
  refine va_iald hx hb hK hP 1 0 rfl rfl (by unfold vp_in; decide) dX6_add_25 ?_
  refine W.eq (g2 := F0 m 26 ls [.int (nI a2), .int (nI n2), .ref mo]) rfl ?_
  refine lv_icmp_ne (tgt := 33) hx hb dX6_add_26 (by decide) (fun c_2 => absurd c_2 (by exact fun h => h (by rw [hlt]))) (fun c_2 => ?_)
  refine lv_iconst (v := 1) hx hb dX6_add_29 (by decide) ?_
  refine lv_goto (tgt := 34) hx hb dX6_add_30 (by decide) ?_
  refine jw_i (wr := [(q1, .inl (cI, 2, .inl (jl [nI a, nI a2]))), (q6, .inl (cI, 2, .inl (jl [nI n, nI n2])))]) (va_runV (As := [.int 1]) (rest := []) ⟨hx, hb, hml, hown, hts⟩ (gM_refuses_1 l D cI cL cQ mo g q1 q3 q4 q5 q6 q11 z0 pr gr kd mk w10 w13 w14 _) (cwV 1 hts gX6_add_X6_refuses rfl rfl rfl (by decide +kernel) ⟨Nat.le_of_ble_eq_true rfl, Nat.le_of_ble_eq_true rfl⟩) (jw_V hK hN hP hD [0] (by decide) rfl 6 0 rfl rfl rfl) rfl rfl hl.1 rfl (lv_room (Nat.le_of_ble_eq_true rfl)) dX6_add_34 ⟨Nat.le_of_ble_eq_true rfl, Nat.le_of_ble_eq_true rfl⟩) hP hD hS hA [0] [1, 2] rfl rfl (by decide) (by decide) (fun r u H locs f_3 hP hD hS => ?_)
  obtain ⟨rfl, rfl⟩ := f_3
  have hP : va_P D vwCl [(q1, .inl (cI, 2, .inl (jl [nI a, nI a2]))), (q6, .inl (cI, 2, .inl (jl [nI n, nI n2]))), (mo, .inr (6, [.int 1, .ref q1, .int (nI g), .ref q3, .ref q4, .ref q5, .ref q6, .int pr, .int gr, .int kd, .long w10, .ref q11, .int mk, .long w13, .long w14]))] H := hP
  have hD : va_D A [(q1, .inl (cI, 2, .inl (jl [nI a, nI a2]))), (q6, .inl (cI, 2, .inl (jl [nI n, nI n2]))), (mo, .inr (6, [.int 1, .ref q1, .int (nI g), .ref q3, .ref q4, .ref q5, .ref q6, .int pr, .int gr, .int kd, .long w10, .ref q11, .int mk, .long w13, .long w14]))] := hD
  refine lv_if_eq (tgt := 42) hx hb dX6_add_37 (by decide) (fun c_4 => absurd c_4 (by decide)) (fun c_4 => ?_)
  refine lv_iconst (v := 0) hx hb dX6_add_40 (by decide) ?_
  have hP := hP.sub (ws' := [(mo, .inr (6, [.int 1, .ref q1, .int (nI g), .ref q3, .ref q4, .ref q5, .ref q6, .int pr, .int gr, .int kd, .long w10, .ref q11, .int mk, .long w13, .long w14])), (q1, .inl (cI, 2, .inl (jl [nI a, nI a2]))), (q6, .inl (cI, 2, .inl (jl [nI n, nI n2])))]) [2, 0, 1] rfl
  have hD := hD.sub (ws' := [(mo, .inr (6, [.int 1, .ref q1, .int (nI g), .ref q3, .ref q4, .ref q5, .ref q6, .int pr, .int gr, .int kd, .long w10, .ref q11, .int mk, .long w13, .long w14])), (q1, .inl (cI, 2, .inl (jl [nI a, nI a2]))), (q6, .inl (cI, 2, .inl (jl [nI n, nI n2])))]) [2, 0, 1] (by decide) rfl
  refine W.widen (k := 0) (n := 0) (by omega) (by omega) ?_
  exact W.iret (v := 0) hx hb hr (fun t ht hW => ⟨⟨0, [(mo, .inr (6, [.int 1, .ref q1, .int (nI g), .ref q3, .ref q4, .ref q5, .ref q6, .int pr, .int gr, .int kd, .long w10, .ref q11, .int mk, .long w13, .long w14])), (q1, .inl (cI, 2, .inl (jl [nI a, nI a2]))), (q6, .inl (cI, 2, .inl (jl [nI n, nI n2])))], rfl, (by exact ⟨rfl, rfl⟩), by rw [ht]; exact hP, hD⟩, hS.F ht⟩) hS.2.2 dX6_add_41
