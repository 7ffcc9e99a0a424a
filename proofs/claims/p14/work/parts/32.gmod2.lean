set_option maxHeartbeats 1000000 in
set_option maxRecDepth 100000 in
theorem gM_kind (l : Launch) (D : va_G) (cI cL cQ : ClassId) (mo : Nat) (g : Nat) (q1 : Nat) (q3 : Nat) (q4 : Nat) (q5 : Nat) (q6 : Nat) (q11 : Nat) (z0 : Int32) (pr : Int32) (gr : Int32) (kd : Int32) (mk : Int32) (w10 : Int64) (w13 : Int64) (w14 : Int64) (t0 : Int32) (t1 : Int32) (t2 : Int32) (t3 : Int32) (t4 : Int32) (t5 : Int32) (t6 : Int32) (t7 : Int32) (t8 : Int32) (t9 : Int32) (t10 : Int32) (t11 : Int32) (t12 : Int32) (t13 : Int32) (t14 : Int32) (t15 : Int32) (t16 : Int32) (t17 : Int32) (t18 : Int32) (t19 : Int32) (t20 : Int32) (t21 : Int32) (t22 : Int32) (t23 : Int32) (x : Int32) (sz : Nat) (h1 : ¬ x < 0) (h2 : x ≤ 3) : Met l yX6_kind wsX6_kind ({ frames := 1, cells := 0, slots := 0, locals := 21 }) (jw_P D vwCl (jT cI cL cQ) cL cQ [.ref mo, .int x] [(mo, .inr (6, [.int z0, .ref q1, .int (nI g), .ref q3, .ref q4, .ref q5, .ref q6, .int pr, .int gr, .int kd, .long w10, .ref q11, .int mk, .long w13, .long w14])), (q11, .inl (cI, 24, .inl (jl [t0, t1, t2, t3, t4, t5, t6, t7, t8, t9, t10, t11, t12, t13, t14, t15, t16, t17, t18, t19, t20, t21, t22, t23])))] sz) (va_Qv (fun u : va_W => u = [(mo, .inr (6, [.int 0, .ref q1, .int (nI g), .ref q3, .ref q4, .ref q5, .ref q6, .int pr, .int gr, .int x, .long 0, .ref q11, .int 0, .long w13, .long w14])), (q11, .inl (cI, 24, .inl (jl [0, 0, 0, 0, 0, 0, 0, 0, 0, 0, 0, 0, t12, t13, t14, t15, t16, t17, t18, t19, t20, t21, t22, t23])))]) (jw_B D vwCl (va_A [(mo, .inr (6, [.int z0, .ref q1, .int (nI g), .ref q3, .ref q4, .ref q5, .ref q6, .int pr, .int gr, .int kd, .long w10, .ref q11, .int mk, .long w13, .long w14])), (q11, .inl (cI, 24, .inl (jl [t0, t1, t2, t3, t4, t5, t6, t7, t8, t9, t10, t11, t12, t13, t14, t15, t16, t17, t18, t19, t20, t21, t22, t23])))] sz) (fun u : va_W => u)) (va_A [(mo, .inr (6, [.int z0, .ref q1, .int (nI g), .ref q3, .ref q4, .ref q5, .ref q6, .int pr, .int gr, .int kd, .long w10, .ref q11, .int mk, .long w13, .long w14])), (q11, .inl (cI, 24, .inl (jl [t0, t1, t2, t3, t4, t5, t6, t7, t8, t9, t10, t11, t12, t13, t14, t15, t16, t17, t18, t19, t20, t21, t22, t23])))] sz)) 0 0 (va_A [(mo, .inr (6, [.int z0, .ref q1, .int (nI g), .ref q3, .ref q4, .ref q5, .ref q6, .int pr, .int gr, .int kd, .long w10, .ref q11, .int mk, .long w13, .long w14])), (q11, .inl (cI, 24, .inl (jl [t0, t1, t2, t3, t4, t5, t6, t7, t8, t9, t10, t11, t12, t13, t14, t15, t16, t17, t18, t19, t20, t21, t22, t23])))] sz) := by
  refine Met.ofW (cc := cX6_kind) (maxL := 2) (ret := none) (by decide) rfl ?_
  intro p e s m args below meth c s₁ B hml hv
  obtain ⟨rfl, hsz, hP, hK, hN, hD0⟩ := hv
  have hx := B.exec
  have hb := B.bytes
  have hr := B.returns
  have hts := atoms_spec (ws := wsX6_kind) B.pre
  have hown : s.vm.findClass RX6 = some m.cls := findClass_of_methodNamed B.named
  have hlocks := B.notSynchronized
  subst hsz
  have hD := hD0.self (sz := s.heap.size)
  generalize hAe : va_A [(mo, .inr (6, [.int z0, .ref q1, .int (nI g), .ref q3, .ref q4, .ref q5, .ref q6, .int pr, .int gr, .int kd, .long w10, .ref q11, .int mk, .long w13, .long w14])), (q11, .inl (cI, 24, .inl (jl [t0, t1, t2, t3, t4, t5, t6, t7, t8, t9, t10, t11, t12, t13, t14, t15, t16, t17, t18, t19, t20, t21, t22, t23])))] s.heap.size = A at hD ⊢
  have hA : ∀ q : Nat, s.heap.size ≤ q → A q := fun q h => by rw [← hAe]; exact Or.inr h
  have hS : va_S A s.heap s.heap [] := va_S.rf
  have hl := lv_entry ([.ref mo, .int x]) (n := 2) (Nat.le_of_ble_eq_true rfl)
  rw [lg_entry_eq]
  generalize (lg_sl ([.ref mo, .int x]) ++ List.replicate (2 - (lg_sl ([.ref mo, .int x])).length) Slot.unset).toArray = ls at hl ⊢
  have hl : lv_has ls 2 [(0, .ref mo), (1, .int x)] := hl
  refine lv_aload_n hx hb dX6_kind_0 rfl (lv_at hl 0 rfl) ?_
  refine lv_iload_n hx hb dX6_kind_1 rfl (lv_at hl 1 rfl) ?_
  refine lv_if_lt (tgt := 10) hx hb dX6_kind_2 (by decide) (fun c_1 => absurd c_1 (by exact h1)) (fun c_1 => ?_)
  refine lv_iload_n hx hb dX6_kind_5 rfl (lv_at hl 1 rfl) ?_
  refine lv_iconst (v := 3) hx hb dX6_kind_6 (by decide) ?_
  refine lv_icmp_le (tgt := 14) hx hb dX6_kind_7 (by decide) (fun c_2 => ?_) (fun c_2 => absurd c_2 (by exact fun h => h h2))
  refine lv_iconst (v := 0) hx hb dX6_kind_14 (by decide) ?_
  refine jw_i (wr := [(q11, .inl (cI, 24, .inl (jl [t0, t1, t2, t3, t4, t5, t6, t7, t8, t9, t10, t11, t12, t13, t14, t15, t16, t17, t18, t19, t20, t21, t22, t23])))]) (va_runV (As := [.int 0]) (rest := []) ⟨hx, hb, hml, hown, hts⟩ (gM_refuses_0 l D cI cL cQ mo g q1 q3 q4 q5 q6 q11 z0 pr gr kd mk w10 w13 w14 _) (cwV 1 hts gX6_kind_X6_refuses rfl rfl rfl (by decide +kernel) ⟨Nat.le_of_ble_eq_true rfl, Nat.le_of_ble_eq_true rfl⟩) (jw_V hK hN hP hD [0] (by decide) rfl 6 0 rfl rfl rfl) rfl rfl hl.1 rfl (lv_room (Nat.le_of_ble_eq_true rfl)) dX6_kind_15 ⟨Nat.le_of_ble_eq_true rfl, Nat.le_of_ble_eq_true rfl⟩) hP hD hS hA [0] [1] rfl rfl (by decide) (by decide) (fun r u H locs f_3 hP hD hS => ?_)
  obtain ⟨rfl, rfl⟩ := f_3
  have hP : va_P D vwCl [(q11, .inl (cI, 24, .inl (jl [t0, t1, t2, t3, t4, t5, t6, t7, t8, t9, t10, t11, t12, t13, t14, t15, t16, t17, t18, t19, t20, t21, t22, t23]))), (mo, .inr (6, [.int 0, .ref q1, .int (nI g), .ref q3, .ref q4, .ref q5, .ref q6, .int pr, .int gr, .int kd, .long w10, .ref q11, .int mk, .long w13, .long w14]))] H := hP
  have hD : va_D A [(q11, .inl (cI, 24, .inl (jl [t0, t1, t2, t3, t4, t5, t6, t7, t8, t9, t10, t11, t12, t13, t14, t15, t16, t17, t18, t19, t20, t21, t22, t23]))), (mo, .inr (6, [.int 0, .ref q1, .int (nI g), .ref q3, .ref q4, .ref q5, .ref q6, .int pr, .int gr, .int kd, .long w10, .ref q11, .int mk, .long w13, .long w14]))] := hD
  refine lv_if_eq (tgt := 22) hx hb dX6_kind_18 (by decide) (fun c_4 => ?_) (fun c_4 => absurd c_4 (by decide))
  refine lv_aload_n hx hb dX6_kind_22 rfl (lv_at hl 0 rfl) ?_
  refine lv_iload_n hx hb dX6_kind_23 rfl (lv_at hl 1 rfl) ?_
  refine va_put (D := D) (ci := 6) (v := .int x) (ty := .int) (C := RX6) (T := TX6) (N := 15) hx hb hts (by decide +kernel) tyX6 tyX6_ok nmX6 hown hK hP hD hS 1 rfl rfl 9 (by decide) (hts (.fieldLink RX6 60 "JoinDeskModel" "kind" "I") (by decide +kernel)) (fun _ h9 => h9) rfl (by decide +kernel) rfl rfl (Nat.le_of_ble_eq_true rfl) dX6_kind_24 (fun H locs hP hD hS => ?_)
  have hP : va_P D vwCl [(q11, .inl (cI, 24, .inl (jl [t0, t1, t2, t3, t4, t5, t6, t7, t8, t9, t10, t11, t12, t13, t14, t15, t16, t17, t18, t19, t20, t21, t22, t23]))), (mo, .inr (6, [.int 0, .ref q1, .int (nI g), .ref q3, .ref q4, .ref q5, .ref q6, .int pr, .int gr, .int x, .long w10, .ref q11, .int mk, .long w13, .long w14]))] H := hP
  have hD : va_D A [(q11, .inl (cI, 24, .inl (jl [t0, t1, t2, t3, t4, t5, t6, t7, t8, t9, t10, t11, t12, t13, t14, t15, t16, t17, t18, t19, t20, t21, t22, t23]))), (mo, .inr (6, [.int 0, .ref q1, .int (nI g), .ref q3, .ref q4, .ref q5, .ref q6, .int pr, .int gr, .int x, .long w10, .ref q11, .int mk, .long w13, .long w14]))] := hD
  refine lv_aload_n hx hb dX6_kind_27 rfl (lv_at hl 0 rfl) ?_
  refine jw_v (wr := []) (va_runV (As := []) (rest := []) ⟨hx, hb, hml, hown, hts⟩ (gM_begins l D cI cL cQ mo g q1 q3 q4 q5 q6 q11 0 pr gr x mk w10 w13 w14 t0 t1 t2 t3 t4 t5 t6 t7 t8 t9 t10 t11 t12 t13 t14 t15 t16 t17 t18 t19 t20 t21 t22 t23 _) (cwV 0 hts gX6_kind_X6_begins rfl rfl rfl (by decide +kernel) ⟨Nat.le_of_ble_eq_true rfl, Nat.le_of_ble_eq_true rfl⟩) (jw_V hK hN hP hD [1, 0] (by decide) rfl 6 1 rfl rfl rfl) rfl rfl hl.1 rfl (lv_room (Nat.le_of_ble_eq_true rfl)) dX6_kind_28 ⟨Nat.le_of_ble_eq_true rfl, Nat.le_of_ble_eq_true rfl⟩) hP hD hS hA [1, 0] [] rfl rfl (by decide) (by decide) (fun u H locs f_5 hP hD hS => ?_)
  obtain rfl := f_5
  have hP : va_P D vwCl [(mo, .inr (6, [.int 0, .ref q1, .int (nI g), .ref q3, .ref q4, .ref q5, .ref q6, .int pr, .int gr, .int x, .long w10, .ref q11, .int mk, .long w13, .long w14])), (q11, .inl (cI, 24, .inl (jl [0, 0, 0, 0, 0, 0, 0, 0, 0, 0, 0, 0, t12, t13, t14, t15, t16, t17, t18, t19, t20, t21, t22, t23])))] H := hP
  have hD : va_D A [(mo, .inr (6, [.int 0, .ref q1, .int (nI g), .ref q3, .ref q4, .ref q5, .ref q6, .int pr, .int gr, .int x, .long w10, .ref q11, .int mk, .long w13, .long w14])), (q11, .inl (cI, 24, .inl (jl [0, 0, 0, 0, 0, 0, 0, 0, 0, 0, 0, 0, t12, t13, t14, t15, t16, t17, t18, t19, t20, t21, t22, t23])))] := hD
  refine lv_aload_n hx hb dX6_kind_31 rfl (lv_at hl 0 rfl) ?_
  refine lv_lconst (v := 0) hx hb dX6_kind_32 (by decide) ?_
  refine va_put (D := D) (ci := 6) (v := .long 0) (ty := .long) (C := RX6) (T := TX6) (N := 15) hx hb hts (by decide +kernel) tyX6 tyX6_ok nmX6 hown hK hP hD hS 0 rfl rfl 10 (by decide) (hts (.fieldLink RX6 53 "JoinDeskModel" "cells" "J") (by decide +kernel)) (fun _ h9 => h9) rfl (by decide +kernel) rfl rfl (Nat.le_of_ble_eq_true rfl) dX6_kind_33 (fun H locs hP hD hS => ?_)
  have hP : va_P D vwCl [(mo, .inr (6, [.int 0, .ref q1, .int (nI g), .ref q3, .ref q4, .ref q5, .ref q6, .int pr, .int gr, .int x, .long 0, .ref q11, .int mk, .long w13, .long w14])), (q11, .inl (cI, 24, .inl (jl [0, 0, 0, 0, 0, 0, 0, 0, 0, 0, 0, 0, t12, t13, t14, t15, t16, t17, t18, t19, t20, t21, t22, t23])))] H := hP
  have hD : va_D A [(mo, .inr (6, [.int 0, .ref q1, .int (nI g), .ref q3, .ref q4, .ref q5, .ref q6, .int pr, .int gr, .int x, .long 0, .ref q11, .int mk, .long w13, .long w14])), (q11, .inl (cI, 24, .inl (jl [0, 0, 0, 0, 0, 0, 0, 0, 0, 0, 0, 0, t12, t13, t14, t15, t16, t17, t18, t19, t20, t21, t22, t23])))] := hD
  refine lv_aload_n hx hb dX6_kind_36 rfl (lv_at hl 0 rfl) ?_
  refine lv_iconst (v := 0) hx hb dX6_kind_37 (by decide) ?_
  refine va_put (D := D) (ci := 6) (v := .int 0) (ty := .boolean) (C := RX6) (T := TX6) (N := 15) hx hb hts (by decide +kernel) tyX6 tyX6_ok nmX6 hown hK hP hD hS 0 rfl rfl 12 (by decide) (hts (.fieldLink RX6 57 "JoinDeskModel" "marked" "Z") (by decide +kernel)) (fun _ h9 => h9) rfl (by decide +kernel) rfl rfl (Nat.le_of_ble_eq_true rfl) dX6_kind_38 (fun H locs hP hD hS => ?_)
  have hP : va_P D vwCl [(mo, .inr (6, [.int 0, .ref q1, .int (nI g), .ref q3, .ref q4, .ref q5, .ref q6, .int pr, .int gr, .int x, .long 0, .ref q11, .int 0, .long w13, .long w14])), (q11, .inl (cI, 24, .inl (jl [0, 0, 0, 0, 0, 0, 0, 0, 0, 0, 0, 0, t12, t13, t14, t15, t16, t17, t18, t19, t20, t21, t22, t23])))] H := hP
  have hD : va_D A [(mo, .inr (6, [.int 0, .ref q1, .int (nI g), .ref q3, .ref q4, .ref q5, .ref q6, .int pr, .int gr, .int x, .long 0, .ref q11, .int 0, .long w13, .long w14])), (q11, .inl (cI, 24, .inl (jl [0, 0, 0, 0, 0, 0, 0, 0, 0, 0, 0, 0, t12, t13, t14, t15, t16, t17, t18, t19, t20, t21, t22, t23])))] := hD
  refine W.widen (k := 0) (n := 0) (by omega) (by omega) ?_
  exact W.vret hx hb hr (fun t ht hW => ⟨⟨[(mo, .inr (6, [.int 0, .ref q1, .int (nI g), .ref q3, .ref q4, .ref q5, .ref q6, .int pr, .int gr, .int x, .long 0, .ref q11, .int 0, .long w13, .long w14])), (q11, .inl (cI, 24, .inl (jl [0, 0, 0, 0, 0, 0, 0, 0, 0, 0, 0, 0, t12, t13, t14, t15, t16, t17, t18, t19, t20, t21, t22, t23])))], rfl, (by exact rfl), by rw [ht]; exact hP, hD⟩, hS.F ht⟩) hS.2.2 dX6_kind_41
set_option maxHeartbeats 1000000 in
set_option maxRecDepth 100000 in
theorem gM_kind_t (l : Launch) (D : va_G) (cI cL cQ : ClassId) (mo : Nat) (g : Nat) (q1 : Nat) (q3 : Nat) (q4 : Nat) (q5 : Nat) (q6 : Nat) (q11 : Nat) (z0 : Int32) (pr : Int32) (gr : Int32) (kd : Int32) (mk : Int32) (w10 : Int64) (w13 : Int64) (w14 : Int64) (x : Int32) (sz : Nat) (h1 : x < 0 ∨ 3 < x) : Met l yX6_kind wsX6_kind ({ frames := 1, cells := 0, slots := 0, locals := 21 }) (jw_P D vwCl (jT cI cL cQ) cL cQ [.ref mo, .int x] [(mo, .inr (6, [.int z0, .ref q1, .int (nI g), .ref q3, .ref q4, .ref q5, .ref q6, .int pr, .int gr, .int kd, .long w10, .ref q11, .int mk, .long w13, .long w14]))] sz) (va_Qv (fun u : va_W => u = [(mo, .inr (6, [.int 1, .ref q1, .int (nI g), .ref q3, .ref q4, .ref q5, .ref q6, .int pr, .int gr, .int kd, .long w10, .ref q11, .int mk, .long w13, .long w14]))]) (jw_B D vwCl (va_A [(mo, .inr (6, [.int z0, .ref q1, .int (nI g), .ref q3, .ref q4, .ref q5, .ref q6, .int pr, .int gr, .int kd, .long w10, .ref q11, .int mk, .long w13, .long w14]))] sz) (fun u : va_W => u)) (va_A [(mo, .inr (6, [.int z0, .ref q1, .int (nI g), .ref q3, .ref q4, .ref q5, .ref q6, .int pr, .int gr, .int kd, .long w10, .ref q11, .int mk, .long w13, .long w14]))] sz)) 0 0 (va_A [(mo, .inr (6, [.int z0, .ref q1, .int (nI g), .ref q3, .ref q4, .ref q5, .ref q6, .int pr, .int gr, .int kd, .long w10, .ref q11, .int mk, .long w13, .long w14]))] sz) := by
  refine Met.ofW (cc := cX6_kind) (maxL := 2) (ret := none) (by decide) rfl ?_
  intro p e s m args below meth c s₁ B hml hv
  obtain ⟨rfl, hsz, hP, hK, hN, hD0⟩ := hv
  have hx := B.exec
  have hb := B.bytes
  have hr := B.returns
  have hts := atoms_spec (ws := wsX6_kind) B.pre
  have hown : s.vm.findClass RX6 = some m.cls := findClass_of_methodNamed B.named
  have hlocks := B.notSynchronized
  subst hsz
  have hD := hD0.self (sz := s.heap.size)
  generalize hAe : va_A [(mo, .inr (6, [.int z0, .ref q1, .int (nI g), .ref q3, .ref q4, .ref q5, .ref q6, .int pr, .int gr, .int kd, .long w10, .ref q11, .int mk, .long w13, .long w14]))] s.heap.size = A at hD ⊢
  have hA : ∀ q : Nat, s.heap.size ≤ q → A q := fun q h => by rw [← hAe]; exact Or.inr h
  have hS : va_S A s.heap s.heap [] := va_S.rf
  have hl := lv_entry ([.ref mo, .int x]) (n := 2) (Nat.le_of_ble_eq_true rfl)
  rw [lg_entry_eq]
  generalize (lg_sl ([.ref mo, .int x]) ++ List.replicate (2 - (lg_sl ([.ref mo, .int x])).length) Slot.unset).toArray = ls at hl ⊢
  have hl : lv_has ls 2 [(0, .ref mo), (1, .int x)] := hl
  refine lv_aload_n hx hb dX6_kind_0 rfl (lv_at hl 0 rfl) ?_
  refine lv_iload_n hx hb dX6_kind_1 rfl (lv_at hl 1 rfl) ?_
  refine lv_if_lt (tgt := 10) hx hb dX6_kind_2 (by decide) (fun c_1 => ?_) (fun c_1 => ?_)
  · refine lv_iconst (v := 1) hx hb dX6_kind_10 (by decide) ?_
    refine lv_goto (tgt := 15) hx hb dX6_kind_11 (by decide) ?_
    refine jw_i (wr := []) (va_runV (As := [.int 1]) (rest := []) ⟨hx, hb, hml, hown, hts⟩ (gM_refuses_1 l D cI cL cQ mo g q1 q3 q4 q5 q6 q11 z0 pr gr kd mk w10 w13 w14 _) (cwV 1 hts gX6_kind_X6_refuses rfl rfl rfl (by decide +kernel) ⟨Nat.le_of_ble_eq_true rfl, Nat.le_of_ble_eq_true rfl⟩) (jw_V hK hN hP hD [0] (by decide) rfl 6 0 rfl rfl rfl) rfl rfl hl.1 rfl (lv_room (Nat.le_of_ble_eq_true rfl)) dX6_kind_15 ⟨Nat.le_of_ble_eq_true rfl, Nat.le_of_ble_eq_true rfl⟩) hP hD hS hA [0] [] rfl rfl (by decide) (by decide) (fun r u H locs f_2 hP hD hS => ?_)
    obtain ⟨rfl, rfl⟩ := f_2
    have hP : va_P D vwCl [(mo, .inr (6, [.int 1, .ref q1, .int (nI g), .ref q3, .ref q4, .ref q5, .ref q6, .int pr, .int gr, .int kd, .long w10, .ref q11, .int mk, .long w13, .long w14]))] H := hP
    have hD : va_D A [(mo, .inr (6, [.int 1, .ref q1, .int (nI g), .ref q3, .ref q4, .ref q5, .ref q6, .int pr, .int gr, .int kd, .long w10, .ref q11, .int mk, .long w13, .long w14]))] := hD
    refine lv_if_eq (tgt := 22) hx hb dX6_kind_18 (by decide) (fun c_3 => absurd c_3 (by decide)) (fun c_3 => ?_)
    refine W.widen (k := 0) (n := 0) (by omega) (by omega) ?_
    exact W.vret hx hb hr (fun t ht hW => ⟨⟨[(mo, .inr (6, [.int 1, .ref q1, .int (nI g), .ref q3, .ref q4, .ref q5, .ref q6, .int pr, .int gr, .int kd, .long w10, .ref q11, .int mk, .long w13, .long w14]))], rfl, (by exact rfl), by rw [ht]; exact hP, hD⟩, hS.F ht⟩) hS.2.2 dX6_kind_21
  · refine lv_iload_n hx hb dX6_kind_5 rfl (lv_at hl 1 rfl) ?_
    refine lv_iconst (v := 3) hx hb dX6_kind_6 (by decide) ?_
    refine lv_icmp_le (tgt := 14) hx hb dX6_kind_7 (by decide) (fun c_4 => absurd c_4 (by exact j_nle (h1.resolve_left (by assumption)))) (fun c_4 => ?_)
    refine lv_iconst (v := 1) hx hb dX6_kind_10 (by decide) ?_
    refine lv_goto (tgt := 15) hx hb dX6_kind_11 (by decide) ?_
    refine jw_i (wr := []) (va_runV (As := [.int 1]) (rest := []) ⟨hx, hb, hml, hown, hts⟩ (gM_refuses_1 l D cI cL cQ mo g q1 q3 q4 q5 q6 q11 z0 pr gr kd mk w10 w13 w14 _) (cwV 1 hts gX6_kind_X6_refuses rfl rfl rfl (by decide +kernel) ⟨Nat.le_of_ble_eq_true rfl, Nat.le_of_ble_eq_true rfl⟩) (jw_V hK hN hP hD [0] (by decide) rfl 6 0 rfl rfl rfl) rfl rfl hl.1 rfl (lv_room (Nat.le_of_ble_eq_true rfl)) dX6_kind_15 ⟨Nat.le_of_ble_eq_true rfl, Nat.le_of_ble_eq_true rfl⟩) hP hD hS hA [0] [] rfl rfl (by decide) (by decide) (fun r u H locs f_5 hP hD hS => ?_)
    obtain ⟨rfl, rfl⟩ := f_5
    have hP : va_P D vwCl [(mo, .inr (6, [.int 1, .ref q1, .int (nI g), .ref q3, .ref q4, .ref q5, .ref q6, .int pr, .int gr, .int kd, .long w10, .ref q11, .int mk, .long w13, .long w14]))] H := hP
    have hD : va_D A [(mo, .inr (6, [.int 1, .ref q1, .int (nI g), .ref q3, .ref q4, .ref q5, .ref q6, .int pr, .int gr, .int kd, .long w10, .ref q11, .int mk, .long w13, .long w14]))] := hD
    refine lv_if_eq (tgt := 22) hx hb dX6_kind_18 (by decide) (fun c_6 => absurd c_6 (by decide)) (fun c_6 => ?_)
    refine W.widen (k := 0) (n := 0) (by omega) (by omega) ?_
    exact W.vret hx hb hr (fun t ht hW => ⟨⟨[(mo, .inr (6, [.int 1, .ref q1, .int (nI g), .ref q3, .ref q4, .ref q5, .ref q6, .int pr, .int gr, .int kd, .long w10, .ref q11, .int mk, .long w13, .long w14]))], rfl, (by exact rfl), by rw [ht]; exact hP, hD⟩, hS.F ht⟩) hS.2.2 dX6_kind_21
set_option maxHeartbeats 1000000 in
set_option maxRecDepth 100000 in
theorem gM_next_t (l : Launch) (D : va_G) (cI cL cQ : ClassId) (mo : Nat) (g : Nat) (q1 : Nat) (q3 : Nat) (q4 : Nat) (q5 : Nat) (q6 : Nat) (q11 : Nat) (z0 : Int32) (gr : Int32) (kd : Int32) (mk : Int32) (w10 : Int64) (w13 : Int64) (w14 : Int64) (sz : Nat) : Met l yX6_next wsX6_next ({ frames := 1, cells := 0, slots := 0, locals := 21 }) (jw_P D vwCl (jT cI cL cQ) cL cQ [.ref mo] [(mo, .inr (6, [.int z0, .ref q1, .int (nI g), .ref q3, .ref q4, .ref q5, .ref q6, .int 0, .int gr, .int kd, .long w10, .ref q11, .int mk, .long w13, .long w14]))] sz) (va_Qi (fun (r : Int32) (u : va_W) => r = 0 ∧ u = [(mo, .inr (6, [.int 1, .ref q1, .int (nI g), .ref q3, .ref q4, .ref q5, .ref q6, .int 0, .int gr, .int kd, .long w10, .ref q11, .int mk, .long w13, .long w14]))]) (jw_B D vwCl (va_A [(mo, .inr (6, [.int z0, .ref q1, .int (nI g), .ref q3, .ref q4, .ref q5, .ref q6, .int 0, .int gr, .int kd, .long w10, .ref q11, .int mk, .long w13, .long w14]))] sz) (fun u : va_W => u)) (va_A [(mo, .inr (6, [.int z0, .ref q1, .int (nI g), .ref q3, .ref q4, .ref q5, .ref q6, .int 0, .int gr, .int kd, .long w10, .ref q11, .int mk, .long w13, .long w14]))] sz)) 0 0 (va_A [(mo, .inr (6, [.int z0, .ref q1, .int (nI g), .ref q3, .ref q4, .ref q5, .ref q6, .int 0, .int gr, .int kd, .long w10, .ref q11, .int mk, .long w13, .long w14]))] sz) := by
  refine Met.ofW (cc := cX6_next) (maxL := 5) (ret := (some .boolean)) (by decide) rfl ?_
  intro p e s m args below meth c s₁ B hml hv
  obtain ⟨rfl, hsz, hP, hK, hN, hD0⟩ := hv
  have hx := B.exec
  have hb := B.bytes
  have hr := B.returns
  have hts := atoms_spec (ws := wsX6_next) B.pre
  have hown : s.vm.findClass RX6 = some m.cls := findClass_of_methodNamed B.named
  have hlocks := B.notSynchronized
  subst hsz
  have hD := hD0.self (sz := s.heap.size)
  generalize hAe : va_A [(mo, .inr (6, [.int z0, .ref q1, .int (nI g), .ref q3, .ref q4, .ref q5, .ref q6, .int 0, .int gr, .int kd, .long w10, .ref q11, .int mk, .long w13, .long w14]))] s.heap.size = A at hD ⊢
  have hA : ∀ q : Nat, s.heap.size ≤ q → A q := fun q h => by rw [← hAe]; exact Or.inr h
  have hS : va_S A s.heap s.heap [] := va_S.rf
  have hl := lv_entry ([.ref mo]) (n := 5) (Nat.le_of_ble_eq_true rfl)
  rw [lg_entry_eq]
  generalize (lg_sl ([.ref mo]) ++ List.replicate (5 - (lg_sl ([.ref mo])).length) Slot.unset).toArray = ls at hl ⊢
  have hl : lv_has ls 5 [(0, .ref mo)] := hl
  refine lv_aload_n hx hb dX6_next_0 rfl (lv_at hl 0 rfl) ?_
  refine lv_aload_n hx hb dX6_next_1 rfl (lv_at hl 0 rfl) ?_
  refine va_get (D := D) (ci := 6) (v := .int 0) (C := RX6) (T := TX6) (N := 15) hx hb hts (by decide +kernel) hown hK hP 0 rfl rfl 7 (by decide) (hts (.fieldLink RX6 43 "JoinDeskModel" "prepared" "Z") (by decide +kernel)) (fun _ h9 => h9) rfl dX6_next_2 ?_
  refine lv_if_eq (tgt := 12) hx hb dX6_next_5 (by decide) (fun c_1 => ?_) (fun c_1 => absurd c_1 (by decide))
  refine lv_iconst (v := 1) hx hb dX6_next_12 (by decide) ?_
  refine jw_i (wr := []) (va_runV (As := [.int 1]) (rest := []) ⟨hx, hb, hml, hown, hts⟩ (gM_refuses_1 l D cI cL cQ mo g q1 q3 q4 q5 q6 q11 z0 0 gr kd mk w10 w13 w14 _) (cwV 1 hts gX6_next_X6_refuses rfl rfl rfl (by decide +kernel) ⟨Nat.le_of_ble_eq_true rfl, Nat.le_of_ble_eq_true rfl⟩) (jw_V hK hN hP hD [0] (by decide) rfl 6 0 rfl rfl rfl) rfl rfl hl.1 rfl (lv_room (Nat.le_of_ble_eq_true rfl)) dX6_next_13 ⟨Nat.le_of_ble_eq_true rfl, Nat.le_of_ble_eq_true rfl⟩) hP hD hS hA [0] [] rfl rfl (by decide) (by decide) (fun r u H locs f_2 hP hD hS => ?_)
  obtain ⟨rfl, rfl⟩ := f_2
  have hP : va_P D vwCl [(mo, .inr (6, [.int 1, .ref q1, .int (nI g), .ref q3, .ref q4, .ref q5, .ref q6, .int 0, .int gr, .int kd, .long w10, .ref q11, .int mk, .long w13, .long w14]))] H := hP
  have hD : va_D A [(mo, .inr (6, [.int 1, .ref q1, .int (nI g), .ref q3, .ref q4, .ref q5, .ref q6, .int 0, .int gr, .int kd, .long w10, .ref q11, .int mk, .long w13, .long w14]))] := hD
  refine lv_if_eq (tgt := 21) hx hb dX6_next_16 (by decide) (fun c_3 => absurd c_3 (by decide)) (fun c_3 => ?_)
  refine lv_iconst (v := 0) hx hb dX6_next_19 (by decide) ?_
  refine W.widen (k := 0) (n := 0) (by omega) (by omega) ?_
  exact W.zret (v := 0) (ty := .boolean) hx hb hr rfl (fun t ht hW => ⟨⟨0, [(mo, .inr (6, [.int 1, .ref q1, .int (nI g), .ref q3, .ref q4, .ref q5, .ref q6, .int 0, .int gr, .int kd, .long w10, .ref q11, .int mk, .long w13, .long w14]))], rfl, (by exact ⟨rfl, rfl⟩), by rw [ht]; exact hP, hD⟩, hS.F ht⟩) hS.2.2 dX6_next_20
set_option maxHeartbeats 1000000 in
set_option maxRecDepth 100000 in
theorem gM_mark_t (l : Launch) (D : va_G) (cI cL cQ : ClassId) (mo : Nat) (g : Nat) (q1 : Nat) (q3 : Nat) (q4 : Nat) (q5 : Nat) (q6 : Nat) (q11 : Nat) (z0 : Int32) (gr : Int32) (kd : Int32) (mk : Int32) (w10 : Int64) (w13 : Int64) (w14 : Int64) (sz : Nat) : Met l yX6_mark wsX6_mark ({ frames := 1, cells := 0, slots := 0, locals := 21 }) (jw_P D vwCl (jT cI cL cQ) cL cQ [.ref mo] [(mo, .inr (6, [.int z0, .ref q1, .int (nI g), .ref q3, .ref q4, .ref q5, .ref q6, .int 0, .int gr, .int kd, .long w10, .ref q11, .int mk, .long w13, .long w14]))] sz) (va_Qi (fun (r : Int32) (u : va_W) => r = 0 ∧ u = [(mo, .inr (6, [.int 1, .ref q1, .int (nI g), .ref q3, .ref q4, .ref q5, .ref q6, .int 0, .int gr, .int kd, .long w10, .ref q11, .int mk, .long w13, .long w14]))]) (jw_B D vwCl (va_A [(mo, .inr (6, [.int z0, .ref q1, .int (nI g), .ref q3, .ref q4, .ref q5, .ref q6, .int 0, .int gr, .int kd, .long w10, .ref q11, .int mk, .long w13, .long w14]))] sz) (fun u : va_W => u)) (va_A [(mo, .inr (6, [.int z0, .ref q1, .int (nI g), .ref q3, .ref q4, .ref q5, .ref q6, .int 0, .int gr, .int kd, .long w10, .ref q11, .int mk, .long w13, .long w14]))] sz)) 0 0 (va_A [(mo, .inr (6, [.int z0, .ref q1, .int (nI g), .ref q3, .ref q4, .ref q5, .ref q6, .int 0, .int gr, .int kd, .long w10, .ref q11, .int mk, .long w13, .long w14]))] sz) := by
  refine Met.ofW (cc := cX6_mark) (maxL := 2) (ret := (some .int)) (by decide) rfl ?_
  intro p e s m args below meth c s₁ B hml hv
  obtain ⟨rfl, hsz, hP, hK, hN, hD0⟩ := hv
  have hx := B.exec
  have hb := B.bytes
  have hr := B.returns
  have hts := atoms_spec (ws := wsX6_mark) B.pre
  have hown : s.vm.findClass RX6 = some m.cls := findClass_of_methodNamed B.named
  have hlocks := B.notSynchronized
  subst hsz
  have hD := hD0.self (sz := s.heap.size)
  generalize hAe : va_A [(mo, .inr (6, [.int z0, .ref q1, .int (nI g), .ref q3, .ref q4, .ref q5, .ref q6, .int 0, .int gr, .int kd, .long w10, .ref q11, .int mk, .long w13, .long w14]))] s.heap.size = A at hD ⊢
  have hA : ∀ q : Nat, s.heap.size ≤ q → A q := fun q h => by rw [← hAe]; exact Or.inr h
  have hS : va_S A s.heap s.heap [] := va_S.rf
  have hl := lv_entry ([.ref mo]) (n := 2) (Nat.le_of_ble_eq_true rfl)
  rw [lg_entry_eq]
  generalize (lg_sl ([.ref mo]) ++ List.replicate (2 - (lg_sl ([.ref mo])).length) Slot.unset).toArray = ls at hl ⊢
  have hl : lv_has ls 2 [(0, .ref mo)] := hl
  refine lv_aload_n hx hb dX6_mark_0 rfl (lv_at hl 0 rfl) ?_
  refine lv_aload_n hx hb dX6_mark_1 rfl (lv_at hl 0 rfl) ?_
  refine va_get (D := D) (ci := 6) (v := .int 0) (C := RX6) (T := TX6) (N := 15) hx hb hts (by decide +kernel) hown hK hP 0 rfl rfl 7 (by decide) (hts (.fieldLink RX6 43 "JoinDeskModel" "prepared" "Z") (by decide +kernel)) (fun _ h9 => h9) rfl dX6_mark_2 ?_
  refine lv_if_eq (tgt := 12) hx hb dX6_mark_5 (by decide) (fun c_1 => ?_) (fun c_1 => absurd c_1 (by decide))
  refine lv_iconst (v := 1) hx hb dX6_mark_12 (by decide) ?_
  refine jw_i (wr := []) (va_runV (As := [.int 1]) (rest := []) ⟨hx, hb, hml, hown, hts⟩ (gM_refuses_1 l D cI cL cQ mo g q1 q3 q4 q5 q6 q11 z0 0 gr kd mk w10 w13 w14 _) (cwV 1 hts gX6_mark_X6_refuses rfl rfl rfl (by decide +kernel) ⟨Nat.le_of_ble_eq_true rfl, Nat.le_of_ble_eq_true rfl⟩) (jw_V hK hN hP hD [0] (by decide) rfl 6 0 rfl rfl rfl) rfl rfl hl.1 rfl (lv_room (Nat.le_of_ble_eq_true rfl)) dX6_mark_13 ⟨Nat.le_of_ble_eq_true rfl, Nat.le_of_ble_eq_true rfl⟩) hP hD hS hA [0] [] rfl rfl (by decide) (by decide) (fun r u H locs f_2 hP hD hS => ?_)
  obtain ⟨rfl, rfl⟩ := f_2
  have hP : va_P D vwCl [(mo, .inr (6, [.int 1, .ref q1, .int (nI g), .ref q3, .ref q4, .ref q5, .ref q6, .int 0, .int gr, .int kd, .long w10, .ref q11, .int mk, .long w13, .long w14]))] H := hP
  have hD : va_D A [(mo, .inr (6, [.int 1, .ref q1, .int (nI g), .ref q3, .ref q4, .ref q5, .ref q6, .int 0, .int gr, .int kd, .long w10, .ref q11, .int mk, .long w13, .long w14]))] := hD
  refine lv_if_eq (tgt := 21) hx hb dX6_mark_16 (by decide) (fun c_3 => absurd c_3 (by decide)) (fun c_3 => ?_)
  refine lv_iconst (v := 0) hx hb dX6_mark_19 (by decide) ?_
  refine W.widen (k := 0) (n := 0) (by omega) (by omega) ?_
  exact W.iret (v := 0) hx hb hr (fun t ht hW => ⟨⟨0, [(mo, .inr (6, [.int 1, .ref q1, .int (nI g), .ref q3, .ref q4, .ref q5, .ref q6, .int 0, .int gr, .int kd, .long w10, .ref q11, .int mk, .long w13, .long w14]))], rfl, (by exact ⟨rfl, rfl⟩), by rw [ht]; exact hP, hD⟩, hS.F ht⟩) hS.2.2 dX6_mark_20
set_option maxHeartbeats 1000000 in
set_option maxRecDepth 100000 in
theorem gM_back_t (l : Launch) (D : va_G) (cI cL cQ : ClassId) (mo : Nat) (g : Nat) (q1 : Nat) (q3 : Nat) (q4 : Nat) (q5 : Nat) (q6 : Nat) (q11 : Nat) (z0 : Int32) (gr : Int32) (kd : Int32) (mk : Int32) (w10 : Int64) (w13 : Int64) (w14 : Int64) (sz : Nat) : Met l yX6_back wsX6_back ({ frames := 1, cells := 0, slots := 0, locals := 21 }) (jw_P D vwCl (jT cI cL cQ) cL cQ [.ref mo] [(mo, .inr (6, [.int z0, .ref q1, .int (nI g), .ref q3, .ref q4, .ref q5, .ref q6, .int 0, .int gr, .int kd, .long w10, .ref q11, .int mk, .long w13, .long w14]))] sz) (va_Qi (fun (r : Int32) (u : va_W) => r = 0 ∧ u = [(mo, .inr (6, [.int 1, .ref q1, .int (nI g), .ref q3, .ref q4, .ref q5, .ref q6, .int 0, .int gr, .int kd, .long w10, .ref q11, .int mk, .long w13, .long w14]))]) (jw_B D vwCl (va_A [(mo, .inr (6, [.int z0, .ref q1, .int (nI g), .ref q3, .ref q4, .ref q5, .ref q6, .int 0, .int gr, .int kd, .long w10, .ref q11, .int mk, .long w13, .long w14]))] sz) (fun u : va_W => u)) (va_A [(mo, .inr (6, [.int z0, .ref q1, .int (nI g), .ref q3, .ref q4, .ref q5, .ref q6, .int 0, .int gr, .int kd, .long w10, .ref q11, .int mk, .long w13, .long w14]))] sz)) 0 0 (va_A [(mo, .inr (6, [.int z0, .ref q1, .int (nI g), .ref q3, .ref q4, .ref q5, .ref q6, .int 0, .int gr, .int kd, .long w10, .ref q11, .int mk, .long w13, .long w14]))] sz) := by
  refine Met.ofW (cc := cX6_back) (maxL := 2) (ret := (some .int)) (by decide) rfl ?_
  intro p e s m args below meth c s₁ B hml hv
  obtain ⟨rfl, hsz, hP, hK, hN, hD0⟩ := hv
  have hx := B.exec
  have hb := B.bytes
  have hr := B.returns
  have hts := atoms_spec (ws := wsX6_back) B.pre
  have hown : s.vm.findClass RX6 = some m.cls := findClass_of_methodNamed B.named
  have hlocks := B.notSynchronized
  subst hsz
  have hD := hD0.self (sz := s.heap.size)
  generalize hAe : va_A [(mo, .inr (6, [.int z0, .ref q1, .int (nI g), .ref q3, .ref q4, .ref q5, .ref q6, .int 0, .int gr, .int kd, .long w10, .ref q11, .int mk, .long w13, .long w14]))] s.heap.size = A at hD ⊢
  have hA : ∀ q : Nat, s.heap.size ≤ q → A q := fun q h => by rw [← hAe]; exact Or.inr h
  have hS : va_S A s.heap s.heap [] := va_S.rf
  have hl := lv_entry ([.ref mo]) (n := 2) (Nat.le_of_ble_eq_true rfl)
  rw [lg_entry_eq]
  generalize (lg_sl ([.ref mo]) ++ List.replicate (2 - (lg_sl ([.ref mo])).length) Slot.unset).toArray = ls at hl ⊢
  have hl : lv_has ls 2 [(0, .ref mo)] := hl
  refine lv_aload_n hx hb dX6_back_0 rfl (lv_at hl 0 rfl) ?_
  refine lv_aload_n hx hb dX6_back_1 rfl (lv_at hl 0 rfl) ?_
  refine va_get (D := D) (ci := 6) (v := .int 0) (C := RX6) (T := TX6) (N := 15) hx hb hts (by decide +kernel) hown hK hP 0 rfl rfl 7 (by decide) (hts (.fieldLink RX6 43 "JoinDeskModel" "prepared" "Z") (by decide +kernel)) (fun _ h9 => h9) rfl dX6_back_2 ?_
  refine lv_if_eq (tgt := 19) hx hb dX6_back_5 (by decide) (fun c_1 => ?_) (fun c_1 => absurd c_1 (by decide))
  refine lv_iconst (v := 1) hx hb dX6_back_19 (by decide) ?_
  refine jw_i (wr := []) (va_runV (As := [.int 1]) (rest := []) ⟨hx, hb, hml, hown, hts⟩ (gM_refuses_1 l D cI cL cQ mo g q1 q3 q4 q5 q6 q11 z0 0 gr kd mk w10 w13 w14 _) (cwV 1 hts gX6_back_X6_refuses rfl rfl rfl (by decide +kernel) ⟨Nat.le_of_ble_eq_true rfl, Nat.le_of_ble_eq_true rfl⟩) (jw_V hK hN hP hD [0] (by decide) rfl 6 0 rfl rfl rfl) rfl rfl hl.1 rfl (lv_room (Nat.le_of_ble_eq_true rfl)) dX6_back_20 ⟨Nat.le_of_ble_eq_true rfl, Nat.le_of_ble_eq_true rfl⟩) hP hD hS hA [0] [] rfl rfl (by decide) (by decide) (fun r u H locs f_2 hP hD hS => ?_)
  obtain ⟨rfl, rfl⟩ := f_2
  have hP : va_P D vwCl [(mo, .inr (6, [.int 1, .ref q1, .int (nI g), .ref q3, .ref q4, .ref q5, .ref q6, .int 0, .int gr, .int kd, .long w10, .ref q11, .int mk, .long w13, .long w14]))] H := hP
  have hD : va_D A [(mo, .inr (6, [.int 1, .ref q1, .int (nI g), .ref q3, .ref q4, .ref q5, .ref q6, .int 0, .int gr, .int kd, .long w10, .ref q11, .int mk, .long w13, .long w14]))] := hD
  refine lv_if_eq (tgt := 28) hx hb dX6_back_23 (by decide) (fun c_3 => absurd c_3 (by decide)) (fun c_3 => ?_)
  refine lv_iconst (v := 0) hx hb dX6_back_26 (by decide) ?_
  refine W.widen (k := 0) (n := 0) (by omega) (by omega) ?_
  exact W.iret (v := 0) hx hb hr (fun t ht hW => ⟨⟨0, [(mo, .inr (6, [.int 1, .ref q1, .int (nI g), .ref q3, .ref q4, .ref q5, .ref q6, .int 0, .int gr, .int kd, .long w10, .ref q11, .int mk, .long w13, .long w14]))], rfl, (by exact ⟨rfl, rfl⟩), by rw [ht]; exact hP, hD⟩, hS.F ht⟩) hS.2.2 dX6_back_27
set_option maxHeartbeats 1000000 in
set_option maxRecDepth 100000 in
theorem gM_seek_t (l : Launch) (D : va_G) (cI cL cQ : ClassId) (mo : Nat) (g : Nat) (q1 : Nat) (q3 : Nat) (q4 : Nat) (q5 : Nat) (q6 : Nat) (q11 : Nat) (z0 : Int32) (gr : Int32) (kd : Int32) (mk : Int32) (w10 : Int64) (w13 : Int64) (w14 : Int64) (x : Int32) (sz : Nat) : Met l yX6_seek wsX6_seek ({ frames := 1, cells := 0, slots := 0, locals := 21 }) (jw_P D vwCl (jT cI cL cQ) cL cQ [.ref mo, .int x] [(mo, .inr (6, [.int z0, .ref q1, .int (nI g), .ref q3, .ref q4, .ref q5, .ref q6, .int 0, .int gr, .int kd, .long w10, .ref q11, .int mk, .long w13, .long w14]))] sz) (va_Qi (fun (r : Int32) (u : va_W) => r = 0 ∧ u = [(mo, .inr (6, [.int 1, .ref q1, .int (nI g), .ref q3, .ref q4, .ref q5, .ref q6, .int 0, .int gr, .int kd, .long w10, .ref q11, .int mk, .long w13, .long w14]))]) (jw_B D vwCl (va_A [(mo, .inr (6, [.int z0, .ref q1, .int (nI g), .ref q3, .ref q4, .ref q5, .ref q6, .int 0, .int gr, .int kd, .long w10, .ref q11, .int mk, .long w13, .long w14]))] sz) (fun u : va_W => u)) (va_A [(mo, .inr (6, [.int z0, .ref q1, .int (nI g), .ref q3, .ref q4, .ref q5, .ref q6, .int 0, .int gr, .int kd, .long w10, .ref q11, .int mk, .long w13, .long w14]))] sz)) 0 0 (va_A [(mo, .inr (6, [.int z0, .ref q1, .int (nI g), .ref q3, .ref q4, .ref q5, .ref q6, .int 0, .int gr, .int kd, .long w10, .ref q11, .int mk, .long w13, .long w14]))] sz) := by
  refine Met.ofW (cc := cX6_seek) (maxL := 6) (ret := (some .boolean)) (by decide) rfl ?_
  intro p e s m args below meth c s₁ B hml hv
  obtain ⟨rfl, hsz, hP, hK, hN, hD0⟩ := hv
  have hx := B.exec
  have hb := B.bytes
  have hr := B.returns
  have hts := atoms_spec (ws := wsX6_seek) B.pre
  have hown : s.vm.findClass RX6 = some m.cls := findClass_of_methodNamed B.named
  have hlocks := B.notSynchronized
  subst hsz
  have hD := hD0.self (sz := s.heap.size)
  generalize hAe : va_A [(mo, .inr (6, [.int z0, .ref q1, .int (nI g), .ref q3, .ref q4, .ref q5, .ref q6, .int 0, .int gr, .int kd, .long w10, .ref q11, .int mk, .long w13, .long w14]))] s.heap.size = A at hD ⊢
  have hA : ∀ q : Nat, s.heap.size ≤ q → A q := fun q h => by rw [← hAe]; exact Or.inr h
  have hS : va_S A s.heap s.heap [] := va_S.rf
  have hl := lv_entry ([.ref mo, .int x]) (n := 6) (Nat.le_of_ble_eq_true rfl)
  rw [lg_entry_eq]
  generalize (lg_sl ([.ref mo, .int x]) ++ List.replicate (6 - (lg_sl ([.ref mo, .int x])).length) Slot.unset).toArray = ls at hl ⊢
  have hl : lv_has ls 6 [(0, .ref mo), (1, .int x)] := hl
  refine lv_aload_n hx hb dX6_seek_0 rfl (lv_at hl 0 rfl) ?_
  refine lv_aload_n hx hb dX6_seek_1 rfl (lv_at hl 0 rfl) ?_
  refine va_get (D := D) (ci := 6) (v := .int 0) (C := RX6) (T := TX6) (N := 15) hx hb hts (by decide +kernel) hown hK hP 0 rfl rfl 7 (by decide) (hts (.fieldLink RX6 43 "JoinDeskModel" "prepared" "Z") (by decide +kernel)) (fun _ h9 => h9) rfl dX6_seek_2 ?_
  refine lv_if_eq (tgt := 12) hx hb dX6_seek_5 (by decide) (fun c_1 => ?_) (fun c_1 => absurd c_1 (by decide))
  refine lv_iconst (v := 1) hx hb dX6_seek_12 (by decide) ?_
  refine jw_i (wr := []) (va_runV (As := [.int 1]) (rest := []) ⟨hx, hb, hml, hown, hts⟩ (gM_refuses_1 l D cI cL cQ mo g q1 q3 q4 q5 q6 q11 z0 0 gr kd mk w10 w13 w14 _) (cwV 1 hts gX6_seek_X6_refuses rfl rfl rfl (by decide +kernel) ⟨Nat.le_of_ble_eq_true rfl, Nat.le_of_ble_eq_true rfl⟩) (jw_V hK hN hP hD [0] (by decide) rfl 6 0 rfl rfl rfl) rfl rfl hl.1 rfl (lv_room (Nat.le_of_ble_eq_true rfl)) dX6_seek_13 ⟨Nat.le_of_ble_eq_true rfl, Nat.le_of_ble_eq_true rfl⟩) hP hD hS hA [0] [] rfl rfl (by decide) (by decide) (fun r u H locs f_2 hP hD hS => ?_)
  obtain ⟨rfl, rfl⟩ := f_2
  have hP : va_P D vwCl [(mo, .inr (6, [.int 1, .ref q1, .int (nI g), .ref q3, .ref q4, .ref q5, .ref q6, .int 0, .int gr, .int kd, .long w10, .ref q11, .int mk, .long w13, .long w14]))] H := hP
  have hD : va_D A [(mo, .inr (6, [.int 1, .ref q1, .int (nI g), .ref q3, .ref q4, .ref q5, .ref q6, .int 0, .int gr, .int kd, .long w10, .ref q11, .int mk, .long w13, .long w14]))] := hD
  refine lv_if_eq (tgt := 21) hx hb dX6_seek_16 (by decide) (fun c_3 => absurd c_3 (by decide)) (fun c_3 => ?_)
  refine lv_iconst (v := 0) hx hb dX6_seek_19 (by decide) ?_
  refine W.widen (k := 0) (n := 0) (by omega) (by omega) ?_
  exact W.zret (v := 0) (ty := .boolean) hx hb hr rfl (fun t ht hW => ⟨⟨0, [(mo, .inr (6, [.int 1, .ref q1, .int (nI g), .ref q3, .ref q4, .ref q5, .ref q6, .int 0, .int gr, .int kd, .long w10, .ref q11, .int mk, .long w13, .long w14]))], rfl, (by exact ⟨rfl, rfl⟩), by rw [ht]; exact hP, hD⟩, hS.F ht⟩) hS.2.2 dX6_seek_20
set_option maxHeartbeats 1000000 in
set_option maxRecDepth 100000 in
theorem gM_groups_t (l : Launch) (D : va_G) (cI cL cQ : ClassId) (mo : Nat) (g : Nat) (q1 : Nat) (q3 : Nat) (q4 : Nat) (q5 : Nat) (q6 : Nat) (q11 : Nat) (z0 : Int32) (gr : Int32) (kd : Int32) (mk : Int32) (w10 : Int64) (w13 : Int64) (w14 : Int64) (sz : Nat) : Met l yX6_groups wsX6_groups ({ frames := 1, cells := 0, slots := 0, locals := 21 }) (jw_P D vwCl (jT cI cL cQ) cL cQ [.ref mo] [(mo, .inr (6, [.int z0, .ref q1, .int (nI g), .ref q3, .ref q4, .ref q5, .ref q6, .int 0, .int gr, .int kd, .long w10, .ref q11, .int mk, .long w13, .long w14]))] sz) (va_Qi (fun (r : Int32) (u : va_W) => r = 0 ∧ u = [(mo, .inr (6, [.int 1, .ref q1, .int (nI g), .ref q3, .ref q4, .ref q5, .ref q6, .int 0, .int gr, .int kd, .long w10, .ref q11, .int mk, .long w13, .long w14]))]) (jw_B D vwCl (va_A [(mo, .inr (6, [.int z0, .ref q1, .int (nI g), .ref q3, .ref q4, .ref q5, .ref q6, .int 0, .int gr, .int kd, .long w10, .ref q11, .int mk, .long w13, .long w14]))] sz) (fun u : va_W => u)) (va_A [(mo, .inr (6, [.int z0, .ref q1, .int (nI g), .ref q3, .ref q4, .ref q5, .ref q6, .int 0, .int gr, .int kd, .long w10, .ref q11, .int mk, .long w13, .long w14]))] sz)) 0 0 (va_A [(mo, .inr (6, [.int z0, .ref q1, .int (nI g), .ref q3, .ref q4, .ref q5, .ref q6, .int 0, .int gr, .int kd, .long w10, .ref q11, .int mk, .long w13, .long w14]))] sz) := by
  refine Met.ofW (cc := cX6_groups) (maxL := 2) (ret := (some .int)) (by decide) rfl ?_
  intro p e s m args below meth c s₁ B hml hv
  obtain ⟨rfl, hsz, hP, hK, hN, hD0⟩ := hv
  have hx := B.exec
  have hb := B.bytes
  have hr := B.returns
  have hts := atoms_spec (ws := wsX6_groups) B.pre
  have hown : s.vm.findClass RX6 = some m.cls := findClass_of_methodNamed B.named
  have hlocks := B.notSynchronized
  subst hsz
  have hD := hD0.self (sz := s.heap.size)
  generalize hAe : va_A [(mo, .inr (6, [.int z0, .ref q1, .int (nI g), .ref q3, .ref q4, .ref q5, .ref q6, .int 0, .int gr, .int kd, .long w10, .ref q11, .int mk, .long w13, .long w14]))] s.heap.size = A at hD ⊢
  have hA : ∀ q : Nat, s.heap.size ≤ q → A q := fun q h => by rw [← hAe]; exact Or.inr h
  have hS : va_S A s.heap s.heap [] := va_S.rf
  have hl := lv_entry ([.ref mo]) (n := 2) (Nat.le_of_ble_eq_true rfl)
  rw [lg_entry_eq]
  generalize (lg_sl ([.ref mo]) ++ List.replicate (2 - (lg_sl ([.ref mo])).length) Slot.unset).toArray = ls at hl ⊢
  have hl : lv_has ls 2 [(0, .ref mo)] := hl
  refine lv_aload_n hx hb dX6_groups_0 rfl (lv_at hl 0 rfl) ?_
  refine lv_aload_n hx hb dX6_groups_1 rfl (lv_at hl 0 rfl) ?_
  refine va_get (D := D) (ci := 6) (v := .int 0) (C := RX6) (T := TX6) (N := 15) hx hb hts (by decide +kernel) hown hK hP 0 rfl rfl 7 (by decide) (hts (.fieldLink RX6 43 "JoinDeskModel" "prepared" "Z") (by decide +kernel)) (fun _ h9 => h9) rfl dX6_groups_2 ?_
  refine lv_if_eq (tgt := 12) hx hb dX6_groups_5 (by decide) (fun c_1 => ?_) (fun c_1 => absurd c_1 (by decide))
  refine lv_iconst (v := 1) hx hb dX6_groups_12 (by decide) ?_
  refine jw_i (wr := []) (va_runV (As := [.int 1]) (rest := []) ⟨hx, hb, hml, hown, hts⟩ (gM_refuses_1 l D cI cL cQ mo g q1 q3 q4 q5 q6 q11 z0 0 gr kd mk w10 w13 w14 _) (cwV 1 hts gX6_groups_X6_refuses rfl rfl rfl (by decide +kernel) ⟨Nat.le_of_ble_eq_true rfl, Nat.le_of_ble_eq_true rfl⟩) (jw_V hK hN hP hD [0] (by decide) rfl 6 0 rfl rfl rfl) rfl rfl hl.1 rfl (lv_room (Nat.le_of_ble_eq_true rfl)) dX6_groups_13 ⟨Nat.le_of_ble_eq_true rfl, Nat.le_of_ble_eq_true rfl⟩) hP hD hS hA [0] [] rfl rfl (by decide) (by decide) (fun r u H locs f_2 hP hD hS => ?_)
  obtain ⟨rfl, rfl⟩ := f_2
  have hP : va_P D vwCl [(mo, .inr (6, [.int 1, .ref q1, .int (nI g), .ref q3, .ref q4, .ref q5, .ref q6, .int 0, .int gr, .int kd, .long w10, .ref q11, .int mk, .long w13, .long w14]))] H := hP
  have hD : va_D A [(mo, .inr (6, [.int 1, .ref q1, .int (nI g), .ref q3, .ref q4, .ref q5, .ref q6, .int 0, .int gr, .int kd, .long w10, .ref q11, .int mk, .long w13, .long w14]))] := hD
  refine lv_if_eq (tgt := 21) hx hb dX6_groups_16 (by decide) (fun c_3 => absurd c_3 (by decide)) (fun c_3 => ?_)
  refine lv_iconst (v := 0) hx hb dX6_groups_19 (by decide) ?_
  refine W.widen (k := 0) (n := 0) (by omega) (by omega) ?_
  exact W.iret (v := 0) hx hb hr (fun t ht hW => ⟨⟨0, [(mo, .inr (6, [.int 1, .ref q1, .int (nI g), .ref q3, .ref q4, .ref q5, .ref q6, .int 0, .int gr, .int kd, .long w10, .ref q11, .int mk, .long w13, .long w14]))], rfl, (by exact ⟨rfl, rfl⟩), by rw [ht]; exact hP, hD⟩, hS.F ht⟩) hS.2.2 dX6_groups_20
set_option maxHeartbeats 1000000 in
set_option maxRecDepth 100000 in
theorem gM_rows_t (l : Launch) (D : va_G) (cI cL cQ : ClassId) (mo : Nat) (g : Nat) (q1 : Nat) (q3 : Nat) (q4 : Nat) (q5 : Nat) (q6 : Nat) (q11 : Nat) (z0 : Int32) (gr : Int32) (kd : Int32) (mk : Int32) (w10 : Int64) (w13 : Int64) (w14 : Int64) (x : Int32) (y : Int32) (sz : Nat) : Met l yX6_rows wsX6_rows ({ frames := 1, cells := 0, slots := 0, locals := 21 }) (jw_P D vwCl (jT cI cL cQ) cL cQ [.ref mo, .int x, .int y] [(mo, .inr (6, [.int z0, .ref q1, .int (nI g), .ref q3, .ref q4, .ref q5, .ref q6, .int 0, .int gr, .int kd, .long w10, .ref q11, .int mk, .long w13, .long w14]))] sz) (va_Qi (fun (r : Int32) (u : va_W) => r = 0 ∧ u = [(mo, .inr (6, [.int 1, .ref q1, .int (nI g), .ref q3, .ref q4, .ref q5, .ref q6, .int 0, .int gr, .int kd, .long w10, .ref q11, .int mk, .long w13, .long w14]))]) (jw_B D vwCl (va_A [(mo, .inr (6, [.int z0, .ref q1, .int (nI g), .ref q3, .ref q4, .ref q5, .ref q6, .int 0, .int gr, .int kd, .long w10, .ref q11, .int mk, .long w13, .long w14]))] sz) (fun u : va_W => u)) (va_A [(mo, .inr (6, [.int z0, .ref q1, .int (nI g), .ref q3, .ref q4, .ref q5, .ref q6, .int 0, .int gr, .int kd, .long w10, .ref q11, .int mk, .long w13, .long w14]))] sz)) 0 0 (va_A [(mo, .inr (6, [.int z0, .ref q1, .int (nI g), .ref q3, .ref q4, .ref q5, .ref q6, .int 0, .int gr, .int kd, .long w10, .ref q11, .int mk, .long w13, .long w14]))] sz) := by
  refine Met.ofW (cc := cX6_rows) (maxL := 6) (ret := (some .int)) (by decide) rfl ?_
  intro p e s m args below meth c s₁ B hml hv
  obtain ⟨rfl, hsz, hP, hK, hN, hD0⟩ := hv
  have hx := B.exec
  have hb := B.bytes
  have hr := B.returns
  have hts := atoms_spec (ws := wsX6_rows) B.pre
  have hown : s.vm.findClass RX6 = some m.cls := findClass_of_methodNamed B.named
  have hlocks := B.notSynchronized
  subst hsz
  have hD := hD0.self (sz := s.heap.size)
  generalize hAe : va_A [(mo, .inr (6, [.int z0, .ref q1, .int (nI g), .ref q3, .ref q4, .ref q5, .ref q6, .int 0, .int gr, .int kd, .long w10, .ref q11, .int mk, .long w13, .long w14]))] s.heap.size = A at hD ⊢
  have hA : ∀ q : Nat, s.heap.size ≤ q → A q := fun q h => by rw [← hAe]; exact Or.inr h
  have hS : va_S A s.heap s.heap [] := va_S.rf
  have hl := lv_entry ([.ref mo, .int x, .int y]) (n := 6) (Nat.le_of_ble_eq_true rfl)
  rw [lg_entry_eq]
  generalize (lg_sl ([.ref mo, .int x, .int y]) ++ List.replicate (6 - (lg_sl ([.ref mo, .int x, .int y])).length) Slot.unset).toArray = ls at hl ⊢
  have hl : lv_has ls 6 [(0, .ref mo), (1, .int x), (2, .int y)] := hl
  refine lv_aload_n hx hb dX6_rows_0 rfl (lv_at hl 0 rfl) ?_
  refine lv_aload_n hx hb dX6_rows_1 rfl (lv_at hl 0 rfl) ?_
  refine va_get (D := D) (ci := 6) (v := .int 0) (C := RX6) (T := TX6) (N := 15) hx hb hts (by decide +kernel) hown hK hP 0 rfl rfl 7 (by decide) (hts (.fieldLink RX6 43 "JoinDeskModel" "prepared" "Z") (by decide +kernel)) (fun _ h9 => h9) rfl dX6_rows_2 ?_
  refine lv_if_eq (tgt := 12) hx hb dX6_rows_5 (by decide) (fun c_1 => ?_) (fun c_1 => absurd c_1 (by decide))
  refine lv_iconst (v := 1) hx hb dX6_rows_12 (by decide) ?_
  refine jw_i (wr := []) (va_runV (As := [.int 1]) (rest := []) ⟨hx, hb, hml, hown, hts⟩ (gM_refuses_1 l D cI cL cQ mo g q1 q3 q4 q5 q6 q11 z0 0 gr kd mk w10 w13 w14 _) (cwV 1 hts gX6_rows_X6_refuses rfl rfl rfl (by decide +kernel) ⟨Nat.le_of_ble_eq_true rfl, Nat.le_of_ble_eq_true rfl⟩) (jw_V hK hN hP hD [0] (by decide) rfl 6 0 rfl rfl rfl) rfl rfl hl.1 rfl (lv_room (Nat.le_of_ble_eq_true rfl)) dX6_rows_13 ⟨Nat.le_of_ble_eq_true rfl, Nat.le_of_ble_eq_true rfl⟩) hP hD hS hA [0] [] rfl rfl (by decide) (by decide) (fun r u H locs f_2 hP hD hS => ?_)
  obtain ⟨rfl, rfl⟩ := f_2
  have hP : va_P D vwCl [(mo, .inr (6, [.int 1, .ref q1, .int (nI g), .ref q3, .ref q4, .ref q5, .ref q6, .int 0, .int gr, .int kd, .long w10, .ref q11, .int mk, .long w13, .long w14]))] H := hP
  have hD : va_D A [(mo, .inr (6, [.int 1, .ref q1, .int (nI g), .ref q3, .ref q4, .ref q5, .ref q6, .int 0, .int gr, .int kd, .long w10, .ref q11, .int mk, .long w13, .long w14]))] := hD
  refine lv_if_eq (tgt := 21) hx hb dX6_rows_16 (by decide) (fun c_3 => absurd c_3 (by decide)) (fun c_3 => ?_)
  refine lv_iconst (v := 0) hx hb dX6_rows_19 (by decide) ?_
  refine W.widen (k := 0) (n := 0) (by omega) (by omega) ?_
  exact W.iret (v := 0) hx hb hr (fun t ht hW => ⟨⟨0, [(mo, .inr (6, [.int 1, .ref q1, .int (nI g), .ref q3, .ref q4, .ref q5, .ref q6, .int 0, .int gr, .int kd, .long w10, .ref q11, .int mk, .long w13, .long w14]))], rfl, (by exact ⟨rfl, rfl⟩), by rw [ht]; exact hP, hD⟩, hS.F ht⟩) hS.2.2 dX6_rows_20
set_option maxHeartbeats 1000000 in
set_option maxRecDepth 100000 in
theorem gM_rewind_t (l : Launch) (D : va_G) (cI cL cQ : ClassId) (mo : Nat) (g : Nat) (q1 : Nat) (q3 : Nat) (q4 : Nat) (q5 : Nat) (q6 : Nat) (q11 : Nat) (z0 : Int32) (gr : Int32) (kd : Int32) (mk : Int32) (w10 : Int64) (w13 : Int64) (w14 : Int64) (sz : Nat) : Met l yX6_rewind wsX6_rewind ({ frames := 1, cells := 0, slots := 0, locals := 21 }) (jw_P D vwCl (jT cI cL cQ) cL cQ [.ref mo] [(mo, .inr (6, [.int z0, .ref q1, .int (nI g), .ref q3, .ref q4, .ref q5, .ref q6, .int 0, .int gr, .int kd, .long w10, .ref q11, .int mk, .long w13, .long w14]))] sz) (va_Qv (fun u : va_W => u = [(mo, .inr (6, [.int 1, .ref q1, .int (nI g), .ref q3, .ref q4, .ref q5, .ref q6, .int 0, .int gr, .int kd, .long w10, .ref q11, .int mk, .long w13, .long w14]))]) (jw_B D vwCl (va_A [(mo, .inr (6, [.int z0, .ref q1, .int (nI g), .ref q3, .ref q4, .ref q5, .ref q6, .int 0, .int gr, .int kd, .long w10, .ref q11, .int mk, .long w13, .long w14]))] sz) (fun u : va_W => u)) (va_A [(mo, .inr (6, [.int z0, .ref q1, .int (nI g), .ref q3, .ref q4, .ref q5, .ref q6, .int 0, .int gr, .int kd, .long w10, .ref q11, .int mk, .long w13, .long w14]))] sz)) 0 0 (va_A [(mo, .inr (6, [.int z0, .ref q1, .int (nI g), .ref q3, .ref q4, .ref q5, .ref q6, .int 0, .int gr, .int kd, .long w10, .ref q11, .int mk, .long w13, .long w14]))] sz) := by
  refine Met.ofW (cc := cX6_rewind) (maxL := 1) (ret := none) (by decide) rfl ?_
  intro p e s m args below meth c s₁ B hml hv
  obtain ⟨rfl, hsz, hP, hK, hN, hD0⟩ := hv
  have hx := B.exec
  have hb := B.bytes
  have hr := B.returns
  have hts := atoms_spec (ws := wsX6_rewind) B.pre
  have hown : s.vm.findClass RX6 = some m.cls := findClass_of_methodNamed B.named
  have hlocks := B.notSynchronized
  subst hsz
  have hD := hD0.self (sz := s.heap.size)
  generalize hAe : va_A [(mo, .inr (6, [.int z0, .ref q1, .int (nI g), .ref q3, .ref q4, .ref q5, .ref q6, .int 0, .int gr, .int kd, .long w10, .ref q11, .int mk, .long w13, .long w14]))] s.heap.size = A at hD ⊢
  have hA : ∀ q : Nat, s.heap.size ≤ q → A q := fun q h => by rw [← hAe]; exact Or.inr h
  have hS : va_S A s.heap s.heap [] := va_S.rf
  have hl := lv_entry ([.ref mo]) (n := 1) (Nat.le_of_ble_eq_true rfl)
  rw [lg_entry_eq]
  generalize (lg_sl ([.ref mo]) ++ List.replicate (1 - (lg_sl ([.ref mo])).length) Slot.unset).toArray = ls at hl ⊢
  have hl : lv_has ls 1 [(0, .ref mo)] := hl
  refine lv_aload_n hx hb dX6_rewind_0 rfl (lv_at hl 0 rfl) ?_
  refine lv_aload_n hx hb dX6_rewind_1 rfl (lv_at hl 0 rfl) ?_
  refine va_get (D := D) (ci := 6) (v := .int 0) (C := RX6) (T := TX6) (N := 15) hx hb hts (by decide +kernel) hown hK hP 0 rfl rfl 7 (by decide) (hts (.fieldLink RX6 43 "JoinDeskModel" "prepared" "Z") (by decide +kernel)) (fun _ h9 => h9) rfl dX6_rewind_2 ?_
  refine lv_if_eq (tgt := 12) hx hb dX6_rewind_5 (by decide) (fun c_1 => ?_) (fun c_1 => absurd c_1 (by decide))
  refine lv_iconst (v := 1) hx hb dX6_rewind_12 (by decide) ?_
  refine jw_i (wr := []) (va_runV (As := [.int 1]) (rest := []) ⟨hx, hb, hml, hown, hts⟩ (gM_refuses_1 l D cI cL cQ mo g q1 q3 q4 q5 q6 q11 z0 0 gr kd mk w10 w13 w14 _) (cwV 1 hts gX6_rewind_X6_refuses rfl rfl rfl (by decide +kernel) ⟨Nat.le_of_ble_eq_true rfl, Nat.le_of_ble_eq_true rfl⟩) (jw_V hK hN hP hD [0] (by decide) rfl 6 0 rfl rfl rfl) rfl rfl hl.1 rfl (lv_room (Nat.le_of_ble_eq_true rfl)) dX6_rewind_13 ⟨Nat.le_of_ble_eq_true rfl, Nat.le_of_ble_eq_true rfl⟩) hP hD hS hA [0] [] rfl rfl (by decide) (by decide) (fun r u H locs f_2 hP hD hS => ?_)
  obtain ⟨rfl, rfl⟩ := f_2
  have hP : va_P D vwCl [(mo, .inr (6, [.int 1, .ref q1, .int (nI g), .ref q3, .ref q4, .ref q5, .ref q6, .int 0, .int gr, .int kd, .long w10, .ref q11, .int mk, .long w13, .long w14]))] H := hP
  have hD : va_D A [(mo, .inr (6, [.int 1, .ref q1, .int (nI g), .ref q3, .ref q4, .ref q5, .ref q6, .int 0, .int gr, .int kd, .long w10, .ref q11, .int mk, .long w13, .long w14]))] := hD
  refine lv_if_eq (tgt := 20) hx hb dX6_rewind_16 (by decide) (fun c_3 => absurd c_3 (by decide)) (fun c_3 => ?_)
  refine W.widen (k := 0) (n := 0) (by omega) (by omega) ?_
  exact W.vret hx hb hr (fun t ht hW => ⟨⟨[(mo, .inr (6, [.int 1, .ref q1, .int (nI g), .ref q3, .ref q4, .ref q5, .ref q6, .int 0, .int gr, .int kd, .long w10, .ref q11, .int mk, .long w13, .long w14]))], rfl, (by exact rfl), by rw [ht]; exact hP, hD⟩, hS.F ht⟩) hS.2.2 dX6_rewind_19
set_option maxHeartbeats 1000000 in
set_option maxRecDepth 100000 in
theorem gM_rewind (l : Launch) (D : va_G) (cI cL cQ : ClassId) (mo : Nat) (g : Nat) (q1 : Nat) (q3 : Nat) (q4 : Nat) (q5 : Nat) (q6 : Nat) (q11 : Nat) (z0 : Int32) (gr : Int32) (kd : Int32) (mk : Int32) (w10 : Int64) (w13 : Int64) (w14 : Int64) (t0 : Int32) (t1 : Int32) (t2 : Int32) (t3 : Int32) (t4 : Int32) (t5 : Int32) (t6 : Int32) (t7 : Int32) (t8 : Int32) (t9 : Int32) (t10 : Int32) (t11 : Int32) (t12 : Int32) (t13 : Int32) (t14 : Int32) (t15 : Int32) (t16 : Int32) (t17 : Int32) (t18 : Int32) (t19 : Int32) (t20 : Int32) (t21 : Int32) (t22 : Int32) (t23 : Int32) (sz : Nat) : Met l yX6_rewind wsX6_rewind ({ frames := 1, cells := 0, slots := 0, locals := 21 }) (jw_P D vwCl (jT cI cL cQ) cL cQ [.ref mo] [(mo, .inr (6, [.int z0, .ref q1, .int (nI g), .ref q3, .ref q4, .ref q5, .ref q6, .int 1, .int gr, .int kd, .long w10, .ref q11, .int mk, .long w13, .long w14])), (q11, .inl (cI, 24, .inl (jl [t0, t1, t2, t3, t4, t5, t6, t7, t8, t9, t10, t11, t12, t13, t14, t15, t16, t17, t18, t19, t20, t21, t22, t23])))] sz) (va_Qv (fun u : va_W => u = [(mo, .inr (6, [.int 0, .ref q1, .int (nI g), .ref q3, .ref q4, .ref q5, .ref q6, .int 1, .int gr, .int kd, .long 0, .ref q11, .int mk, .long w13, .long w14])), (q11, .inl (cI, 24, .inl (jl [0, 0, 0, 0, 0, 0, 0, 0, 0, 0, 0, 0, t12, t13, t14, t15, t16, t17, t18, t19, t20, t21, t22, t23])))]) (jw_B D vwCl (va_A [(mo, .inr (6, [.int z0, .ref q1, .int (nI g), .ref q3, .ref q4, .ref q5, .ref q6, .int 1, .int gr, .int kd, .long w10, .ref q11, .int mk, .long w13, .long w14])), (q11, .inl (cI, 24, .inl (jl [t0, t1, t2, t3, t4, t5, t6, t7, t8, t9, t10, t11, t12, t13, t14, t15, t16, t17, t18, t19, t20, t21, t22, t23])))] sz) (fun u : va_W => u)) (va_A [(mo, .inr (6, [.int z0, .ref q1, .int (nI g), .ref q3, .ref q4, .ref q5, .ref q6, .int 1, .int gr, .int kd, .long w10, .ref q11, .int mk, .long w13, .long w14])), (q11, .inl (cI, 24, .inl (jl [t0, t1, t2, t3, t4, t5, t6, t7, t8, t9, t10, t11, t12, t13, t14, t15, t16, t17, t18, t19, t20, t21, t22, t23])))] sz)) 0 0 (va_A [(mo, .inr (6, [.int z0, .ref q1, .int (nI g), .ref q3, .ref q4, .ref q5, .ref q6, .int 1, .int gr, .int kd, .long w10, .ref q11, .int mk, .long w13, .long w14])), (q11, .inl (cI, 24, .inl (jl [t0, t1, t2, t3, t4, t5, t6, t7, t8, t9, t10, t11, t12, t13, t14, t15, t16, t17, t18, t19, t20, t21, t22, t23])))] sz) := by
  refine Met.ofW (cc := cX6_rewind) (maxL := 1) (ret := none) (by decide) rfl ?_
  intro p e s m args below meth c s₁ B hml hv
  obtain ⟨rfl, hsz, hP, hK, hN, hD0⟩ := hv
  have hx := B.exec
  have hb := B.bytes
  have hr := B.returns
  have hts := atoms_spec (ws := wsX6_rewind) B.pre
  have hown : s.vm.findClass RX6 = some m.cls := findClass_of_methodNamed B.named
  have hlocks := B.notSynchronized
  subst hsz
  have hD := hD0.self (sz := s.heap.size)
  generalize hAe : va_A [(mo, .inr (6, [.int z0, .ref q1, .int (nI g), .ref q3, .ref q4, .ref q5, .ref q6, .int 1, .int gr, .int kd, .long w10, .ref q11, .int mk, .long w13, .long w14])), (q11, .inl (cI, 24, .inl (jl [t0, t1, t2, t3, t4, t5, t6, t7, t8, t9, t10, t11, t12, t13, t14, t15, t16, t17, t18, t19, t20, t21, t22, t23])))] s.heap.size = A at hD ⊢
  have hA : ∀ q : Nat, s.heap.size ≤ q → A q := fun q h => by rw [← hAe]; exact Or.inr h
  have hS : va_S A s.heap s.heap [] := va_S.rf
  have hl := lv_entry ([.ref mo]) (n := 1) (Nat.le_of_ble_eq_true rfl)
  rw [lg_entry_eq]
  generalize (lg_sl ([.ref mo]) ++ List.replicate (1 - (lg_sl ([.ref mo])).length) Slot.unset).toArray = ls at hl ⊢
  have hl : lv_has ls 1 [(0, .ref mo)] := hl
  refine lv_aload_n hx hb dX6_rewind_0 rfl (lv_at hl 0 rfl) ?_
  refine lv_aload_n hx hb dX6_rewind_1 rfl (lv_at hl 0 rfl) ?_
  refine va_get (D := D) (ci := 6) (v := .int 1) (C := RX6) (T := TX6) (N := 15) hx hb hts (by decide +kernel) hown hK hP 0 rfl rfl 7 (by decide) (hts (.fieldLink RX6 43 "JoinDeskModel" "prepared" "Z") (by decide +kernel)) (fun _ h9 => h9) rfl dX6_rewind_2 ?_
  refine lv_if_eq (tgt := 12) hx hb dX6_rewind_5 (by decide) (fun c_1 => absurd c_1 (by decide)) (fun c_1 => ?_)
  refine lv_iconst (v := 0) hx hb dX6_rewind_8 (by decide) ?_
  refine lv_goto (tgt := 13) hx hb dX6_rewind_9 (by decide) ?_
  refine jw_i (wr := [(q11, .inl (cI, 24, .inl (jl [t0, t1, t2, t3, t4, t5, t6, t7, t8, t9, t10, t11, t12, t13, t14, t15, t16, t17, t18, t19, t20, t21, t22, t23])))]) (va_runV (As := [.int 0]) (rest := []) ⟨hx, hb, hml, hown, hts⟩ (gM_refuses_0 l D cI cL cQ mo g q1 q3 q4 q5 q6 q11 z0 1 gr kd mk w10 w13 w14 _) (cwV 1 hts gX6_rewind_X6_refuses rfl rfl rfl (by decide +kernel) ⟨Nat.le_of_ble_eq_true rfl, Nat.le_of_ble_eq_true rfl⟩) (jw_V hK hN hP hD [0] (by decide) rfl 6 0 rfl rfl rfl) rfl rfl hl.1 rfl (lv_room (Nat.le_of_ble_eq_true rfl)) dX6_rewind_13 ⟨Nat.le_of_ble_eq_true rfl, Nat.le_of_ble_eq_true rfl⟩) hP hD hS hA [0] [1] rfl rfl (by decide) (by decide) (fun r u H locs f_2 hP hD hS => ?_)
  obtain ⟨rfl, rfl⟩ := f_2
  have hP : va_P D vwCl [(q11, .inl (cI, 24, .inl (jl [t0, t1, t2, t3, t4, t5, t6, t7, t8, t9, t10, t11, t12, t13, t14, t15, t16, t17, t18, t19, t20, t21, t22, t23]))), (mo, .inr (6, [.int 0, .ref q1, .int (nI g), .ref q3, .ref q4, .ref q5, .ref q6, .int 1, .int gr, .int kd, .long w10, .ref q11, .int mk, .long w13, .long w14]))] H := hP
  have hD : va_D A [(q11, .inl (cI, 24, .inl (jl [t0, t1, t2, t3, t4, t5, t6, t7, t8, t9, t10, t11, t12, t13, t14, t15, t16, t17, t18, t19, t20, t21, t22, t23]))), (mo, .inr (6, [.int 0, .ref q1, .int (nI g), .ref q3, .ref q4, .ref q5, .ref q6, .int 1, .int gr, .int kd, .long w10, .ref q11, .int mk, .long w13, .long w14]))] := hD
  refine lv_if_eq (tgt := 20) hx hb dX6_rewind_16 (by decide) (fun c_3 => ?_) (fun c_3 => absurd c_3 (by decide))
  refine lv_aload_n hx hb dX6_rewind_20 rfl (lv_at hl 0 rfl) ?_
  refine jw_v (wr := []) (va_runV (As := []) (rest := []) ⟨hx, hb, hml, hown, hts⟩ (gM_begins l D cI cL cQ mo g q1 q3 q4 q5 q6 q11 0 1 gr kd mk w10 w13 w14 t0 t1 t2 t3 t4 t5 t6 t7 t8 t9 t10 t11 t12 t13 t14 t15 t16 t17 t18 t19 t20 t21 t22 t23 _) (cwV 0 hts gX6_rewind_X6_begins rfl rfl rfl (by decide +kernel) ⟨Nat.le_of_ble_eq_true rfl, Nat.le_of_ble_eq_true rfl⟩) (jw_V hK hN hP hD [1, 0] (by decide) rfl 6 1 rfl rfl rfl) rfl rfl hl.1 rfl (lv_room (Nat.le_of_ble_eq_true rfl)) dX6_rewind_21 ⟨Nat.le_of_ble_eq_true rfl, Nat.le_of_ble_eq_true rfl⟩) hP hD hS hA [1, 0] [] rfl rfl (by decide) (by decide) (fun u H locs f_4 hP hD hS => ?_)
  obtain rfl := f_4
  have hP : va_P D vwCl [(mo, .inr (6, [.int 0, .ref q1, .int (nI g), .ref q3, .ref q4, .ref q5, .ref q6, .int 1, .int gr, .int kd, .long w10, .ref q11, .int mk, .long w13, .long w14])), (q11, .inl (cI, 24, .inl (jl [0, 0, 0, 0, 0, 0, 0, 0, 0, 0, 0, 0, t12, t13, t14, t15, t16, t17, t18, t19, t20, t21, t22, t23])))] H := hP
  have hD : va_D A [(mo, .inr (6, [.int 0, .ref q1, .int (nI g), .ref q3, .ref q4, .ref q5, .ref q6, .int 1, .int gr, .int kd, .long w10, .ref q11, .int mk, .long w13, .long w14])), (q11, .inl (cI, 24, .inl (jl [0, 0, 0, 0, 0, 0, 0, 0, 0, 0, 0, 0, t12, t13, t14, t15, t16, t17, t18, t19, t20, t21, t22, t23])))] := hD
  refine lv_aload_n hx hb dX6_rewind_24 rfl (lv_at hl 0 rfl) ?_
  refine lv_lconst (v := 0) hx hb dX6_rewind_25 (by decide) ?_
  refine va_put (D := D) (ci := 6) (v := .long 0) (ty := .long) (C := RX6) (T := TX6) (N := 15) hx hb hts (by decide +kernel) tyX6 tyX6_ok nmX6 hown hK hP hD hS 0 rfl rfl 10 (by decide) (hts (.fieldLink RX6 53 "JoinDeskModel" "cells" "J") (by decide +kernel)) (fun _ h9 => h9) rfl (by decide +kernel) rfl rfl (Nat.le_of_ble_eq_true rfl) dX6_rewind_26 (fun H locs hP hD hS => ?_)
  have hP : va_P D vwCl [(mo, .inr (6, [.int 0, .ref q1, .int (nI g), .ref q3, .ref q4, .ref q5, .ref q6, .int 1, .int gr, .int kd, .long 0, .ref q11, .int mk, .long w13, .long w14])), (q11, .inl (cI, 24, .inl (jl [0, 0, 0, 0, 0, 0, 0, 0, 0, 0, 0, 0, t12, t13, t14, t15, t16, t17, t18, t19, t20, t21, t22, t23])))] H := hP
  have hD : va_D A [(mo, .inr (6, [.int 0, .ref q1, .int (nI g), .ref q3, .ref q4, .ref q5, .ref q6, .int 1, .int gr, .int kd, .long 0, .ref q11, .int mk, .long w13, .long w14])), (q11, .inl (cI, 24, .inl (jl [0, 0, 0, 0, 0, 0, 0, 0, 0, 0, 0, 0, t12, t13, t14, t15, t16, t17, t18, t19, t20, t21, t22, t23])))] := hD
  refine W.widen (k := 0) (n := 0) (by omega) (by omega) ?_
  exact W.vret hx hb hr (fun t ht hW => ⟨⟨[(mo, .inr (6, [.int 0, .ref q1, .int (nI g), .ref q3, .ref q4, .ref q5, .ref q6, .int 1, .int gr, .int kd, .long 0, .ref q11, .int mk, .long w13, .long w14])), (q11, .inl (cI, 24, .inl (jl [0, 0, 0, 0, 0, 0, 0, 0, 0, 0, 0, 0, t12, t13, t14, t15, t16, t17, t18, t19, t20, t21, t22, t23])))], rfl, (by exact rfl), by rw [ht]; exact hP, hD⟩, hS.F ht⟩) hS.2.2 dX6_rewind_29
set_option maxHeartbeats 1000000 in
set_option maxRecDepth 100000 in
theorem gM_mark (l : Launch) (D : va_G) (cI cL cQ : ClassId) (mo : Nat) (g : Nat) (q1 : Nat) (q3 : Nat) (q4 : Nat) (q5 : Nat) (q6 : Nat) (q11 : Nat) (z0 : Int32) (gr : Int32) (kd : Int32) (mk : Int32) (w10 : Int64) (w13 : Int64) (w14 : Int64) (t0 : Int32) (t1 : Int32) (t2 : Int32) (t3 : Int32) (t4 : Int32) (t5 : Int32) (t6 : Int32) (t7 : Int32) (t8 : Int32) (t9 : Int32) (t10 : Int32) (t11 : Int32) (t12 : Int32) (t13 : Int32) (t14 : Int32) (t15 : Int32) (t16 : Int32) (t17 : Int32) (t18 : Int32) (t19 : Int32) (t20 : Int32) (t21 : Int32) (t22 : Int32) (t23 : Int32) (sz : Nat) : Met l yX6_mark wsX6_mark ({ frames := 1, cells := 0, slots := 0, locals := 21 }) (jw_P D vwCl (jT cI cL cQ) cL cQ [.ref mo] [(mo, .inr (6, [.int z0, .ref q1, .int (nI g), .ref q3, .ref q4, .ref q5, .ref q6, .int 1, .int gr, .int kd, .long w10, .ref q11, .int mk, .long w13, .long w14])), (q11, .inl (cI, 24, .inl (jl [t0, t1, t2, t3, t4, t5, t6, t7, t8, t9, t10, t11, t12, t13, t14, t15, t16, t17, t18, t19, t20, t21, t22, t23])))] sz) (va_Qi (fun (r : Int32) (u : va_W) => r = t10 ∧ u = [(mo, .inr (6, [.int 0, .ref q1, .int (nI g), .ref q3, .ref q4, .ref q5, .ref q6, .int 1, .int gr, .int kd, .long w10, .ref q11, .int 1, .long w13, .long w14])), (q11, .inl (cI, 24, .inl (jl [t0, t1, t2, t3, t4, t5, t6, t7, t8, t9, t10, t11, t0, t1, t2, t3, t4, t5, t6, t7, t8, t9, t10, t11])))]) (jw_B D vwCl (va_A [(mo, .inr (6, [.int z0, .ref q1, .int (nI g), .ref q3, .ref q4, .ref q5, .ref q6, .int 1, .int gr, .int kd, .long w10, .ref q11, .int mk, .long w13, .long w14])), (q11, .inl (cI, 24, .inl (jl [t0, t1, t2, t3, t4, t5, t6, t7, t8, t9, t10, t11, t12, t13, t14, t15, t16, t17, t18, t19, t20, t21, t22, t23])))] sz) (fun u : va_W => u)) (va_A [(mo, .inr (6, [.int z0, .ref q1, .int (nI g), .ref q3, .ref q4, .ref q5, .ref q6, .int 1, .int gr, .int kd, .long w10, .ref q11, .int mk, .long w13, .long w14])), (q11, .inl (cI, 24, .inl (jl [t0, t1, t2, t3, t4, t5, t6, t7, t8, t9, t10, t11, t12, t13, t14, t15, t16, t17, t18, t19, t20, t21, t22, t23])))] sz)) 0 0 (va_A [(mo, .inr (6, [.int z0, .ref q1, .int (nI g), .ref q3, .ref q4, .ref q5, .ref q6, .int 1, .int gr, .int kd, .long w10, .ref q11, .int mk, .long w13, .long w14])), (q11, .inl (cI, 24, .inl (jl [t0, t1, t2, t3, t4, t5, t6, t7, t8, t9, t10, t11, t12, t13, t14, t15, t16, t17, t18, t19, t20, t21, t22, t23])))] sz) := by
  refine Met.ofW (cc := cX6_mark) (maxL := 2) (ret := (some .int)) (by decide) rfl ?_
  intro p e s m args below meth c s₁ B hml hv
  obtain ⟨rfl, hsz, hP, hK, hN, hD0⟩ := hv
  have hx := B.exec
  have hb := B.bytes
  have hr := B.returns
  have hts := atoms_spec (ws := wsX6_mark) B.pre
  have hown : s.vm.findClass RX6 = some m.cls := findClass_of_methodNamed B.named
  have hlocks := B.notSynchronized
  subst hsz
  have hD := hD0.self (sz := s.heap.size)
  generalize hAe : va_A [(mo, .inr (6, [.int z0, .ref q1, .int (nI g), .ref q3, .ref q4, .ref q5, .ref q6, .int 1, .int gr, .int kd, .long w10, .ref q11, .int mk, .long w13, .long w14])), (q11, .inl (cI, 24, .inl (jl [t0, t1, t2, t3, t4, t5, t6, t7, t8, t9, t10, t11, t12, t13, t14, t15, t16, t17, t18, t19, t20, t21, t22, t23])))] s.heap.size = A at hD ⊢
  have hA : ∀ q : Nat, s.heap.size ≤ q → A q := fun q h => by rw [← hAe]; exact Or.inr h
  have hS : va_S A s.heap s.heap [] := va_S.rf
  have hl := lv_entry ([.ref mo]) (n := 2) (Nat.le_of_ble_eq_true rfl)
  rw [lg_entry_eq]
  generalize (lg_sl ([.ref mo]) ++ List.replicate (2 - (lg_sl ([.ref mo])).length) Slot.unset).toArray = ls at hl ⊢
  have hl : lv_has ls 2 [(0, .ref mo)] := hl
  refine lv_aload_n hx hb dX6_mark_0 rfl (lv_at hl 0 rfl) ?_
  refine lv_aload_n hx hb dX6_mark_1 rfl (lv_at hl 0 rfl) ?_
  refine va_get (D := D) (ci := 6) (v := .int 1) (C := RX6) (T := TX6) (N := 15) hx hb hts (by decide +kernel) hown hK hP 0 rfl rfl 7 (by decide) (hts (.fieldLink RX6 43 "JoinDeskModel" "prepared" "Z") (by decide +kernel)) (fun _ h9 => h9) rfl dX6_mark_2 ?_
  refine lv_if_eq (tgt := 12) hx hb dX6_mark_5 (by decide) (fun c_1 => absurd c_1 (by decide)) (fun c_1 => ?_)
  refine lv_iconst (v := 0) hx hb dX6_mark_8 (by decide) ?_
  refine lv_goto (tgt := 13) hx hb dX6_mark_9 (by decide) ?_
  refine jw_i (wr := [(q11, .inl (cI, 24, .inl (jl [t0, t1, t2, t3, t4, t5, t6, t7, t8, t9, t10, t11, t12, t13, t14, t15, t16, t17, t18, t19, t20, t21, t22, t23])))]) (va_runV (As := [.int 0]) (rest := []) ⟨hx, hb, hml, hown, hts⟩ (gM_refuses_0 l D cI cL cQ mo g q1 q3 q4 q5 q6 q11 z0 1 gr kd mk w10 w13 w14 _) (cwV 1 hts gX6_mark_X6_refuses rfl rfl rfl (by decide +kernel) ⟨Nat.le_of_ble_eq_true rfl, Nat.le_of_ble_eq_true rfl⟩) (jw_V hK hN hP hD [0] (by decide) rfl 6 0 rfl rfl rfl) rfl rfl hl.1 rfl (lv_room (Nat.le_of_ble_eq_true rfl)) dX6_mark_13 ⟨Nat.le_of_ble_eq_true rfl, Nat.le_of_ble_eq_true rfl⟩) hP hD hS hA [0] [1] rfl rfl (by decide) (by decide) (fun r u H locs f_2 hP hD hS => ?_)
  obtain ⟨rfl, rfl⟩ := f_2
  have hP : va_P D vwCl [(q11, .inl (cI, 24, .inl (jl [t0, t1, t2, t3, t4, t5, t6, t7, t8, t9, t10, t11, t12, t13, t14, t15, t16, t17, t18, t19, t20, t21, t22, t23]))), (mo, .inr (6, [.int 0, .ref q1, .int (nI g), .ref q3, .ref q4, .ref q5, .ref q6, .int 1, .int gr, .int kd, .long w10, .ref q11, .int mk, .long w13, .long w14]))] H := hP
  have hD : va_D A [(q11, .inl (cI, 24, .inl (jl [t0, t1, t2, t3, t4, t5, t6, t7, t8, t9, t10, t11, t12, t13, t14, t15, t16, t17, t18, t19, t20, t21, t22, t23]))), (mo, .inr (6, [.int 0, .ref q1, .int (nI g), .ref q3, .ref q4, .ref q5, .ref q6, .int 1, .int gr, .int kd, .long w10, .ref q11, .int mk, .long w13, .long w14]))] := hD
  refine lv_if_eq (tgt := 21) hx hb dX6_mark_16 (by decide) (fun c_3 => ?_) (fun c_3 => absurd c_3 (by decide))
  refine lv_iconst (v := 0) hx hb dX6_mark_21 (by decide) ?_
  refine lv_istore_n (lv' := [(1, .int 0), (0, .ref mo)]) hx hb dX6_mark_22 rfl hl (by decide) rfl (fun ls hl => ?_)
  refine lv_iload_n hx hb dX6_mark_23 rfl (lv_at hl 0 rfl) ?_
  refine lv_bipush (v := 12) hx hb dX6_mark_24 (by decide) ?_
  refine lv_icmp_ge (tgt := 50) hx hb dX6_mark_26 (by decide) (fun c_4 => absurd c_4 (by decide)) (fun c_4 => ?_)
  refine lv_aload_n hx hb dX6_mark_29 rfl (lv_at hl 1 rfl) ?_
  refine va_get (D := D) (ci := 6) (v := .ref q11) (C := RX6) (T := TX6) (N := 15) hx hb hts (by decide +kernel) hown hK hP 1 rfl rfl 11 (by decide) (hts (.fieldLink RX6 25 "JoinDeskModel" "at" "[I") (by decide +kernel)) (fun _ h9 => h9) rfl dX6_mark_30 ?_
  refine lv_bipush (v := 12) hx hb dX6_mark_33 (by decide) ?_
  refine lv_iload_n hx hb dX6_mark_35 rfl (lv_at hl 0 rfl) ?_
  refine lv_iadd hx hb dX6_mark_36 ?_
  refine lv_topi (fun z_5 e_z_5 => ?_)
  obtain rfl : z_5 = 12 := e_z_5.trans (by decide)
  refine lv_aload_n hx hb dX6_mark_37 rfl (lv_at hl 1 rfl) ?_
  refine va_get (D := D) (ci := 6) (v := .ref q11) (C := RX6) (T := TX6) (N := 15) hx hb hts (by decide +kernel) hown hK hP 1 rfl rfl 11 (by decide) (hts (.fieldLink RX6 25 "JoinDeskModel" "at" "[I") (by decide +kernel)) (fun _ h9 => h9) rfl dX6_mark_38 ?_
  refine lv_iload_n hx hb dX6_mark_41 rfl (lv_at hl 0 rfl) ?_
  refine va_iald hx hb hK hP 0 0 rfl rfl (by unfold vp_in; decide) dX6_mark_42 ?_
  refine W.eq (g2 := F0 m 43 ls [.int t0, .int 12, .ref q11]) rfl ?_
  refine va_iast hx hb hK hP hD hS 0 0 rfl rfl (by unfold vp_in; decide) dX6_mark_43 (fun H locs hP hD hS => ?_)
  rw [jl_upd (show (12 : Int32).toNatClampNeg = 12 by decide) (Nat.le_of_ble_eq_true rfl)] at hP hD
  have hP : va_P D vwCl [(q11, .inl (cI, 24, .inl (jl [t0, t1, t2, t3, t4, t5, t6, t7, t8, t9, t10, t11, t0, t13, t14, t15, t16, t17, t18, t19, t20, t21, t22, t23]))), (mo, .inr (6, [.int 0, .ref q1, .int (nI g), .ref q3, .ref q4, .ref q5, .ref q6, .int 1, .int gr, .int kd, .long w10, .ref q11, .int mk, .long w13, .long w14]))] H := hP
  have hD : va_D A [(q11, .inl (cI, 24, .inl (jl [t0, t1, t2, t3, t4, t5, t6, t7, t8, t9, t10, t11, t0, t13, t14, t15, t16, t17, t18, t19, t20, t21, t22, t23]))), (mo, .inr (6, [.int 0, .ref q1, .int (nI g), .ref q3, .ref q4, .ref q5, .ref q6, .int 1, .int gr, .int kd, .long w10, .ref q11, .int mk, .long w13, .long w14]))] := hD
  refine lv_iinc (v := 1) (lv' := [(1, .int 1), (0, .ref mo)]) hx hb dX6_mark_44 hl (k := 0) rfl (by first | rfl | decide) (by decide) rfl (fun ls hl => ?_)
  refine lv_goto (tgt := 23) hx hb dX6_mark_47 (by decide) ?_
  refine lv_iload_n hx hb dX6_mark_23 rfl (lv_at hl 0 rfl) ?_
  refine lv_bipush (v := 12) hx hb dX6_mark_24 (by decide) ?_
  refine lv_icmp_ge (tgt := 50) hx hb dX6_mark_26 (by decide) (fun c_6 => absurd c_6 (by decide)) (fun c_6 => ?_)
  refine lv_aload_n hx hb dX6_mark_29 rfl (lv_at hl 1 rfl) ?_
  refine va_get (D := D) (ci := 6) (v := .ref q11) (C := RX6) (T := TX6) (N := 15) hx hb hts (by decide +kernel) hown hK hP 1 rfl rfl 11 (by decide) (hts (.fieldLink RX6 25 "JoinDeskModel" "at" "[I") (by decide +kernel)) (fun _ h9 => h9) rfl dX6_mark_30 ?_
  refine lv_bipush (v := 12) hx hb dX6_mark_33 (by decide) ?_
  refine lv_iload_n hx hb dX6_mark_35 rfl (lv_at hl 0 rfl) ?_
  refine lv_iadd hx hb dX6_mark_36 ?_
  refine lv_topi (fun z_7 e_z_7 => ?_)
  obtain rfl : z_7 = 13 := e_z_7.trans (by decide)
  refine lv_aload_n hx hb dX6_mark_37 rfl (lv_at hl 1 rfl) ?_
  refine va_get (D := D) (ci := 6) (v := .ref q11) (C := RX6) (T := TX6) (N := 15) hx hb hts (by decide +kernel) hown hK hP 1 rfl rfl 11 (by decide) (hts (.fieldLink RX6 25 "JoinDeskModel" "at" "[I") (by decide +kernel)) (fun _ h9 => h9) rfl dX6_mark_38 ?_
  refine lv_iload_n hx hb dX6_mark_41 rfl (lv_at hl 0 rfl) ?_
  refine va_iald hx hb hK hP 0 0 rfl rfl (by unfold vp_in; decide) dX6_mark_42 ?_
  refine W.eq (g2 := F0 m 43 ls [.int t1, .int 13, .ref q11]) rfl ?_
  refine va_iast hx hb hK hP hD hS 0 0 rfl rfl (by unfold vp_in; decide) dX6_mark_43 (fun H locs hP hD hS => ?_)
  rw [jl_upd (show (13 : Int32).toNatClampNeg = 13 by decide) (Nat.le_of_ble_eq_true rfl)] at hP hD
  have hP : va_P D vwCl [(q11, .inl (cI, 24, .inl (jl [t0, t1, t2, t3, t4, t5, t6, t7, t8, t9, t10, t11, t0, t1, t14, t15, t16, t17, t18, t19, t20, t21, t22, t23]))), (mo, .inr (6, [.int 0, .ref q1, .int (nI g), .ref q3, .ref q4, .ref q5, .ref q6, .int 1, .int gr, .int kd, .long w10, .ref q11, .int mk, .long w13, .long w14]))] H := hP
  have hD : va_D A [(q11, .inl (cI, 24, .inl (jl [t0, t1, t2, t3, t4, t5, t6, t7, t8, t9, t10, t11, t0, t1, t14, t15, t16, t17, t18, t19, t20, t21, t22, t23]))), (mo, .inr (6, [.int 0, .ref q1, .int (nI g), .ref q3, .ref q4, .ref q5, .ref q6, .int 1, .int gr, .int kd, .long w10, .ref q11, .int mk, .long w13, .long w14]))] := hD
  refine lv_iinc (v := 2) (lv' := [(1, .int 2), (0, .ref mo)]) hx hb dX6_mark_44 hl (k := 0) rfl (by first | rfl | decide) (by decide) rfl (fun ls hl => ?_)
  refine lv_goto (tgt := 23) hx hb dX6_mark_47 (by decide) ?_
  refine lv_iload_n hx hb dX6_mark_23 rfl (lv_at hl 0 rfl) ?_
  refine lv_bipush (v := 12) hx hb dX6_mark_24 (by decide) ?_
  refine lv_icmp_ge (tgt := 50) hx hb dX6_mark_26 (by decide) (fun c_8 => absurd c_8 (by decide)) (fun c_8 => ?_)
  refine lv_aload_n hx hb dX6_mark_29 rfl (lv_at hl 1 rfl) ?_
  refine va_get (D := D) (ci := 6) (v := .ref q11) (C := RX6) (T := TX6) (N := 15) hx hb hts (by decide +kernel) hown hK hP 1 rfl rfl 11 (by decide) (hts (.fieldLink RX6 25 "JoinDeskModel" "at" "[I") (by decide +kernel)) (fun _ h9 => h9) rfl dX6_mark_30 ?_
  refine lv_bipush (v := 12) hx hb dX6_mark_33 (by decide) ?_
  refine lv_iload_n hx hb dX6_mark_35 rfl (lv_at hl 0 rfl) ?_
  refine lv_iadd hx hb dX6_mark_36 ?_
  refine lv_topi (fun z_9 e_z_9 => ?_)
  obtain rfl : z_9 = 14 := e_z_9.trans (by decide)
  refine lv_aload_n hx hb dX6_mark_37 rfl (lv_at hl 1 rfl) ?_
  refine va_get (D := D) (ci := 6) (v := .ref q11) (C := RX6) (T := TX6) (N := 15) hx hb hts (by decide +kernel) hown hK hP 1 rfl rfl 11 (by decide) (hts (.fieldLink RX6 25 "JoinDeskModel" "at" "[I") (by decide +kernel)) (fun _ h9 => h9) rfl dX6_mark_38 ?_
  refine lv_iload_n hx hb dX6_mark_41 rfl (lv_at hl 0 rfl) ?_
  refine va_iald hx hb hK hP 0 0 rfl rfl (by unfold vp_in; decide) dX6_mark_42 ?_
  refine W.eq (g2 := F0 m 43 ls [.int t2, .int 14, .ref q11]) rfl ?_
  refine va_iast hx hb hK hP hD hS 0 0 rfl rfl (by unfold vp_in; decide) dX6_mark_43 (fun H locs hP hD hS => ?_)
  rw [jl_upd (show (14 : Int32).toNatClampNeg = 14 by decide) (Nat.le_of_ble_eq_true rfl)] at hP hD
  have hP : va_P D vwCl [(q11, .inl (cI, 24, .inl (jl [t0, t1, t2, t3, t4, t5, t6, t7, t8, t9, t10, t11, t0, t1, t2, t15, t16, t17, t18, t19, t20, t21, t22, t23]))), (mo, .inr (6, [.int 0, .ref q1, .int (nI g), .ref q3, .ref q4, .ref q5, .ref q6, .int 1, .int gr, .int kd, .long w10, .ref q11, .int mk, .long w13, .long w14]))] H := hP
  have hD : va_D A [(q11, .inl (cI, 24, .inl (jl [t0, t1, t2, t3, t4, t5, t6, t7, t8, t9, t10, t11, t0, t1, t2, t15, t16, t17, t18, t19, t20, t21, t22, t23]))), (mo, .inr (6, [.int 0, .ref q1, .int (nI g), .ref q3, .ref q4, .ref q5, .ref q6, .int 1, .int gr, .int kd, .long w10, .ref q11, .int mk, .long w13, .long w14]))] := hD
  refine lv_iinc (v := 3) (lv' := [(1, .int 3), (0, .ref mo)]) hx hb dX6_mark_44 hl (k := 0) rfl (by first | rfl | decide) (by decide) rfl (fun ls hl => ?_)
  refine lv_goto (tgt := 23) hx hb dX6_mark_47 (by decide) ?_
  refine lv_iload_n hx hb dX6_mark_23 rfl (lv_at hl 0 rfl) ?_
  refine lv_bipush (v := 12) hx hb dX6_mark_24 (by decide) ?_
  refine lv_icmp_ge (tgt := 50) hx hb dX6_mark_26 (by decide) (fun c_10 => absurd c_10 (by decide)) (fun c_10 => ?_)
  refine lv_aload_n hx hb dX6_mark_29 rfl (lv_at hl 1 rfl) ?_
  refine va_get (D := D) (ci := 6) (v := .ref q11) (C := RX6) (T := TX6) (N := 15) hx hb hts (by decide +kernel) hown hK hP 1 rfl rfl 11 (by decide) (hts (.fieldLink RX6 25 "JoinDeskModel" "at" "[I") (by decide +kernel)) (fun _ h9 => h9) rfl dX6_mark_30 ?_
  refine lv_bipush (v := 12) hx hb dX6_mark_33 (by decide) ?_
  refine lv_iload_n hx hb dX6_mark_35 rfl (lv_at hl 0 rfl) ?_
  refine lv_iadd hx hb dX6_mark_36 ?_
  refine lv_topi (fun z_11 e_z_11 => ?_)
  obtain rfl : z_11 = 15 := e_z_11.trans (by decide)
  refine lv_aload_n hx hb dX6_mark_37 rfl (lv_at hl 1 rfl) ?_
  refine va_get (D := D) (ci := 6) (v := .ref q11) (C := RX6) (T := TX6) (N := 15) hx hb hts (by decide +kernel) hown hK hP 1 rfl rfl 11 (by decide) (hts (.fieldLink RX6 25 "JoinDeskModel" "at" "[I") (by decide +kernel)) (fun _ h9 => h9) rfl dX6_mark_38 ?_
  refine lv_iload_n hx hb dX6_mark_41 rfl (lv_at hl 0 rfl) ?_
  refine va_iald hx hb hK hP 0 0 rfl rfl (by unfold vp_in; decide) dX6_mark_42 ?_
  refine W.eq (g2 := F0 m 43 ls [.int t3, .int 15, .ref q11]) rfl ?_
  refine va_iast hx hb hK hP hD hS 0 0 rfl rfl (by unfold vp_in; decide) dX6_mark_43 (fun H locs hP hD hS => ?_)
  rw [jl_upd (show (15 : Int32).toNatClampNeg = 15 by decide) (Nat.le_of_ble_eq_true rfl)] at hP hD
  have hP : va_P D vwCl [(q11, .inl (cI, 24, .inl (jl [t0, t1, t2, t3, t4, t5, t6, t7, t8, t9, t10, t11, t0, t1, t2, t3, t16, t17, t18, t19, t20, t21, t22, t23]))), (mo, .inr (6, [.int 0, .ref q1, .int (nI g), .ref q3, .ref q4, .ref q5, .ref q6, .int 1, .int gr, .int kd, .long w10, .ref q11, .int mk, .long w13, .long w14]))] H := hP
  have hD : va_D A [(q11, .inl (cI, 24, .inl (jl [t0, t1, t2, t3, t4, t5, t6, t7, t8, t9, t10, t11, t0, t1, t2, t3, t16, t17, t18, t19, t20, t21, t22, t23]))), (mo, .inr (6, [.int 0, .ref q1, .int (nI g), .ref q3, .ref q4, .ref q5, .ref q6, .int 1, .int gr, .int kd, .long w10, .ref q11, .int mk, .long w13, .long w14]))] := hD
  refine lv_iinc (v := 4) (lv' := [(1, .int 4), (0, .ref mo)]) hx hb dX6_mark_44 hl (k := 0) rfl (by first | rfl | decide) (by decide) rfl (fun ls hl => ?_)
  refine lv_goto (tgt := 23) hx hb dX6_mark_47 (by decide) ?_
  refine lv_iload_n hx hb dX6_mark_23 rfl (lv_at hl 0 rfl) ?_
  refine lv_bipush (v := 12) hx hb dX6_mark_24 (by decide) ?_
  refine lv_icmp_ge (tgt := 50) hx hb dX6_mark_26 (by decide) (fun c_12 => absurd c_12 (by decide)) (fun c_12 => ?_)
  refine lv_aload_n hx hb dX6_mark_29 rfl (lv_at hl 1 rfl) ?_
  refine va_get (D := D) (ci := 6) (v := .ref q11) (C := RX6) (T := TX6) (N := 15) hx hb hts (by decide +kernel) hown hK hP 1 rfl rfl 11 (by decide) (hts (.fieldLink RX6 25 "JoinDeskModel" "at" "[I") (by decide +kernel)) (fun _ h9 => h9) rfl dX6_mark_30 ?_
  refine lv_bipush (v := 12) hx hb dX6_mark_33 (by decide) ?_
  refine lv_iload_n hx hb dX6_mark_35 rfl (lv_at hl 0 rfl) ?_
  refine lv_iadd hx hb dX6_mark_36 ?_
  refine lv_topi (fun z_13 e_z_13 => ?_)
  obtain rfl : z_13 = 16 := e_z_13.trans (by decide)
  refine lv_aload_n hx hb dX6_mark_37 rfl (lv_at hl 1 rfl) ?_
  refine va_get (D := D) (ci := 6) (v := .ref q11) (C := RX6) (T := TX6) (N := 15) hx hb hts (by decide +kernel) hown hK hP 1 rfl rfl 11 (by decide) (hts (.fieldLink RX6 25 "JoinDeskModel" "at" "[I") (by decide +kernel)) (fun _ h9 => h9) rfl dX6_mark_38 ?_
  refine lv_iload_n hx hb dX6_mark_41 rfl (lv_at hl 0 rfl) ?_
  refine va_iald hx hb hK hP 0 0 rfl rfl (by unfold vp_in; decide) dX6_mark_42 ?_
  refine W.eq (g2 := F0 m 43 ls [.int t4, .int 16, .ref q11]) rfl ?_
  refine va_iast hx hb hK hP hD hS 0 0 rfl rfl (by unfold vp_in; decide) dX6_mark_43 (fun H locs hP hD hS => ?_)
  rw [jl_upd (show (16 : Int32).toNatClampNeg = 16 by decide) (Nat.le_of_ble_eq_true rfl)] at hP hD
  have hP : va_P D vwCl [(q11, .inl (cI, 24, .inl (jl [t0, t1, t2, t3, t4, t5, t6, t7, t8, t9, t10, t11, t0, t1, t2, t3, t4, t17, t18, t19, t20, t21, t22, t23]))), (mo, .inr (6, [.int 0, .ref q1, .int (nI g), .ref q3, .ref q4, .ref q5, .ref q6, .int 1, .int gr, .int kd, .long w10, .ref q11, .int mk, .long w13, .long w14]))] H := hP
  have hD : va_D A [(q11, .inl (cI, 24, .inl (jl [t0, t1, t2, t3, t4, t5, t6, t7, t8, t9, t10, t11, t0, t1, t2, t3, t4, t17, t18, t19, t20, t21, t22, t23]))), (mo, .inr (6, [.int 0, .ref q1, .int (nI g), .ref q3, .ref q4, .ref q5, .ref q6, .int 1, .int gr, .int kd, .long w10, .ref q11, .int mk, .long w13, .long w14]))] := hD
  refine lv_iinc (v := 5) (lv' := [(1, .int 5), (0, .ref mo)]) hx hb dX6_mark_44 hl (k := 0) rfl (by first | rfl | decide) (by decide) rfl (fun ls hl => ?_)
  refine lv_goto (tgt := 23) hx hb dX6_mark_47 (by decide) ?_
  refine lv_iload_n hx hb dX6_mark_23 rfl (lv_at hl 0 rfl) ?_
  refine lv_bipush (v := 12) hx hb dX6_mark_24 (by decide) ?_
  refine lv_icmp_ge (tgt := 50) hx hb dX6_mark_26 (by decide) (fun c_14 => absurd c_14 (by decide)) (fun c_14 => ?_)
  refine lv_aload_n hx hb dX6_mark_29 rfl (lv_at hl 1 rfl) ?_
  refine va_get (D := D) (ci := 6) (v := .ref q11) (C := RX6) (T := TX6) (N := 15) hx hb hts (by decide +kernel) hown hK hP 1 rfl rfl 11 (by decide) (hts (.fieldLink RX6 25 "JoinDeskModel" "at" "[I") (by decide +kernel)) (fun _ h9 => h9) rfl dX6_mark_30 ?_
  refine lv_bipush (v := 12) hx hb dX6_mark_33 (by decide) ?_
  refine lv_iload_n hx hb dX6_mark_35 rfl (lv_at hl 0 rfl) ?_
  refine lv_iadd hx hb dX6_mark_36 ?_
  refine lv_topi (fun z_15 e_z_15 => ?_)
  obtain rfl : z_15 = 17 := e_z_15.trans (by decide)
  refine lv_aload_n hx hb dX6_mark_37 rfl (lv_at hl 1 rfl) ?_
  refine va_get (D := D) (ci := 6) (v := .ref q11) (C := RX6) (T := TX6) (N := 15) hx hb hts (by decide +kernel) hown hK hP 1 rfl rfl 11 (by decide) (hts (.fieldLink RX6 25 "JoinDeskModel" "at" "[I") (by decide +kernel)) (fun _ h9 => h9) rfl dX6_mark_38 ?_
  refine lv_iload_n hx hb dX6_mark_41 rfl (lv_at hl 0 rfl) ?_
  refine va_iald hx hb hK hP 0 0 rfl rfl (by unfold vp_in; decide) dX6_mark_42 ?_
  refine W.eq (g2 := F0 m 43 ls [.int t5, .int 17, .ref q11]) rfl ?_
  refine va_iast hx hb hK hP hD hS 0 0 rfl rfl (by unfold vp_in; decide) dX6_mark_43 (fun H locs hP hD hS => ?_)
  rw [jl_upd (show (17 : Int32).toNatClampNeg = 17 by decide) (Nat.le_of_ble_eq_true rfl)] at hP hD
  have hP : va_P D vwCl [(q11, .inl (cI, 24, .inl (jl [t0, t1, t2, t3, t4, t5, t6, t7, t8, t9, t10, t11, t0, t1, t2, t3, t4, t5, t18, t19, t20, t21, t22, t23]))), (mo, .inr (6, [.int 0, .ref q1, .int (nI g), .ref q3, .ref q4, .ref q5, .ref q6, .int 1, .int gr, .int kd, .long w10, .ref q11, .int mk, .long w13, .long w14]))] H := hP
  have hD : va_D A [(q11, .inl (cI, 24, .inl (jl [t0, t1, t2, t3, t4, t5, t6, t7, t8, t9, t10, t11, t0, t1, t2, t3, t4, t5, t18, t19, t20, t21, t22, t23]))), (mo, .inr (6, [.int 0, .ref q1, .int (nI g), .ref q3, .ref q4, .ref q5, .ref q6, .int 1, .int gr, .int kd, .long w10, .ref q11, .int mk, .long w13, .long w14]))] := hD
  refine lv_iinc (v := 6) (lv' := [(1, .int 6), (0, .ref mo)]) hx hb dX6_mark_44 hl (k := 0) rfl (by first | rfl | decide) (by decide) rfl (fun ls hl => ?_)
  refine lv_goto (tgt := 23) hx hb dX6_mark_47 (by decide) ?_
  refine lv_iload_n hx hb dX6_mark_23 rfl (lv_at hl 0 rfl) ?_
  refine lv_bipush (v := 12) hx hb dX6_mark_24 (by decide) ?_
  refine lv_icmp_ge (tgt := 50) hx hb dX6_mark_26 (by decide) (fun c_16 => absurd c_16 (by decide)) (fun c_16 => ?_)
  refine lv_aload_n hx hb dX6_mark_29 rfl (lv_at hl 1 rfl) ?_
  refine va_get (D := D) (ci := 6) (v := .ref q11) (C := RX6) (T := TX6) (N := 15) hx hb hts (by decide +kernel) hown hK hP 1 rfl rfl 11 (by decide) (hts (.fieldLink RX6 25 "JoinDeskModel" "at" "[I") (by decide +kernel)) (fun _ h9 => h9) rfl dX6_mark_30 ?_
  refine lv_bipush (v := 12) hx hb dX6_mark_33 (by decide) ?_
  refine lv_iload_n hx hb dX6_mark_35 rfl (lv_at hl 0 rfl) ?_
  refine lv_iadd hx hb dX6_mark_36 ?_
  refine lv_topi (fun z_17 e_z_17 => ?_)
  obtain rfl : z_17 = 18 := e_z_17.trans (by decide)
  refine lv_aload_n hx hb dX6_mark_37 rfl (lv_at hl 1 rfl) ?_
  refine va_get (D := D) (ci := 6) (v := .ref q11) (C := RX6) (T := TX6) (N := 15) hx hb hts (by decide +kernel) hown hK hP 1 rfl rfl 11 (by decide) (hts (.fieldLink RX6 25 "JoinDeskModel" "at" "[I") (by decide +kernel)) (fun _ h9 => h9) rfl dX6_mark_38 ?_
  refine lv_iload_n hx hb dX6_mark_41 rfl (lv_at hl 0 rfl) ?_
  refine va_iald hx hb hK hP 0 0 rfl rfl (by unfold vp_in; decide) dX6_mark_42 ?_
  refine W.eq (g2 := F0 m 43 ls [.int t6, .int 18, .ref q11]) rfl ?_
  refine va_iast hx hb hK hP hD hS 0 0 rfl rfl (by unfold vp_in; decide) dX6_mark_43 (fun H locs hP hD hS => ?_)
  rw [jl_upd (show (18 : Int32).toNatClampNeg = 18 by decide) (Nat.le_of_ble_eq_true rfl)] at hP hD
  have hP : va_P D vwCl [(q11, .inl (cI, 24, .inl (jl [t0, t1, t2, t3, t4, t5, t6, t7, t8, t9, t10, t11, t0, t1, t2, t3, t4, t5, t6, t19, t20, t21, t22, t23]))), (mo, .inr (6, [.int 0, .ref q1, .int (nI g), .ref q3, .ref q4, .ref q5, .ref q6, .int 1, .int gr, .int kd, .long w10, .ref q11, .int mk, .long w13, .long w14]))] H := hP
  have hD : va_D A [(q11, .inl (cI, 24, .inl (jl [t0, t1, t2, t3, t4, t5, t6, t7, t8, t9, t10, t11, t0, t1, t2, t3, t4, t5, t6, t19, t20, t21, t22, t23]))), (mo, .inr (6, [.int 0, .ref q1, .int (nI g), .ref q3, .ref q4, .ref q5, .ref q6, .int 1, .int gr, .int kd, .long w10, .ref q11, .int mk, .long w13, .long w14]))] := hD
  refine lv_iinc (v := 7) (lv' := [(1, .int 7), (0, .ref mo)]) hx hb dX6_mark_44 hl (k := 0) rfl (by first | rfl | decide) (by decide) rfl (fun ls hl => ?_)
  refine lv_goto (tgt := 23) hx hb dX6_mark_47 (by decide) ?_
  refine lv_iload_n hx hb dX6_mark_23 rfl (lv_at hl 0 rfl) ?_
  refine lv_bipush (v := 12) hx hb dX6_mark_24 (by decide) ?_
  refine lv_icmp_ge (tgt := 50) hx hb dX6_mark_26 (by decide) (fun c_18 => absurd c_18 (by decide)) (fun c_18 => ?_)
  refine lv_aload_n hx hb dX6_mark_29 rfl (lv_at hl 1 rfl) ?_
  refine va_get (D := D) (ci := 6) (v := .ref q11) (C := RX6) (T := TX6) (N := 15) hx hb hts (by decide +kernel) hown hK hP 1 rfl rfl 11 (by decide) (hts (.fieldLink RX6 25 "JoinDeskModel" "at" "[I") (by decide +kernel)) (fun _ h9 => h9) rfl dX6_mark_30 ?_
  refine lv_bipush (v := 12) hx hb dX6_mark_33 (by decide) ?_
  refine lv_iload_n hx hb dX6_mark_35 rfl (lv_at hl 0 rfl) ?_
  refine lv_iadd hx hb dX6_mark_36 ?_
  refine lv_topi (fun z_19 e_z_19 => ?_)
  obtain rfl : z_19 = 19 := e_z_19.trans (by decide)
  refine lv_aload_n hx hb dX6_mark_37 rfl (lv_at hl 1 rfl) ?_
  refine va_get (D := D) (ci := 6) (v := .ref q11) (C := RX6) (T := TX6) (N := 15) hx hb hts (by decide +kernel) hown hK hP 1 rfl rfl 11 (by decide) (hts (.fieldLink RX6 25 "JoinDeskModel" "at" "[I") (by decide +kernel)) (fun _ h9 => h9) rfl dX6_mark_38 ?_
  refine lv_iload_n hx hb dX6_mark_41 rfl (lv_at hl 0 rfl) ?_
  refine va_iald hx hb hK hP 0 0 rfl rfl (by unfold vp_in; decide) dX6_mark_42 ?_
  refine W.eq (g2 := F0 m 43 ls [.int t7, .int 19, .ref q11]) rfl ?_
  refine va_iast hx hb hK hP hD hS 0 0 rfl rfl (by unfold vp_in; decide) dX6_mark_43 (fun H locs hP hD hS => ?_)
  rw [jl_upd (show (19 : Int32).toNatClampNeg = 19 by decide) (Nat.le_of_ble_eq_true rfl)] at hP hD
  have hP : va_P D vwCl [(q11, .inl (cI, 24, .inl (jl [t0, t1, t2, t3, t4, t5, t6, t7, t8, t9, t10, t11, t0, t1, t2, t3, t4, t5, t6, t7, t20, t21, t22, t23]))), (mo, .inr (6, [.int 0, .ref q1, .int (nI g), .ref q3, .ref q4, .ref q5, .ref q6, .int 1, .int gr, .int kd, .long w10, .ref q11, .int mk, .long w13, .long w14]))] H := hP
  have hD : va_D A [(q11, .inl (cI, 24, .inl (jl [t0, t1, t2, t3, t4, t5, t6, t7, t8, t9, t10, t11, t0, t1, t2, t3, t4, t5, t6, t7, t20, t21, t22, t23]))), (mo, .inr (6, [.int 0, .ref q1, .int (nI g), .ref q3, .ref q4, .ref q5, .ref q6, .int 1, .int gr, .int kd, .long w10, .ref q11, .int mk, .long w13, .long w14]))] := hD
  refine lv_iinc (v := 8) (lv' := [(1, .int 8), (0, .ref mo)]) hx hb dX6_mark_44 hl (k := 0) rfl (by first | rfl | decide) (by decide) rfl (fun ls hl => ?_)
  refine lv_goto (tgt := 23) hx hb dX6_mark_47 (by decide) ?_
  refine lv_iload_n hx hb dX6_mark_23 rfl (lv_at hl 0 rfl) ?_
  refine lv_bipush (v := 12) hx hb dX6_mark_24 (by decide) ?_
  refine lv_icmp_ge (tgt := 50) hx hb dX6_mark_26 (by decide) (fun c_20 => absurd c_20 (by decide)) (fun c_20 => ?_)
  refine lv_aload_n hx hb dX6_mark_29 rfl (lv_at hl 1 rfl) ?_
  refine va_get (D := D) (ci := 6) (v := .ref q11) (C := RX6) (T := TX6) (N := 15) hx hb hts (by decide +kernel) hown hK hP 1 rfl rfl 11 (by decide) (hts (.fieldLink RX6 25 "JoinDeskModel" "at" "[I") (by decide +kernel)) (fun _ h9 => h9) rfl dX6_mark_30 ?_
  refine lv_bipush (v := 12) hx hb dX6_mark_33 (by decide) ?_
  refine lv_iload_n hx hb dX6_mark_35 rfl (lv_at hl 0 rfl) ?_
  refine lv_iadd hx hb dX6_mark_36 ?_
  refine lv_topi (fun z_21 e_z_21 => ?_)
  obtain rfl : z_21 = 20 := e_z_21.trans (by decide)
  refine lv_aload_n hx hb dX6_mark_37 rfl (lv_at hl 1 rfl) ?_
  refine va_get (D := D) (ci := 6) (v := .ref q11) (C := RX6) (T := TX6) (N := 15) hx hb hts (by decide +kernel) hown hK hP 1 rfl rfl 11 (by decide) (hts (.fieldLink RX6 25 "JoinDeskModel" "at" "[I") (by decide +kernel)) (fun _ h9 => h9) rfl dX6_mark_38 ?_
  refine lv_iload_n hx hb dX6_mark_41 rfl (lv_at hl 0 rfl) ?_
  refine va_iald hx hb hK hP 0 0 rfl rfl (by unfold vp_in; decide) dX6_mark_42 ?_
  refine W.eq (g2 := F0 m 43 ls [.int t8, .int 20, .ref q11]) rfl ?_
  refine va_iast hx hb hK hP hD hS 0 0 rfl rfl (by unfold vp_in; decide) dX6_mark_43 (fun H locs hP hD hS => ?_)
  rw [jl_upd (show (20 : Int32).toNatClampNeg = 20 by decide) (Nat.le_of_ble_eq_true rfl)] at hP hD
  have hP : va_P D vwCl [(q11, .inl (cI, 24, .inl (jl [t0, t1, t2, t3, t4, t5, t6, t7, t8, t9, t10, t11, t0, t1, t2, t3, t4, t5, t6, t7, t8, t21, t22, t23]))), (mo, .inr (6, [.int 0, .ref q1, .int (nI g), .ref q3, .ref q4, .ref q5, .ref q6, .int 1, .int gr, .int kd, .long w10, .ref q11, .int mk, .long w13, .long w14]))] H := hP
  have hD : va_D A [(q11, .inl (cI, 24, .inl (jl [t0, t1, t2, t3, t4, t5, t6, t7, t8, t9, t10, t11, t0, t1, t2, t3, t4, t5, t6, t7, t8, t21, t22, t23]))), (mo, .inr (6, [.int 0, .ref q1, .int (nI g), .ref q3, .ref q4, .ref q5, .ref q6, .int 1, .int gr, .int kd, .long w10, .ref q11, .int mk, .long w13, .long w14]))] := hD
  refine lv_iinc (v := 9) (lv' := [(1, .int 9), (0, .ref mo)]) hx hb dX6_mark_44 hl (k := 0) rfl (by first | rfl | decide) (by decide) rfl (fun ls hl => ?_)
  refine lv_goto (tgt := 23) hx hb dX6_mark_47 (by decide) ?_
  refine lv_iload_n hx hb dX6_mark_23 rfl (lv_at hl 0 rfl) ?_
  refine lv_bipush (v := 12) hx hb dX6_mark_24 (by decide) ?_
  refine lv_icmp_ge (tgt := 50) hx hb dX6_mark_26 (by decide) (fun c_22 => absurd c_22 (by decide)) (fun c_22 => ?_)
  refine lv_aload_n hx hb dX6_mark_29 rfl (lv_at hl 1 rfl) ?_
  refine va_get (D := D) (ci := 6) (v := .ref q11) (C := RX6) (T := TX6) (N := 15) hx hb hts (by decide +kernel) hown hK hP 1 rfl rfl 11 (by decide) (hts (.fieldLink RX6 25 "JoinDeskModel" "at" "[I") (by decide +kernel)) (fun _ h9 => h9) rfl dX6_mark_30 ?_
  refine lv_bipush (v := 12) hx hb dX6_mark_33 (by decide) ?_
  refine lv_iload_n hx hb dX6_mark_35 rfl (lv_at hl 0 rfl) ?_
  refine lv_iadd hx hb dX6_mark_36 ?_
  refine lv_topi (fun z_23 e_z_23 => ?_)
  obtain rfl : z_23 = 21 := e_z_23.trans (by decide)
  refine lv_aload_n hx hb dX6_mark_37 rfl (lv_at hl 1 rfl) ?_
  refine va_get (D := D) (ci := 6) (v := .ref q11) (C := RX6) (T := TX6) (N := 15) hx hb hts (by decide +kernel) hown hK hP 1 rfl rfl 11 (by decide) (hts (.fieldLink RX6 25 "JoinDeskModel" "at" "[I") (by decide +kernel)) (fun _ h9 => h9) rfl dX6_mark_38 ?_
  refine lv_iload_n hx hb dX6_mark_41 rfl (lv_at hl 0 rfl) ?_
  refine va_iald hx hb hK hP 0 0 rfl rfl (by unfold vp_in; decide) dX6_mark_42 ?_
  refine W.eq (g2 := F0 m 43 ls [.int t9, .int 21, .ref q11]) rfl ?_
  refine va_iast hx hb hK hP hD hS 0 0 rfl rfl (by unfold vp_in; decide) dX6_mark_43 (fun H locs hP hD hS => ?_)
  rw [jl_upd (show (21 : Int32).toNatClampNeg = 21 by decide) (Nat.le_of_ble_eq_true rfl)] at hP hD
  have hP : va_P D vwCl [(q11, .inl (cI, 24, .inl (jl [t0, t1, t2, t3, t4, t5, t6, t7, t8, t9, t10, t11, t0, t1, t2, t3, t4, t5, t6, t7, t8, t9, t22, t23]))), (mo, .inr (6, [.int 0, .ref q1, .int (nI g), .ref q3, .ref q4, .ref q5, .ref q6, .int 1, .int gr, .int kd, .long w10, .ref q11, .int mk, .long w13, .long w14]))] H := hP
  have hD : va_D A [(q11, .inl (cI, 24, .inl (jl [t0, t1, t2, t3, t4, t5, t6, t7, t8, t9, t10, t11, t0, t1, t2, t3, t4, t5, t6, t7, t8, t9, t22, t23]))), (mo, .inr (6, [.int 0, .ref q1, .int (nI g), .ref q3, .ref q4, .ref q5, .ref q6, .int 1, .int gr, .int kd, .long w10, .ref q11, .int mk, .long w13, .long w14]))] := hD
  refine lv_iinc (v := 10) (lv' := [(1, .int 10), (0, .ref mo)]) hx hb dX6_mark_44 hl (k := 0) rfl (by first | rfl | decide) (by decide) rfl (fun ls hl => ?_)
  refine lv_goto (tgt := 23) hx hb dX6_mark_47 (by decide) ?_
  refine lv_iload_n hx hb dX6_mark_23 rfl (lv_at hl 0 rfl) ?_
  refine lv_bipush (v := 12) hx hb dX6_mark_24 (by decide) ?_
  refine lv_icmp_ge (tgt := 50) hx hb dX6_mark_26 (by decide) (fun c_24 => absurd c_24 (by decide)) (fun c_24 => ?_)
  refine lv_aload_n hx hb dX6_mark_29 rfl (lv_at hl 1 rfl) ?_
  refine va_get (D := D) (ci := 6) (v := .ref q11) (C := RX6) (T := TX6) (N := 15) hx hb hts (by decide +kernel) hown hK hP 1 rfl rfl 11 (by decide) (hts (.fieldLink RX6 25 "JoinDeskModel" "at" "[I") (by decide +kernel)) (fun _ h9 => h9) rfl dX6_mark_30 ?_
  refine lv_bipush (v := 12) hx hb dX6_mark_33 (by decide) ?_
  refine lv_iload_n hx hb dX6_mark_35 rfl (lv_at hl 0 rfl) ?_
  refine lv_iadd hx hb dX6_mark_36 ?_
  refine lv_topi (fun z_25 e_z_25 => ?_)
  obtain rfl : z_25 = 22 := e_z_25.trans (by decide)
  refine lv_aload_n hx hb dX6_mark_37 rfl (lv_at hl 1 rfl) ?_
  refine va_get (D := D) (ci := 6) (v := .ref q11) (C := RX6) (T := TX6) (N := 15) hx hb hts (by decide +kernel) hown hK hP 1 rfl rfl 11 (by decide) (hts (.fieldLink RX6 25 "JoinDeskModel" "at" "[I") (by decide +kernel)) (fun _ h9 => h9) rfl dX6_mark_38 ?_
  refine lv_iload_n hx hb dX6_mark_41 rfl (lv_at hl 0 rfl) ?_
  refine va_iald hx hb hK hP 0 0 rfl rfl (by unfold vp_in; decide) dX6_mark_42 ?_
  refine W.eq (g2 := F0 m 43 ls [.int t10, .int 22, .ref q11]) rfl ?_
  refine va_iast hx hb hK hP hD hS 0 0 rfl rfl (by unfold vp_in; decide) dX6_mark_43 (fun H locs hP hD hS => ?_)
  rw [jl_upd (show (22 : Int32).toNatClampNeg = 22 by decide) (Nat.le_of_ble_eq_true rfl)] at hP hD
  have hP : va_P D vwCl [(q11, .inl (cI, 24, .inl (jl [t0, t1, t2, t3, t4, t5, t6, t7, t8, t9, t10, t11, t0, t1, t2, t3, t4, t5, t6, t7, t8, t9, t10, t23]))), (mo, .inr (6, [.int 0, .ref q1, .int (nI g), .ref q3, .ref q4, .ref q5, .ref q6, .int 1, .int gr, .int kd, .long w10, .ref q11, .int mk, .long w13, .long w14]))] H := hP
  have hD : va_D A [(q11, .inl (cI, 24, .inl (jl [t0, t1, t2, t3, t4, t5, t6, t7, t8, t9, t10, t11, t0, t1, t2, t3, t4, t5, t6, t7, t8, t9, t10, t23]))), (mo, .inr (6, [.int 0, .ref q1, .int (nI g), .ref q3, .ref q4, .ref q5, .ref q6, .int 1, .int gr, .int kd, .long w10, .ref q11, .int mk, .long w13, .long w14]))] := hD
  refine lv_iinc (v := 11) (lv' := [(1, .int 11), (0, .ref mo)]) hx hb dX6_mark_44 hl (k := 0) rfl (by first | rfl | decide) (by decide) rfl (fun ls hl => ?_)
  refine lv_goto (tgt := 23) hx hb dX6_mark_47 (by decide) ?_
  refine lv_iload_n hx hb dX6_mark_23 rfl (lv_at hl 0 rfl) ?_
  refine lv_bipush (v := 12) hx hb dX6_mark_24 (by decide) ?_
  refine lv_icmp_ge (tgt := 50) hx hb dX6_mark_26 (by decide) (fun c_26 => absurd c_26 (by decide)) (fun c_26 => ?_)
  refine lv_aload_n hx hb dX6_mark_29 rfl (lv_at hl 1 rfl) ?_
  refine va_get (D := D) (ci := 6) (v := .ref q11) (C := RX6) (T := TX6) (N := 15) hx hb hts (by decide +kernel) hown hK hP 1 rfl rfl 11 (by decide) (hts (.fieldLink RX6 25 "JoinDeskModel" "at" "[I") (by decide +kernel)) (fun _ h9 => h9) rfl dX6_mark_30 ?_
  refine lv_bipush (v := 12) hx hb dX6_mark_33 (by decide) ?_
  refine lv_iload_n hx hb dX6_mark_35 rfl (lv_at hl 0 rfl) ?_
  refine lv_iadd hx hb dX6_mark_36 ?_
  refine lv_topi (fun z_27 e_z_27 => ?_)
  obtain rfl : z_27 = 23 := e_z_27.trans (by decide)
  refine lv_aload_n hx hb dX6_mark_37 rfl (lv_at hl 1 rfl) ?_
  refine va_get (D := D) (ci := 6) (v := .ref q11) (C := RX6) (T := TX6) (N := 15) hx hb hts (by decide +kernel) hown hK hP 1 rfl rfl 11 (by decide) (hts (.fieldLink RX6 25 "JoinDeskModel" "at" "[I") (by decide +kernel)) (fun _ h9 => h9) rfl dX6_mark_38 ?_
  refine lv_iload_n hx hb dX6_mark_41 rfl (lv_at hl 0 rfl) ?_
  refine va_iald hx hb hK hP 0 0 rfl rfl (by unfold vp_in; decide) dX6_mark_42 ?_
  refine W.eq (g2 := F0 m 43 ls [.int t11, .int 23, .ref q11]) rfl ?_
  refine va_iast hx hb hK hP hD hS 0 0 rfl rfl (by unfold vp_in; decide) dX6_mark_43 (fun H locs hP hD hS => ?_)
  rw [jl_upd (show (23 : Int32).toNatClampNeg = 23 by decide) (Nat.le_of_ble_eq_true rfl)] at hP hD
  have hP : va_P D vwCl [(q11, .inl (cI, 24, .inl (jl [t0, t1, t2, t3, t4, t5, t6, t7, t8, t9, t10, t11, t0, t1, t2, t3, t4, t5, t6, t7, t8, t9, t10, t11]))), (mo, .inr (6, [.int 0, .ref q1, .int (nI g), .ref q3, .ref q4, .ref q5, .ref q6, .int 1, .int gr, .int kd, .long w10, .ref q11, .int mk, .long w13, .long w14]))] H := hP
  have hD : va_D A [(q11, .inl (cI, 24, .inl (jl [t0, t1, t2, t3, t4, t5, t6, t7, t8, t9, t10, t11, t0, t1, t2, t3, t4, t5, t6, t7, t8, t9, t10, t11]))), (mo, .inr (6, [.int 0, .ref q1, .int (nI g), .ref q3, .ref q4, .ref q5, .ref q6, .int 1, .int gr, .int kd, .long w10, .ref q11, .int mk, .long w13, .long w14]))] := hD
  refine lv_iinc (v := 12) (lv' := [(1, .int 12), (0, .ref mo)]) hx hb dX6_mark_44 hl (k := 0) rfl (by first | rfl | decide) (by decide) rfl (fun ls hl => ?_)
  refine lv_goto (tgt := 23) hx hb dX6_mark_47 (by decide) ?_
  refine lv_iload_n hx hb dX6_mark_23 rfl (lv_at hl 0 rfl) ?_
  refine lv_bipush (v := 12) hx hb dX6_mark_24 (by decide) ?_
  refine lv_icmp_ge (tgt := 50) hx hb dX6_mark_26 (by decide) (fun c_28 => ?_) (fun c_28 => absurd c_28 (by decide))
  refine lv_aload_n hx hb dX6_mark_50 rfl (lv_at hl 1 rfl) ?_
  refine lv_iconst (v := 1) hx hb dX6_mark_51 (by decide) ?_
  refine va_put (D := D) (ci := 6) (v := .int 1) (ty := .boolean) (C := RX6) (T := TX6) (N := 15) hx hb hts (by decide +kernel) tyX6 tyX6_ok nmX6 hown hK hP hD hS 1 rfl rfl 12 (by decide) (hts (.fieldLink RX6 57 "JoinDeskModel" "marked" "Z") (by decide +kernel)) (fun _ h9 => h9) rfl (by decide +kernel) rfl rfl (Nat.le_of_ble_eq_true rfl) dX6_mark_52 (fun H locs hP hD hS => ?_)
  have hP : va_P D vwCl [(q11, .inl (cI, 24, .inl (jl [t0, t1, t2, t3, t4, t5, t6, t7, t8, t9, t10, t11, t0, t1, t2, t3, t4, t5, t6, t7, t8, t9, t10, t11]))), (mo, .inr (6, [.int 0, .ref q1, .int (nI g), .ref q3, .ref q4, .ref q5, .ref q6, .int 1, .int gr, .int kd, .long w10, .ref q11, .int 1, .long w13, .long w14]))] H := hP
  have hD : va_D A [(q11, .inl (cI, 24, .inl (jl [t0, t1, t2, t3, t4, t5, t6, t7, t8, t9, t10, t11, t0, t1, t2, t3, t4, t5, t6, t7, t8, t9, t10, t11]))), (mo, .inr (6, [.int 0, .ref q1, .int (nI g), .ref q3, .ref q4, .ref q5, .ref q6, .int 1, .int gr, .int kd, .long w10, .ref q11, .int 1, .long w13, .long w14]))] := hD
  refine lv_aload_n hx hb dX6_mark_55 rfl (lv_at hl 1 rfl) ?_
  refine va_get (D := D) (ci := 6) (v := .ref q11) (C := RX6) (T := TX6) (N := 15) hx hb hts (by decide +kernel) hown hK hP 1 rfl rfl 11 (by decide) (hts (.fieldLink RX6 25 "JoinDeskModel" "at" "[I") (by decide +kernel)) (fun _ h9 => h9) rfl dX6_mark_56 ?_
  refine lv_bipush (v := 10) hx hb dX6_mark_59 (by decide) ?_
  refine va_iald hx hb hK hP 0 0 rfl rfl (by unfold vp_in; decide) dX6_mark_61 ?_
  refine W.eq (g2 := F0 m 62 ls [.int t10]) rfl ?_
  have hP := hP.sub (ws' := [(mo, .inr (6, [.int 0, .ref q1, .int (nI g), .ref q3, .ref q4, .ref q5, .ref q6, .int 1, .int gr, .int kd, .long w10, .ref q11, .int 1, .long w13, .long w14])), (q11, .inl (cI, 24, .inl (jl [t0, t1, t2, t3, t4, t5, t6, t7, t8, t9, t10, t11, t0, t1, t2, t3, t4, t5, t6, t7, t8, t9, t10, t11])))]) [1, 0] rfl
  have hD := hD.sub (ws' := [(mo, .inr (6, [.int 0, .ref q1, .int (nI g), .ref q3, .ref q4, .ref q5, .ref q6, .int 1, .int gr, .int kd, .long w10, .ref q11, .int 1, .long w13, .long w14])), (q11, .inl (cI, 24, .inl (jl [t0, t1, t2, t3, t4, t5, t6, t7, t8, t9, t10, t11, t0, t1, t2, t3, t4, t5, t6, t7, t8, t9, t10, t11])))]) [1, 0] (by decide) rfl
  refine W.widen (k := 0) (n := 0) (by omega) (by omega) ?_
  exact W.iret (v := t10) hx hb hr (fun t ht hW => ⟨⟨t10, [(mo, .inr (6, [.int 0, .ref q1, .int (nI g), .ref q3, .ref q4, .ref q5, .ref q6, .int 1, .int gr, .int kd, .long w10, .ref q11, .int 1, .long w13, .long w14])), (q11, .inl (cI, 24, .inl (jl [t0, t1, t2, t3, t4, t5, t6, t7, t8, t9, t10, t11, t0, t1, t2, t3, t4, t5, t6, t7, t8, t9, t10, t11])))], rfl, (by exact ⟨rfl, rfl⟩), by rw [ht]; exact hP, hD⟩, hS.F ht⟩) hS.2.2 dX6_mark_62
set_option maxHeartbeats 1000000 in
set_option maxRecDepth 100000 in
theorem gM_back (l : Launch) (D : va_G) (cI cL cQ : ClassId) (mo : Nat) (g : Nat) (q1 : Nat) (q3 : Nat) (q4 : Nat) (q5 : Nat) (q6 : Nat) (q11 : Nat) (z0 : Int32) (gr : Int32) (kd : Int32) (w10 : Int64) (w13 : Int64) (w14 : Int64) (t0 : Int32) (t1 : Int32) (t2 : Int32) (t3 : Int32) (t4 : Int32) (t5 : Int32) (t6 : Int32) (t7 : Int32) (t8 : Int32) (t9 : Int32) (t10 : Int32) (t11 : Int32) (t12 : Int32) (t13 : Int32) (t14 : Int32) (t15 : Int32) (t16 : Int32) (t17 : Int32) (t18 : Int32) (t19 : Int32) (t20 : Int32) (t21 : Int32) (t22 : Int32) (t23 : Int32) (sz : Nat) : Met l yX6_back wsX6_back ({ frames := 1, cells := 0, slots := 0, locals := 21 }) (jw_P D vwCl (jT cI cL cQ) cL cQ [.ref mo] [(mo, .inr (6, [.int z0, .ref q1, .int (nI g), .ref q3, .ref q4, .ref q5, .ref q6, .int 1, .int gr, .int kd, .long w10, .ref q11, .int 1, .long w13, .long w14])), (q11, .inl (cI, 24, .inl (jl [t0, t1, t2, t3, t4, t5, t6, t7, t8, t9, t10, t11, t12, t13, t14, t15, t16, t17, t18, t19, t20, t21, t22, t23])))] sz) (va_Qi (fun (r : Int32) (u : va_W) => r = t22 ∧ u = [(mo, .inr (6, [.int 0, .ref q1, .int (nI g), .ref q3, .ref q4, .ref q5, .ref q6, .int 1, .int gr, .int kd, .long w10, .ref q11, .int 1, .long w13, .long w14])), (q11, .inl (cI, 24, .inl (jl [t12, t13, t14, t15, t16, t17, t18, t19, t20, t21, t22, t23, t12, t13, t14, t15, t16, t17, t18, t19, t20, t21, t22, t23])))]) (jw_B D vwCl (va_A [(mo, .inr (6, [.int z0, .ref q1, .int (nI g), .ref q3, .ref q4, .ref q5, .ref q6, .int 1, .int gr, .int kd, .long w10, .ref q11, .int 1, .long w13, .long w14])), (q11, .inl (cI, 24, .inl (jl [t0, t1, t2, t3, t4, t5, t6, t7, t8, t9, t10, t11, t12, t13, t14, t15, t16, t17, t18, t19, t20, t21, t22, t23])))] sz) (fun u : va_W => u)) (va_A [(mo, .inr (6, [.int z0, .ref q1, .int (nI g), .ref q3, .ref q4, .ref q5, .ref q6, .int 1, .int gr, .int kd, .long w10, .ref q11, .int 1, .long w13, .long w14])), (q11, .inl (cI, 24, .inl (jl [t0, t1, t2, t3, t4, t5, t6, t7, t8, t9, t10, t11, t12, t13, t14, t15, t16, t17, t18, t19, t20, t21, t22, t23])))] sz)) 0 0 (va_A [(mo, .inr (6, [.int z0, .ref q1, .int (nI g), .ref q3, .ref q4, .ref q5, .ref q6, .int 1, .int gr, .int kd, .long w10, .ref q11, .int 1, .long w13, .long w14])), (q11, .inl (cI, 24, .inl (jl [t0, t1, t2, t3, t4, t5, t6, t7, t8, t9, t10, t11, t12, t13, t14, t15, t16, t17, t18, t19, t20, t21, t22, t23])))] sz) := by
  refine Met.ofW (cc := cX6_back) (maxL := 2) (ret := (some .int)) (by decide) rfl ?_
  intro p e s m args below meth c s₁ B hml hv
  obtain ⟨rfl, hsz, hP, hK, hN, hD0⟩ := hv
  have hx := B.exec
  have hb := B.bytes
  have hr := B.returns
  have hts := atoms_spec (ws := wsX6_back) B.pre
  have hown : s.vm.findClass RX6 = some m.cls := findClass_of_methodNamed B.named
  have hlocks := B.notSynchronized
  subst hsz
  have hD := hD0.self (sz := s.heap.size)
  generalize hAe : va_A [(mo, .inr (6, [.int z0, .ref q1, .int (nI g), .ref q3, .ref q4, .ref q5, .ref q6, .int 1, .int gr, .int kd, .long w10, .ref q11, .int 1, .long w13, .long w14])), (q11, .inl (cI, 24, .inl (jl [t0, t1, t2, t3, t4, t5, t6, t7, t8, t9, t10, t11, t12, t13, t14, t15, t16, t17, t18, t19, t20, t21, t22, t23])))] s.heap.size = A at hD ⊢
  have hA : ∀ q : Nat, s.heap.size ≤ q → A q := fun q h => by rw [← hAe]; exact Or.inr h
  have hS : va_S A s.heap s.heap [] := va_S.rf
  have hl := lv_entry ([.ref mo]) (n := 2) (Nat.le_of_ble_eq_true rfl)
  rw [lg_entry_eq]
  generalize (lg_sl ([.ref mo]) ++ List.replicate (2 - (lg_sl ([.ref mo])).length) Slot.unset).toArray = ls at hl ⊢
  have hl : lv_has ls 2 [(0, .ref mo)] := hl
  refine lv_aload_n hx hb dX6_back_0 rfl (lv_at hl 0 rfl) ?_
  refine lv_aload_n hx hb dX6_back_1 rfl (lv_at hl 0 rfl) ?_
  refine va_get (D := D) (ci := 6) (v := .int 1) (C := RX6) (T := TX6) (N := 15) hx hb hts (by decide +kernel) hown hK hP 0 rfl rfl 7 (by decide) (hts (.fieldLink RX6 43 "JoinDeskModel" "prepared" "Z") (by decide +kernel)) (fun _ h9 => h9) rfl dX6_back_2 ?_
  refine lv_if_eq (tgt := 19) hx hb dX6_back_5 (by decide) (fun c_1 => absurd c_1 (by decide)) (fun c_1 => ?_)
  refine lv_aload_n hx hb dX6_back_8 rfl (lv_at hl 0 rfl) ?_
  refine va_get (D := D) (ci := 6) (v := .int 1) (C := RX6) (T := TX6) (N := 15) hx hb hts (by decide +kernel) hown hK hP 0 rfl rfl 12 (by decide) (hts (.fieldLink RX6 57 "JoinDeskModel" "marked" "Z") (by decide +kernel)) (fun _ h9 => h9) rfl dX6_back_9 ?_
  refine lv_if_eq (tgt := 19) hx hb dX6_back_12 (by decide) (fun c_2 => absurd c_2 (by decide)) (fun c_2 => ?_)
  refine lv_iconst (v := 0) hx hb dX6_back_15 (by decide) ?_
  refine lv_goto (tgt := 20) hx hb dX6_back_16 (by decide) ?_
  refine jw_i (wr := [(q11, .inl (cI, 24, .inl (jl [t0, t1, t2, t3, t4, t5, t6, t7, t8, t9, t10, t11, t12, t13, t14, t15, t16, t17, t18, t19, t20, t21, t22, t23])))]) (va_runV (As := [.int 0]) (rest := []) ⟨hx, hb, hml, hown, hts⟩ (gM_refuses_0 l D cI cL cQ mo g q1 q3 q4 q5 q6 q11 z0 1 gr kd 1 w10 w13 w14 _) (cwV 1 hts gX6_back_X6_refuses rfl rfl rfl (by decide +kernel) ⟨Nat.le_of_ble_eq_true rfl, Nat.le_of_ble_eq_true rfl⟩) (jw_V hK hN hP hD [0] (by decide) rfl 6 0 rfl rfl rfl) rfl rfl hl.1 rfl (lv_room (Nat.le_of_ble_eq_true rfl)) dX6_back_20 ⟨Nat.le_of_ble_eq_true rfl, Nat.le_of_ble_eq_true rfl⟩) hP hD hS hA [0] [1] rfl rfl (by decide) (by decide) (fun r u H locs f_3 hP hD hS => ?_)
  obtain ⟨rfl, rfl⟩ := f_3
  have hP : va_P D vwCl [(q11, .inl (cI, 24, .inl (jl [t0, t1, t2, t3, t4, t5, t6, t7, t8, t9, t10, t11, t12, t13, t14, t15, t16, t17, t18, t19, t20, t21, t22, t23]))), (mo, .inr (6, [.int 0, .ref q1, .int (nI g), .ref q3, .ref q4, .ref q5, .ref q6, .int 1, .int gr, .int kd, .long w10, .ref q11, .int 1, .long w13, .long w14]))] H := hP
  have hD : va_D A [(q11, .inl (cI, 24, .inl (jl [t0, t1, t2, t3, t4, t5, t6, t7, t8, t9, t10, t11, t12, t13, t14, t15, t16, t17, t18, t19, t20, t21, t22, t23]))), (mo, .inr (6, [.int 0, .ref q1, .int (nI g), .ref q3, .ref q4, .ref q5, .ref q6, .int 1, .int gr, .int kd, .long w10, .ref q11, .int 1, .long w13, .long w14]))] := hD
  refine lv_if_eq (tgt := 28) hx hb dX6_back_23 (by decide) (fun c_4 => ?_) (fun c_4 => absurd c_4 (by decide))
  refine lv_iconst (v := 0) hx hb dX6_back_28 (by decide) ?_
  refine lv_istore_n (lv' := [(1, .int 0), (0, .ref mo)]) hx hb dX6_back_29 rfl hl (by decide) rfl (fun ls hl => ?_)
  refine lv_iload_n hx hb dX6_back_30 rfl (lv_at hl 0 rfl) ?_
  refine lv_bipush (v := 12) hx hb dX6_back_31 (by decide) ?_
  refine lv_icmp_ge (tgt := 57) hx hb dX6_back_33 (by decide) (fun c_5 => absurd c_5 (by decide)) (fun c_5 => ?_)
  refine lv_aload_n hx hb dX6_back_36 rfl (lv_at hl 1 rfl) ?_
  refine va_get (D := D) (ci := 6) (v := .ref q11) (C := RX6) (T := TX6) (N := 15) hx hb hts (by decide +kernel) hown hK hP 1 rfl rfl 11 (by decide) (hts (.fieldLink RX6 25 "JoinDeskModel" "at" "[I") (by decide +kernel)) (fun _ h9 => h9) rfl dX6_back_37 ?_
  refine lv_iload_n hx hb dX6_back_40 rfl (lv_at hl 0 rfl) ?_
  refine lv_aload_n hx hb dX6_back_41 rfl (lv_at hl 1 rfl) ?_
  refine va_get (D := D) (ci := 6) (v := .ref q11) (C := RX6) (T := TX6) (N := 15) hx hb hts (by decide +kernel) hown hK hP 1 rfl rfl 11 (by decide) (hts (.fieldLink RX6 25 "JoinDeskModel" "at" "[I") (by decide +kernel)) (fun _ h9 => h9) rfl dX6_back_42 ?_
  refine lv_bipush (v := 12) hx hb dX6_back_45 (by decide) ?_
  refine lv_iload_n hx hb dX6_back_47 rfl (lv_at hl 0 rfl) ?_
  refine lv_iadd hx hb dX6_back_48 ?_
  refine lv_topi (fun z_6 e_z_6 => ?_)
  obtain rfl : z_6 = 12 := e_z_6.trans (by decide)
  refine va_iald hx hb hK hP 0 0 rfl rfl (by unfold vp_in; decide) dX6_back_49 ?_
  refine W.eq (g2 := F0 m 50 ls [.int t12, .int 0, .ref q11]) rfl ?_
  refine va_iast hx hb hK hP hD hS 0 0 rfl rfl (by unfold vp_in; decide) dX6_back_50 (fun H locs hP hD hS => ?_)
  rw [jl_upd (show (0 : Int32).toNatClampNeg = 0 by decide) (Nat.le_of_ble_eq_true rfl)] at hP hD
  have hP : va_P D vwCl [(q11, .inl (cI, 24, .inl (jl [t12, t1, t2, t3, t4, t5, t6, t7, t8, t9, t10, t11, t12, t13, t14, t15, t16, t17, t18, t19, t20, t21, t22, t23]))), (mo, .inr (6, [.int 0, .ref q1, .int (nI g), .ref q3, .ref q4, .ref q5, .ref q6, .int 1, .int gr, .int kd, .long w10, .ref q11, .int 1, .long w13, .long w14]))] H := hP
  have hD : va_D A [(q11, .inl (cI, 24, .inl (jl [t12, t1, t2, t3, t4, t5, t6, t7, t8, t9, t10, t11, t12, t13, t14, t15, t16, t17, t18, t19, t20, t21, t22, t23]))), (mo, .inr (6, [.int 0, .ref q1, .int (nI g), .ref q3, .ref q4, .ref q5, .ref q6, .int 1, .int gr, .int kd, .long w10, .ref q11, .int 1, .long w13, .long w14]))] := hD
  refine lv_iinc (v := 1) (lv' := [(1, .int 1), (0, .ref mo)]) hx hb dX6_back_51 hl (k := 0) rfl (by first | rfl | decide) (by decide) rfl (fun ls hl => ?_)
  refine lv_goto (tgt := 30) hx hb dX6_back_54 (by decide) ?_
  refine lv_iload_n hx hb dX6_back_30 rfl (lv_at hl 0 rfl) ?_
  refine lv_bipush (v := 12) hx hb dX6_back_31 (by decide) ?_
  refine lv_icmp_ge (tgt := 57) hx hb dX6_back_33 (by decide) (fun c_7 => absurd c_7 (by decide)) (fun c_7 => ?_)
  refine lv_aload_n hx hb dX6_back_36 rfl (lv_at hl 1 rfl) ?_
  refine va_get (D := D) (ci := 6) (v := .ref q11) (C := RX6) (T := TX6) (N := 15) hx hb hts (by decide +kernel) hown hK hP 1 rfl rfl 11 (by decide) (hts (.fieldLink RX6 25 "JoinDeskModel" "at" "[I") (by decide +kernel)) (fun _ h9 => h9) rfl dX6_back_37 ?_
  refine lv_iload_n hx hb dX6_back_40 rfl (lv_at hl 0 rfl) ?_
  refine lv_aload_n hx hb dX6_back_41 rfl (lv_at hl 1 rfl) ?_
  refine va_get (D := D) (ci := 6) (v := .ref q11) (C := RX6) (T := TX6) (N := 15) hx hb hts (by decide +kernel) hown hK hP 1 rfl rfl 11 (by decide) (hts (.fieldLink RX6 25 "JoinDeskModel" "at" "[I") (by decide +kernel)) (fun _ h9 => h9) rfl dX6_back_42 ?_
  refine lv_bipush (v := 12) hx hb dX6_back_45 (by decide) ?_
  refine lv_iload_n hx hb dX6_back_47 rfl (lv_at hl 0 rfl) ?_
  refine lv_iadd hx hb dX6_back_48 ?_
  refine lv_topi (fun z_8 e_z_8 => ?_)
  obtain rfl : z_8 = 13 := e_z_8.trans (by decide)
  refine va_iald hx hb hK hP 0 0 rfl rfl (by unfold vp_in; decide) dX6_back_49 ?_
  refine W.eq (g2 := F0 m 50 ls [.int t13, .int 1, .ref q11]) rfl ?_
  refine va_iast hx hb hK hP hD hS 0 0 rfl rfl (by unfold vp_in; decide) dX6_back_50 (fun H locs hP hD hS => ?_)
  rw [jl_upd (show (1 : Int32).toNatClampNeg = 1 by decide) (Nat.le_of_ble_eq_true rfl)] at hP hD
  have hP : va_P D vwCl [(q11, .inl (cI, 24, .inl (jl [t12, t13, t2, t3, t4, t5, t6, t7, t8, t9, t10, t11, t12, t13, t14, t15, t16, t17, t18, t19, t20, t21, t22, t23]))), (mo, .inr (6, [.int 0, .ref q1, .int (nI g), .ref q3, .ref q4, .ref q5, .ref q6, .int 1, .int gr, .int kd, .long w10, .ref q11, .int 1, .long w13, .long w14]))] H := hP
  have hD : va_D A [(q11, .inl (cI, 24, .inl (jl [t12, t13, t2, t3, t4, t5, t6, t7, t8, t9, t10, t11, t12, t13, t14, t15, t16, t17, t18, t19, t20, t21, t22, t23]))), (mo, .inr (6, [.int 0, .ref q1, .int (nI g), .ref q3, .ref q4, .ref q5, .ref q6, .int 1, .int gr, .int kd, .long w10, .ref q11, .int 1, .long w13, .long w14]))] := hD
  refine lv_iinc (v := 2) (lv' := [(1, .int 2), (0, .ref mo)]) hx hb dX6_back_51 hl (k := 0) rfl (by first | rfl | decide) (by decide) rfl (fun ls hl => ?_)
  refine lv_goto (tgt := 30) hx hb dX6_back_54 (by decide) ?_
  refine lv_iload_n hx hb dX6_back_30 rfl (lv_at hl 0 rfl) ?_
  refine lv_bipush (v := 12) hx hb dX6_back_31 (by decide) ?_
  refine lv_icmp_ge (tgt := 57) hx hb dX6_back_33 (by decide) (fun c_9 => absurd c_9 (by decide)) (fun c_9 => ?_)
  refine lv_aload_n hx hb dX6_back_36 rfl (lv_at hl 1 rfl) ?_
  refine va_get (D := D) (ci := 6) (v := .ref q11) (C := RX6) (T := TX6) (N := 15) hx hb hts (by decide +kernel) hown hK hP 1 rfl rfl 11 (by decide) (hts (.fieldLink RX6 25 "JoinDeskModel" "at" "[I") (by decide +kernel)) (fun _ h9 => h9) rfl dX6_back_37 ?_
  refine lv_iload_n hx hb dX6_back_40 rfl (lv_at hl 0 rfl) ?_
  refine lv_aload_n hx hb dX6_back_41 rfl (lv_at hl 1 rfl) ?_
  refine va_get (D := D) (ci := 6) (v := .ref q11) (C := RX6) (T := TX6) (N := 15) hx hb hts (by decide +kernel) hown hK hP 1 rfl rfl 11 (by decide) (hts (.fieldLink RX6 25 "JoinDeskModel" "at" "[I") (by decide +kernel)) (fun _ h9 => h9) rfl dX6_back_42 ?_
  refine lv_bipush (v := 12) hx hb dX6_back_45 (by decide) ?_
  refine lv_iload_n hx hb dX6_back_47 rfl (lv_at hl 0 rfl) ?_
  refine lv_iadd hx hb dX6_back_48 ?_
  refine lv_topi (fun z_10 e_z_10 => ?_)
  obtain rfl : z_10 = 14 := e_z_10.trans (by decide)
  refine va_iald hx hb hK hP 0 0 rfl rfl (by unfold vp_in; decide) dX6_back_49 ?_
  refine W.eq (g2 := F0 m 50 ls [.int t14, .int 2, .ref q11]) rfl ?_
  refine va_iast hx hb hK hP hD hS 0 0 rfl rfl (by unfold vp_in; decide) dX6_back_50 (fun H locs hP hD hS => ?_)
  rw [jl_upd (show (2 : Int32).toNatClampNeg = 2 by decide) (Nat.le_of_ble_eq_true rfl)] at hP hD
  have hP : va_P D vwCl [(q11, .inl (cI, 24, .inl (jl [t12, t13, t14, t3, t4, t5, t6, t7, t8, t9, t10, t11, t12, t13, t14, t15, t16, t17, t18, t19, t20, t21, t22, t23]))), (mo, .inr (6, [.int 0, .ref q1, .int (nI g), .ref q3, .ref q4, .ref q5, .ref q6, .int 1, .int gr, .int kd, .long w10, .ref q11, .int 1, .long w13, .long w14]))] H := hP
  have hD : va_D A [(q11, .inl (cI, 24, .inl (jl [t12, t13, t14, t3, t4, t5, t6, t7, t8, t9, t10, t11, t12, t13, t14, t15, t16, t17, t18, t19, t20, t21, t22, t23]))), (mo, .inr (6, [.int 0, .ref q1, .int (nI g), .ref q3, .ref q4, .ref q5, .ref q6, .int 1, .int gr, .int kd, .long w10, .ref q11, .int 1, .long w13, .long w14]))] := hD
  refine lv_iinc (v := 3) (lv' := [(1, .int 3), (0, .ref mo)]) hx hb dX6_back_51 hl (k := 0) rfl (by first | rfl | decide) (by decide) rfl (fun ls hl => ?_)
  refine lv_goto (tgt := 30) hx hb dX6_back_54 (by decide) ?_
  refine lv_iload_n hx hb dX6_back_30 rfl (lv_at hl 0 rfl) ?_
  refine lv_bipush (v := 12) hx hb dX6_back_31 (by decide) ?_
  refine lv_icmp_ge (tgt := 57) hx hb dX6_back_33 (by decide) (fun c_11 => absurd c_11 (by decide)) (fun c_11 => ?_)
  refine lv_aload_n hx hb dX6_back_36 rfl (lv_at hl 1 rfl) ?_
  refine va_get (D := D) (ci := 6) (v := .ref q11) (C := RX6) (T := TX6) (N := 15) hx hb hts (by decide +kernel) hown hK hP 1 rfl rfl 11 (by decide) (hts (.fieldLink RX6 25 "JoinDeskModel" "at" "[I") (by decide +kernel)) (fun _ h9 => h9) rfl dX6_back_37 ?_
  refine lv_iload_n hx hb dX6_back_40 rfl (lv_at hl 0 rfl) ?_
  refine lv_aload_n hx hb dX6_back_41 rfl (lv_at hl 1 rfl) ?_
  refine va_get (D := D) (ci := 6) (v := .ref q11) (C := RX6) (T := TX6) (N := 15) hx hb hts (by decide +kernel) hown hK hP 1 rfl rfl 11 (by decide) (hts (.fieldLink RX6 25 "JoinDeskModel" "at" "[I") (by decide +kernel)) (fun _ h9 => h9) rfl dX6_back_42 ?_
  refine lv_bipush (v := 12) hx hb dX6_back_45 (by decide) ?_
  refine lv_iload_n hx hb dX6_back_47 rfl (lv_at hl 0 rfl) ?_
  refine lv_iadd hx hb dX6_back_48 ?_
  refine lv_topi (fun z_12 e_z_12 => ?_)
  obtain rfl : z_12 = 15 := e_z_12.trans (by decide)
  refine va_iald hx hb hK hP 0 0 rfl rfl (by unfold vp_in; decide) dX6_back_49 ?_
  refine W.eq (g2 := F0 m 50 ls [.int t15, .int 3, .ref q11]) rfl ?_
  refine va_iast hx hb hK hP hD hS 0 0 rfl rfl (by unfold vp_in; decide) dX6_back_50 (fun H locs hP hD hS => ?_)
  rw [jl_upd (show (3 : Int32).toNatClampNeg = 3 by decide) (Nat.le_of_ble_eq_true rfl)] at hP hD
  have hP : va_P D vwCl [(q11, .inl (cI, 24, .inl (jl [t12, t13, t14, t15, t4, t5, t6, t7, t8, t9, t10, t11, t12, t13, t14, t15, t16, t17, t18, t19, t20, t21, t22, t23]))), (mo, .inr (6, [.int 0, .ref q1, .int (nI g), .ref q3, .ref q4, .ref q5, .ref q6, .int 1, .int gr, .int kd, .long w10, .ref q11, .int 1, .long w13, .long w14]))] H := hP
  have hD : va_D A [(q11, .inl (cI, 24, .inl (jl [t12, t13, t14, t15, t4, t5, t6, t7, t8, t9, t10, t11, t12, t13, t14, t15, t16, t17, t18, t19, t20, t21, t22, t23]))), (mo, .inr (6, [.int 0, .ref q1, .int (nI g), .ref q3, .ref q4, .ref q5, .ref q6, .int 1, .int gr, .int kd, .long w10, .ref q11, .int 1, .long w13, .long w14]))] := hD
  refine lv_iinc (v := 4) (lv' := [(1, .int 4), (0, .ref mo)]) hx hb dX6_back_51 hl (k := 0) rfl (by first | rfl | decide) (by decide) rfl (fun ls hl => ?_)
  refine lv_goto (tgt := 30) hx hb dX6_back_54 (by decide) ?_
  refine lv_iload_n hx hb dX6_back_30 rfl (lv_at hl 0 rfl) ?_
  refine lv_bipush (v := 12) hx hb dX6_back_31 (by decide) ?_
  refine lv_icmp_ge (tgt := 57) hx hb dX6_back_33 (by decide) (fun c_13 => absurd c_13 (by decide)) (fun c_13 => ?_)
  refine lv_aload_n hx hb dX6_back_36 rfl (lv_at hl 1 rfl) ?_
  refine va_get (D := D) (ci := 6) (v := .ref q11) (C := RX6) (T := TX6) (N := 15) hx hb hts (by decide +kernel) hown hK hP 1 rfl rfl 11 (by decide) (hts (.fieldLink RX6 25 "JoinDeskModel" "at" "[I") (by decide +kernel)) (fun _ h9 => h9) rfl dX6_back_37 ?_
  refine lv_iload_n hx hb dX6_back_40 rfl (lv_at hl 0 rfl) ?_
  refine lv_aload_n hx hb dX6_back_41 rfl (lv_at hl 1 rfl) ?_
  refine va_get (D := D) (ci := 6) (v := .ref q11) (C := RX6) (T := TX6) (N := 15) hx hb hts (by decide +kernel) hown hK hP 1 rfl rfl 11 (by decide) (hts (.fieldLink RX6 25 "JoinDeskModel" "at" "[I") (by decide +kernel)) (fun _ h9 => h9) rfl dX6_back_42 ?_
  refine lv_bipush (v := 12) hx hb dX6_back_45 (by decide) ?_
  refine lv_iload_n hx hb dX6_back_47 rfl (lv_at hl 0 rfl) ?_
  refine lv_iadd hx hb dX6_back_48 ?_
  refine lv_topi (fun z_14 e_z_14 => ?_)
  obtain rfl : z_14 = 16 := e_z_14.trans (by decide)
  refine va_iald hx hb hK hP 0 0 rfl rfl (by unfold vp_in; decide) dX6_back_49 ?_
  refine W.eq (g2 := F0 m 50 ls [.int t16, .int 4, .ref q11]) rfl ?_
  refine va_iast hx hb hK hP hD hS 0 0 rfl rfl (by unfold vp_in; decide) dX6_back_50 (fun H locs hP hD hS => ?_)
  rw [jl_upd (show (4 : Int32).toNatClampNeg = 4 by decide) (Nat.le_of_ble_eq_true rfl)] at hP hD
  have hP : va_P D vwCl [(q11, .inl (cI, 24, .inl (jl [t12, t13, t14, t15, t16, t5, t6, t7, t8, t9, t10, t11, t12, t13, t14, t15, t16, t17, t18, t19, t20, t21, t22, t23]))), (mo, .inr (6, [.int 0, .ref q1, .int (nI g), .ref q3, .ref q4, .ref q5, .ref q6, .int 1, .int gr, .int kd, .long w10, .ref q11, .int 1, .long w13, .long w14]))] H := hP
  have hD : va_D A [(q11, .inl (cI, 24, .inl (jl [t12, t13, t14, t15, t16, t5, t6, t7, t8, t9, t10, t11, t12, t13, t14, t15, t16, t17, t18, t19, t20, t21, t22, t23]))), (mo, .inr (6, [.int 0, .ref q1, .int (nI g), .ref q3, .ref q4, .ref q5, .ref q6, .int 1, .int gr, .int kd, .long w10, .ref q11, .int 1, .long w13, .long w14]))] := hD
  refine lv_iinc (v := 5) (lv' := [(1, .int 5), (0, .ref mo)]) hx hb dX6_back_51 hl (k := 0) rfl (by first | rfl | decide) (by decide) rfl (fun ls hl => ?_)
  refine lv_goto (tgt := 30) hx hb dX6_back_54 (by decide) ?_
  refine lv_iload_n hx hb dX6_back_30 rfl (lv_at hl 0 rfl) ?_
  refine lv_bipush (v := 12) hx hb dX6_back_31 (by decide) ?_
  refine lv_icmp_ge (tgt := 57) hx hb dX6_back_33 (by decide) (fun c_15 => absurd c_15 (by decide)) (fun c_15 => ?_)
  refine lv_aload_n hx hb dX6_back_36 rfl (lv_at hl 1 rfl) ?_
  refine va_get (D := D) (ci := 6) (v := .ref q11) (C := RX6) (T := TX6) (N := 15) hx hb hts (by decide +kernel) hown hK hP 1 rfl rfl 11 (by decide) (hts (.fieldLink RX6 25 "JoinDeskModel" "at" "[I") (by decide +kernel)) (fun _ h9 => h9) rfl dX6_back_37 ?_
  refine lv_iload_n hx hb dX6_back_40 rfl (lv_at hl 0 rfl) ?_
  refine lv_aload_n hx hb dX6_back_41 rfl (lv_at hl 1 rfl) ?_
  refine va_get (D := D) (ci := 6) (v := .ref q11) (C := RX6) (T := TX6) (N := 15) hx hb hts (by decide +kernel) hown hK hP 1 rfl rfl 11 (by decide) (hts (.fieldLink RX6 25 "JoinDeskModel" "at" "[I") (by decide +kernel)) (fun _ h9 => h9) rfl dX6_back_42 ?_
  refine lv_bipush (v := 12) hx hb dX6_back_45 (by decide) ?_
  refine lv_iload_n hx hb dX6_back_47 rfl (lv_at hl 0 rfl) ?_
  refine lv_iadd hx hb dX6_back_48 ?_
  refine lv_topi (fun z_16 e_z_16 => ?_)
  obtain rfl : z_16 = 17 := e_z_16.trans (by decide)
  refine va_iald hx hb hK hP 0 0 rfl rfl (by unfold vp_in; decide) dX6_back_49 ?_
  refine W.eq (g2 := F0 m 50 ls [.int t17, .int 5, .ref q11]) rfl ?_
  refine va_iast hx hb hK hP hD hS 0 0 rfl rfl (by unfold vp_in; decide) dX6_back_50 (fun H locs hP hD hS => ?_)
  rw [jl_upd (show (5 : Int32).toNatClampNeg = 5 by decide) (Nat.le_of_ble_eq_true rfl)] at hP hD
  have hP : va_P D vwCl [(q11, .inl (cI, 24, .inl (jl [t12, t13, t14, t15, t16, t17, t6, t7, t8, t9, t10, t11, t12, t13, t14, t15, t16, t17, t18, t19, t20, t21, t22, t23]))), (mo, .inr (6, [.int 0, .ref q1, .int (nI g), .ref q3, .ref q4, .ref q5, .ref q6, .int 1, .int gr, .int kd, .long w10, .ref q11, .int 1, .long w13, .long w14]))] H := hP
  have hD : va_D A [(q11, .inl (cI, 24, .inl (jl [t12, t13, t14, t15, t16, t17, t6, t7, t8, t9, t10, t11, t12, t13, t14, t15, t16, t17, t18, t19, t20, t21, t22, t23]))), (mo, .inr (6, [.int 0, .ref q1, .int (nI g), .ref q3, .ref q4, .ref q5, .ref q6, .int 1, .int gr, .int kd, .long w10, .ref q11, .int 1, .long w13, .long w14]))] := hD
  refine lv_iinc (v := 6) (lv' := [(1, .int 6), (0, .ref mo)]) hx hb dX6_back_51 hl (k := 0) rfl (by first | rfl | decide) (by decide) rfl (fun ls hl => ?_)
  refine lv_goto (tgt := 30) hx hb dX6_back_54 (by decide) ?_
  refine lv_iload_n hx hb dX6_back_30 rfl (lv_at hl 0 rfl) ?_
  refine lv_bipush (v := 12) hx hb dX6_back_31 (by decide) ?_
  refine lv_icmp_ge (tgt := 57) hx hb dX6_back_33 (by decide) (fun c_17 => absurd c_17 (by decide)) (fun c_17 => ?_)
  refine lv_aload_n hx hb dX6_back_36 rfl (lv_at hl 1 rfl) ?_
  refine va_get (D := D) (ci := 6) (v := .ref q11) (C := RX6) (T := TX6) (N := 15) hx hb hts (by decide +kernel) hown hK hP 1 rfl rfl 11 (by decide) (hts (.fieldLink RX6 25 "JoinDeskModel" "at" "[I") (by decide +kernel)) (fun _ h9 => h9) rfl dX6_back_37 ?_
  refine lv_iload_n hx hb dX6_back_40 rfl (lv_at hl 0 rfl) ?_
  refine lv_aload_n hx hb dX6_back_41 rfl (lv_at hl 1 rfl) ?_
  refine va_get (D := D) (ci := 6) (v := .ref q11) (C := RX6) (T := TX6) (N := 15) hx hb hts (by decide +kernel) hown hK hP 1 rfl rfl 11 (by decide) (hts (.fieldLink RX6 25 "JoinDeskModel" "at" "[I") (by decide +kernel)) (fun _ h9 => h9) rfl dX6_back_42 ?_
  refine lv_bipush (v := 12) hx hb dX6_back_45 (by decide) ?_
  refine lv_iload_n hx hb dX6_back_47 rfl (lv_at hl 0 rfl) ?_
  refine lv_iadd hx hb dX6_back_48 ?_
  refine lv_topi (fun z_18 e_z_18 => ?_)
  obtain rfl : z_18 = 18 := e_z_18.trans (by decide)
  refine va_iald hx hb hK hP 0 0 rfl rfl (by unfold vp_in; decide) dX6_back_49 ?_
  refine W.eq (g2 := F0 m 50 ls [.int t18, .int 6, .ref q11]) rfl ?_
  refine va_iast hx hb hK hP hD hS 0 0 rfl rfl (by unfold vp_in; decide) dX6_back_50 (fun H locs hP hD hS => ?_)
  rw [jl_upd (show (6 : Int32).toNatClampNeg = 6 by decide) (Nat.le_of_ble_eq_true rfl)] at hP hD
  have hP : va_P D vwCl [(q11, .inl (cI, 24, .inl (jl [t12, t13, t14, t15, t16, t17, t18, t7, t8, t9, t10, t11, t12, t13, t14, t15, t16, t17, t18, t19, t20, t21, t22, t23]))), (mo, .inr (6, [.int 0, .ref q1, .int (nI g), .ref q3, .ref q4, .ref q5, .ref q6, .int 1, .int gr, .int kd, .long w10, .ref q11, .int 1, .long w13, .long w14]))] H := hP
  have hD : va_D A [(q11, .inl (cI, 24, .inl (jl [t12, t13, t14, t15, t16, t17, t18, t7, t8, t9, t10, t11, t12, t13, t14, t15, t16, t17, t18, t19, t20, t21, t22, t23]))), (mo, .inr (6, [.int 0, .ref q1, .int (nI g), .ref q3, .ref q4, .ref q5, .ref q6, .int 1, .int gr, .int kd, .long w10, .ref q11, .int 1, .long w13, .long w14]))] := hD
  refine lv_iinc (v := 7) (lv' := [(1, .int 7), (0, .ref mo)]) hx hb dX6_back_51 hl (k := 0) rfl (by first | rfl | decide) (by decide) rfl (fun ls hl => ?_)
  refine lv_goto (tgt := 30) hx hb dX6_back_54 (by decide) ?_
  refine lv_iload_n hx hb dX6_back_30 rfl (lv_at hl 0 rfl) ?_
  refine lv_bipush (v := 12) hx hb dX6_back_31 (by decide) ?_
  refine lv_icmp_ge (tgt := 57) hx hb dX6_back_33 (by decide) (fun c_19 => absurd c_19 (by decide)) (fun c_19 => ?_)
  refine lv_aload_n hx hb dX6_back_36 rfl (lv_at hl 1 rfl) ?_
  refine va_get (D := D) (ci := 6) (v := .ref q11) (C := RX6) (T := TX6) (N := 15) hx hb hts (by decide +kernel) hown hK hP 1 rfl rfl 11 (by decide) (hts (.fieldLink RX6 25 "JoinDeskModel" "at" "[I") (by decide +kernel)) (fun _ h9 => h9) rfl dX6_back_37 ?_
  refine lv_iload_n hx hb dX6_back_40 rfl (lv_at hl 0 rfl) ?_
  refine lv_aload_n hx hb dX6_back_41 rfl (lv_at hl 1 rfl) ?_
  refine va_get (D := D) (ci := 6) (v := .ref q11) (C := RX6) (T := TX6) (N := 15) hx hb hts (by decide +kernel) hown hK hP 1 rfl rfl 11 (by decide) (hts (.fieldLink RX6 25 "JoinDeskModel" "at" "[I") (by decide +kernel)) (fun _ h9 => h9) rfl dX6_back_42 ?_
  refine lv_bipush (v := 12) hx hb dX6_back_45 (by decide) ?_
  refine lv_iload_n hx hb dX6_back_47 rfl (lv_at hl 0 rfl) ?_
  refine lv_iadd hx hb dX6_back_48 ?_
  refine lv_topi (fun z_20 e_z_20 => ?_)
  obtain rfl : z_20 = 19 := e_z_20.trans (by decide)
  refine va_iald hx hb hK hP 0 0 rfl rfl (by unfold vp_in; decide) dX6_back_49 ?_
  refine W.eq (g2 := F0 m 50 ls [.int t19, .int 7, .ref q11]) rfl ?_
  refine va_iast hx hb hK hP hD hS 0 0 rfl rfl (by unfold vp_in; decide) dX6_back_50 (fun H locs hP hD hS => ?_)
  rw [jl_upd (show (7 : Int32).toNatClampNeg = 7 by decide) (Nat.le_of_ble_eq_true rfl)] at hP hD
  have hP : va_P D vwCl [(q11, .inl (cI, 24, .inl (jl [t12, t13, t14, t15, t16, t17, t18, t19, t8, t9, t10, t11, t12, t13, t14, t15, t16, t17, t18, t19, t20, t21, t22, t23]))), (mo, .inr (6, [.int 0, .ref q1, .int (nI g), .ref q3, .ref q4, .ref q5, .ref q6, .int 1, .int gr, .int kd, .long w10, .ref q11, .int 1, .long w13, .long w14]))] H := hP
  have hD : va_D A [(q11, .inl (cI, 24, .inl (jl [t12, t13, t14, t15, t16, t17, t18, t19, t8, t9, t10, t11, t12, t13, t14, t15, t16, t17, t18, t19, t20, t21, t22, t23]))), (mo, .inr (6, [.int 0, .ref q1, .int (nI g), .ref q3, .ref q4, .ref q5, .ref q6, .int 1, .int gr, .int kd, .long w10, .ref q11, .int 1, .long w13, .long w14]))] := hD
  refine lv_iinc (v := 8) (lv' := [(1, .int 8), (0, .ref mo)]) hx hb dX6_back_51 hl (k := 0) rfl (by first | rfl | decide) (by decide) rfl (fun ls hl => ?_)
  refine lv_goto (tgt := 30) hx hb dX6_back_54 (by decide) ?_
  refine lv_iload_n hx hb dX6_back_30 rfl (lv_at hl 0 rfl) ?_
  refine lv_bipush (v := 12) hx hb dX6_back_31 (by decide) ?_
  refine lv_icmp_ge (tgt := 57) hx hb dX6_back_33 (by decide) (fun c_21 => absurd c_21 (by decide)) (fun c_21 => ?_)
  refine lv_aload_n hx hb dX6_back_36 rfl (lv_at hl 1 rfl) ?_
  refine va_get (D := D) (ci := 6) (v := .ref q11) (C := RX6) (T := TX6) (N := 15) hx hb hts (by decide +kernel) hown hK hP 1 rfl rfl 11 (by decide) (hts (.fieldLink RX6 25 "JoinDeskModel" "at" "[I") (by decide +kernel)) (fun _ h9 => h9) rfl dX6_back_37 ?_
  refine lv_iload_n hx hb dX6_back_40 rfl (lv_at hl 0 rfl) ?_
  refine lv_aload_n hx hb dX6_back_41 rfl (lv_at hl 1 rfl) ?_
  refine va_get (D := D) (ci := 6) (v := .ref q11) (C := RX6) (T := TX6) (N := 15) hx hb hts (by decide +kernel) hown hK hP 1 rfl rfl 11 (by decide) (hts (.fieldLink RX6 25 "JoinDeskModel" "at" "[I") (by decide +kernel)) (fun _ h9 => h9) rfl dX6_back_42 ?_
  refine lv_bipush (v := 12) hx hb dX6_back_45 (by decide) ?_
  refine lv_iload_n hx hb dX6_back_47 rfl (lv_at hl 0 rfl) ?_
  refine lv_iadd hx hb dX6_back_48 ?_
  refine lv_topi (fun z_22 e_z_22 => ?_)
  obtain rfl : z_22 = 20 := e_z_22.trans (by decide)
  refine va_iald hx hb hK hP 0 0 rfl rfl (by unfold vp_in; decide) dX6_back_49 ?_
  refine W.eq (g2 := F0 m 50 ls [.int t20, .int 8, .ref q11]) rfl ?_
  refine va_iast hx hb hK hP hD hS 0 0 rfl rfl (by unfold vp_in; decide) dX6_back_50 (fun H locs hP hD hS => ?_)
  rw [jl_upd (show (8 : Int32).toNatClampNeg = 8 by decide) (Nat.le_of_ble_eq_true rfl)] at hP hD
  have hP : va_P D vwCl [(q11, .inl (cI, 24, .inl (jl [t12, t13, t14, t15, t16, t17, t18, t19, t20, t9, t10, t11, t12, t13, t14, t15, t16, t17, t18, t19, t20, t21, t22, t23]))), (mo, .inr (6, [.int 0, .ref q1, .int (nI g), .ref q3, .ref q4, .ref q5, .ref q6, .int 1, .int gr, .int kd, .long w10, .ref q11, .int 1, .long w13, .long w14]))] H := hP
  have hD : va_D A [(q11, .inl (cI, 24, .inl (jl [t12, t13, t14, t15, t16, t17, t18, t19, t20, t9, t10, t11, t12, t13, t14, t15, t16, t17, t18, t19, t20, t21, t22, t23]))), (mo, .inr (6, [.int 0, .ref q1, .int (nI g), .ref q3, .ref q4, .ref q5, .ref q6, .int 1, .int gr, .int kd, .long w10, .ref q11, .int 1, .long w13, .long w14]))] := hD
  refine lv_iinc (v := 9) (lv' := [(1, .int 9), (0, .ref mo)]) hx hb dX6_back_51 hl (k := 0) rfl (by first | rfl | decide) (by decide) rfl (fun ls hl => ?_)
  refine lv_goto (tgt := 30) hx hb dX6_back_54 (by decide) ?_
  refine lv_iload_n hx hb dX6_back_30 rfl (lv_at hl 0 rfl) ?_
  refine lv_bipush (v := 12) hx hb dX6_back_31 (by decide) ?_
  refine lv_icmp_ge (tgt := 57) hx hb dX6_back_33 (by decide) (fun c_23 => absurd c_23 (by decide)) (fun c_23 => ?_)
  refine lv_aload_n hx hb dX6_back_36 rfl (lv_at hl 1 rfl) ?_
  refine va_get (D := D) (ci := 6) (v := .ref q11) (C := RX6) (T := TX6) (N := 15) hx hb hts (by decide +kernel) hown hK hP 1 rfl rfl 11 (by decide) (hts (.fieldLink RX6 25 "JoinDeskModel" "at" "[I") (by decide +kernel)) (fun _ h9 => h9) rfl dX6_back_37 ?_
  refine lv_iload_n hx hb dX6_back_40 rfl (lv_at hl 0 rfl) ?_
  refine lv_aload_n hx hb dX6_back_41 rfl (lv_at hl 1 rfl) ?_
  refine va_get (D := D) (ci := 6) (v := .ref q11) (C := RX6) (T := TX6) (N := 15) hx hb hts (by decide +kernel) hown hK hP 1 rfl rfl 11 (by decide) (hts (.fieldLink RX6 25 "JoinDeskModel" "at" "[I") (by decide +kernel)) (fun _ h9 => h9) rfl dX6_back_42 ?_
  refine lv_bipush (v := 12) hx hb dX6_back_45 (by decide) ?_
  refine lv_iload_n hx hb dX6_back_47 rfl (lv_at hl 0 rfl) ?_
  refine lv_iadd hx hb dX6_back_48 ?_
  refine lv_topi (fun z_24 e_z_24 => ?_)
  obtain rfl : z_24 = 21 := e_z_24.trans (by decide)
  refine va_iald hx hb hK hP 0 0 rfl rfl (by unfold vp_in; decide) dX6_back_49 ?_
  refine W.eq (g2 := F0 m 50 ls [.int t21, .int 9, .ref q11]) rfl ?_
  refine va_iast hx hb hK hP hD hS 0 0 rfl rfl (by unfold vp_in; decide) dX6_back_50 (fun H locs hP hD hS => ?_)
  rw [jl_upd (show (9 : Int32).toNatClampNeg = 9 by decide) (Nat.le_of_ble_eq_true rfl)] at hP hD
  have hP : va_P D vwCl [(q11, .inl (cI, 24, .inl (jl [t12, t13, t14, t15, t16, t17, t18, t19, t20, t21, t10, t11, t12, t13, t14, t15, t16, t17, t18, t19, t20, t21, t22, t23]))), (mo, .inr (6, [.int 0, .ref q1, .int (nI g), .ref q3, .ref q4, .ref q5, .ref q6, .int 1, .int gr, .int kd, .long w10, .ref q11, .int 1, .long w13, .long w14]))] H := hP
  have hD : va_D A [(q11, .inl (cI, 24, .inl (jl [t12, t13, t14, t15, t16, t17, t18, t19, t20, t21, t10, t11, t12, t13, t14, t15, t16, t17, t18, t19, t20, t21, t22, t23]))), (mo, .inr (6, [.int 0, .ref q1, .int (nI g), .ref q3, .ref q4, .ref q5, .ref q6, .int 1, .int gr, .int kd, .long w10, .ref q11, .int 1, .long w13, .long w14]))] := hD
  refine lv_iinc (v := 10) (lv' := [(1, .int 10), (0, .ref mo)]) hx hb dX6_back_51 hl (k := 0) rfl (by first | rfl | decide) (by decide) rfl (fun ls hl => ?_)
  refine lv_goto (tgt := 30) hx hb dX6_back_54 (by decide) ?_
  refine lv_iload_n hx hb dX6_back_30 rfl (lv_at hl 0 rfl) ?_
  refine lv_bipush (v := 12) hx hb dX6_back_31 (by decide) ?_
  refine lv_icmp_ge (tgt := 57) hx hb dX6_back_33 (by decide) (fun c_25 => absurd c_25 (by decide)) (fun c_25 => ?_)
  refine lv_aload_n hx hb dX6_back_36 rfl (lv_at hl 1 rfl) ?_
  refine va_get (D := D) (ci := 6) (v := .ref q11) (C := RX6) (T := TX6) (N := 15) hx hb hts (by decide +kernel) hown hK hP 1 rfl rfl 11 (by decide) (hts (.fieldLink RX6 25 "JoinDeskModel" "at" "[I") (by decide +kernel)) (fun _ h9 => h9) rfl dX6_back_37 ?_
  refine lv_iload_n hx hb dX6_back_40 rfl (lv_at hl 0 rfl) ?_
  refine lv_aload_n hx hb dX6_back_41 rfl (lv_at hl 1 rfl) ?_
  refine va_get (D := D) (ci := 6) (v := .ref q11) (C := RX6) (T := TX6) (N := 15) hx hb hts (by decide +kernel) hown hK hP 1 rfl rfl 11 (by decide) (hts (.fieldLink RX6 25 "JoinDeskModel" "at" "[I") (by decide +kernel)) (fun _ h9 => h9) rfl dX6_back_42 ?_
  refine lv_bipush (v := 12) hx hb dX6_back_45 (by decide) ?_
  refine lv_iload_n hx hb dX6_back_47 rfl (lv_at hl 0 rfl) ?_
  refine lv_iadd hx hb dX6_back_48 ?_
  refine lv_topi (fun z_26 e_z_26 => ?_)
  obtain rfl : z_26 = 22 := e_z_26.trans (by decide)
  refine va_iald hx hb hK hP 0 0 rfl rfl (by unfold vp_in; decide) dX6_back_49 ?_
  refine W.eq (g2 := F0 m 50 ls [.int t22, .int 10, .ref q11]) rfl ?_
  refine va_iast hx hb hK hP hD hS 0 0 rfl rfl (by unfold vp_in; decide) dX6_back_50 (fun H locs hP hD hS => ?_)
  rw [jl_upd (show (10 : Int32).toNatClampNeg = 10 by decide) (Nat.le_of_ble_eq_true rfl)] at hP hD
  have hP : va_P D vwCl [(q11, .inl (cI, 24, .inl (jl [t12, t13, t14, t15, t16, t17, t18, t19, t20, t21, t22, t11, t12, t13, t14, t15, t16, t17, t18, t19, t20, t21, t22, t23]))), (mo, .inr (6, [.int 0, .ref q1, .int (nI g), .ref q3, .ref q4, .ref q5, .ref q6, .int 1, .int gr, .int kd, .long w10, .ref q11, .int 1, .long w13, .long w14]))] H := hP
  have hD : va_D A [(q11, .inl (cI, 24, .inl (jl [t12, t13, t14, t15, t16, t17, t18, t19, t20, t21, t22, t11, t12, t13, t14, t15, t16, t17, t18, t19, t20, t21, t22, t23]))), (mo, .inr (6, [.int 0, .ref q1, .int (nI g), .ref q3, .ref q4, .ref q5, .ref q6, .int 1, .int gr, .int kd, .long w10, .ref q11, .int 1, .long w13, .long w14]))] := hD
  refine lv_iinc (v := 11) (lv' := [(1, .int 11), (0, .ref mo)]) hx hb dX6_back_51 hl (k := 0) rfl (by first | rfl | decide) (by decide) rfl (fun ls hl => ?_)
  refine lv_goto (tgt := 30) hx hb dX6_back_54 (by decide) ?_
  refine lv_iload_n hx hb dX6_back_30 rfl (lv_at hl 0 rfl) ?_
  refine lv_bipush (v := 12) hx hb dX6_back_31 (by decide) ?_
  refine lv_icmp_ge (tgt := 57) hx hb dX6_back_33 (by decide) (fun c_27 => absurd c_27 (by decide)) (fun c_27 => ?_)
  refine lv_aload_n hx hb dX6_back_36 rfl (lv_at hl 1 rfl) ?_
  refine va_get (D := D) (ci := 6) (v := .ref q11) (C := RX6) (T := TX6) (N := 15) hx hb hts (by decide +kernel) hown hK hP 1 rfl rfl 11 (by decide) (hts (.fieldLink RX6 25 "JoinDeskModel" "at" "[I") (by decide +kernel)) (fun _ h9 => h9) rfl dX6_back_37 ?_
  refine lv_iload_n hx hb dX6_back_40 rfl (lv_at hl 0 rfl) ?_
  refine lv_aload_n hx hb dX6_back_41 rfl (lv_at hl 1 rfl) ?_
  refine va_get (D := D) (ci := 6) (v := .ref q11) (C := RX6) (T := TX6) (N := 15) hx hb hts (by decide +kernel) hown hK hP 1 rfl rfl 11 (by decide) (hts (.fieldLink RX6 25 "JoinDeskModel" "at" "[I") (by decide +kernel)) (fun _ h9 => h9) rfl dX6_back_42 ?_
  refine lv_bipush (v := 12) hx hb dX6_back_45 (by decide) ?_
  refine lv_iload_n hx hb dX6_back_47 rfl (lv_at hl 0 rfl) ?_
  refine lv_iadd hx hb dX6_back_48 ?_
  refine lv_topi (fun z_28 e_z_28 => ?_)
  obtain rfl : z_28 = 23 := e_z_28.trans (by decide)
  refine va_iald hx hb hK hP 0 0 rfl rfl (by unfold vp_in; decide) dX6_back_49 ?_
  refine W.eq (g2 := F0 m 50 ls [.int t23, .int 11, .ref q11]) rfl ?_
  refine va_iast hx hb hK hP hD hS 0 0 rfl rfl (by unfold vp_in; decide) dX6_back_50 (fun H locs hP hD hS => ?_)
  rw [jl_upd (show (11 : Int32).toNatClampNeg = 11 by decide) (Nat.le_of_ble_eq_true rfl)] at hP hD
  have hP : va_P D vwCl [(q11, .inl (cI, 24, .inl (jl [t12, t13, t14, t15, t16, t17, t18, t19, t20, t21, t22, t23, t12, t13, t14, t15, t16, t17, t18, t19, t20, t21, t22, t23]))), (mo, .inr (6, [.int 0, .ref q1, .int (nI g), .ref q3, .ref q4, .ref q5, .ref q6, .int 1, .int gr, .int kd, .long w10, .ref q11, .int 1, .long w13, .long w14]))] H := hP
  have hD : va_D A [(q11, .inl (cI, 24, .inl (jl [t12, t13, t14, t15, t16, t17, t18, t19, t20, t21, t22, t23, t12, t13, t14, t15, t16, t17, t18, t19, t20, t21, t22, t23]))), (mo, .inr (6, [.int 0, .ref q1, .int (nI g), .ref q3, .ref q4, .ref q5, .ref q6, .int 1, .int gr, .int kd, .long w10, .ref q11, .int 1, .long w13, .long w14]))] := hD
  refine lv_iinc (v := 12) (lv' := [(1, .int 12), (0, .ref mo)]) hx hb dX6_back_51 hl (k := 0) rfl (by first | rfl | decide) (by decide) rfl (fun ls hl => ?_)
  refine lv_goto (tgt := 30) hx hb dX6_back_54 (by decide) ?_
  refine lv_iload_n hx hb dX6_back_30 rfl (lv_at hl 0 rfl) ?_
  refine lv_bipush (v := 12) hx hb dX6_back_31 (by decide) ?_
  refine lv_icmp_ge (tgt := 57) hx hb dX6_back_33 (by decide) (fun c_29 => ?_) (fun c_29 => absurd c_29 (by decide))
  refine lv_aload_n hx hb dX6_back_57 rfl (lv_at hl 1 rfl) ?_
  refine va_get (D := D) (ci := 6) (v := .ref q11) (C := RX6) (T := TX6) (N := 15) hx hb hts (by decide +kernel) hown hK hP 1 rfl rfl 11 (by decide) (hts (.fieldLink RX6 25 "JoinDeskModel" "at" "[I") (by decide +kernel)) (fun _ h9 => h9) rfl dX6_back_58 ?_
  refine lv_bipush (v := 10) hx hb dX6_back_61 (by decide) ?_
  refine va_iald hx hb hK hP 0 0 rfl rfl (by unfold vp_in; decide) dX6_back_63 ?_
  refine W.eq (g2 := F0 m 64 ls [.int t22]) rfl ?_
  have hP := hP.sub (ws' := [(mo, .inr (6, [.int 0, .ref q1, .int (nI g), .ref q3, .ref q4, .ref q5, .ref q6, .int 1, .int gr, .int kd, .long w10, .ref q11, .int 1, .long w13, .long w14])), (q11, .inl (cI, 24, .inl (jl [t12, t13, t14, t15, t16, t17, t18, t19, t20, t21, t22, t23, t12, t13, t14, t15, t16, t17, t18, t19, t20, t21, t22, t23])))]) [1, 0] rfl
  have hD := hD.sub (ws' := [(mo, .inr (6, [.int 0, .ref q1, .int (nI g), .ref q3, .ref q4, .ref q5, .ref q6, .int 1, .int gr, .int kd, .long w10, .ref q11, .int 1, .long w13, .long w14])), (q11, .inl (cI, 24, .inl (jl [t12, t13, t14, t15, t16, t17, t18, t19, t20, t21, t22, t23, t12, t13, t14, t15, t16, t17, t18, t19, t20, t21, t22, t23])))]) [1, 0] (by decide) rfl
  refine W.widen (k := 0) (n := 0) (by omega) (by omega) ?_
  exact W.iret (v := t22) hx hb hr (fun t ht hW => ⟨⟨t22, [(mo, .inr (6, [.int 0, .ref q1, .int (nI g), .ref q3, .ref q4, .ref q5, .ref q6, .int 1, .int gr, .int kd, .long w10, .ref q11, .int 1, .long w13, .long w14])), (q11, .inl (cI, 24, .inl (jl [t12, t13, t14, t15, t16, t17, t18, t19, t20, t21, t22, t23, t12, t13, t14, t15, t16, t17, t18, t19, t20, t21, t22, t23])))], rfl, (by exact ⟨rfl, rfl⟩), by rw [ht]; exact hP, hD⟩, hS.F ht⟩) hS.2.2 dX6_back_64
set_option maxHeartbeats 1000000 in
set_option maxRecDepth 100000 in
theorem gM_back_t1 (l : Launch) (D : va_G) (cI cL cQ : ClassId) (mo : Nat) (g : Nat) (q1 : Nat) (q3 : Nat) (q4 : Nat) (q5 : Nat) (q6 : Nat) (q11 : Nat) (z0 : Int32) (gr : Int32) (kd : Int32) (w10 : Int64) (w13 : Int64) (w14 : Int64) (sz : Nat) : Met l yX6_back wsX6_back ({ frames := 1, cells := 0, slots := 0, locals := 21 }) (jw_P D vwCl (jT cI cL cQ) cL cQ [.ref mo] [(mo, .inr (6, [.int z0, .ref q1, .int (nI g), .ref q3, .ref q4, .ref q5, .ref q6, .int 1, .int gr, .int kd, .long w10, .ref q11, .int 0, .long w13, .long w14]))] sz) (va_Qi (fun (r : Int32) (u : va_W) => r = 0 ∧ u = [(mo, .inr (6, [.int 1, .ref q1, .int (nI g), .ref q3, .ref q4, .ref q5, .ref q6, .int 1, .int gr, .int kd, .long w10, .ref q11, .int 0, .long w13, .long w14]))]) (jw_B D vwCl (va_A [(mo, .inr (6, [.int z0, .ref q1, .int (nI g), .ref q3, .ref q4, .ref q5, .ref q6, .int 1, .int gr, .int kd, .long w10, .ref q11, .int 0, .long w13, .long w14]))] sz) (fun u : va_W => u)) (va_A [(mo, .inr (6, [.int z0, .ref q1, .int (nI g), .ref q3, .ref q4, .ref q5, .ref q6, .int 1, .int gr, .int kd, .long w10, .ref q11, .int 0, .long w13, .long w14]))] sz)) 0 0 (va_A [(mo, .inr (6, [.int z0, .ref q1, .int (nI g), .ref q3, .ref q4, .ref q5, .ref q6, .int 1, .int gr, .int kd, .long w10, .ref q11, .int 0, .long w13, .long w14]))] sz) := by
  refine Met.ofW (cc := cX6_back) (maxL := 2) (ret := (some .int)) (by decide) rfl ?_
  intro p e s m args below meth c s₁ B hml hv
  obtain ⟨rfl, hsz, hP, hK, hN, hD0⟩ := hv
  have hx := B.exec
  have hb := B.bytes
  have hr := B.returns
  have hts := atoms_spec (ws := wsX6_back) B.pre
  have hown : s.vm.findClass RX6 = some m.cls := findClass_of_methodNamed B.named
  have hlocks := B.notSynchronized
  subst hsz
  have hD := hD0.self (sz := s.heap.size)
  generalize hAe : va_A [(mo, .inr (6, [.int z0, .ref q1, .int (nI g), .ref q3, .ref q4, .ref q5, .ref q6, .int 1, .int gr, .int kd, .long w10, .ref q11, .int 0, .long w13, .long w14]))] s.heap.size = A at hD ⊢
  have hA : ∀ q : Nat, s.heap.size ≤ q → A q := fun q h => by rw [← hAe]; exact Or.inr h
  have hS : va_S A s.heap s.heap [] := va_S.rf
  have hl := lv_entry ([.ref mo]) (n := 2) (Nat.le_of_ble_eq_true rfl)
  rw [lg_entry_eq]
  generalize (lg_sl ([.ref mo]) ++ List.replicate (2 - (lg_sl ([.ref mo])).length) Slot.unset).toArray = ls at hl ⊢
  have hl : lv_has ls 2 [(0, .ref mo)] := hl
  refine lv_aload_n hx hb dX6_back_0 rfl (lv_at hl 0 rfl) ?_
  refine lv_aload_n hx hb dX6_back_1 rfl (lv_at hl 0 rfl) ?_
  refine va_get (D := D) (ci := 6) (v := .int 1) (C := RX6) (T := TX6) (N := 15) hx hb hts (by decide +kernel) hown hK hP 0 rfl rfl 7 (by decide) (hts (.fieldLink RX6 43 "JoinDeskModel" "prepared" "Z") (by decide +kernel)) (fun _ h9 => h9) rfl dX6_back_2 ?_
  refine lv_if_eq (tgt := 19) hx hb dX6_back_5 (by decide) (fun c_1 => absurd c_1 (by decide)) (fun c_1 => ?_)
  refine lv_aload_n hx hb dX6_back_8 rfl (lv_at hl 0 rfl) ?_
  refine va_get (D := D) (ci := 6) (v := .int 0) (C := RX6) (T := TX6) (N := 15) hx hb hts (by decide +kernel) hown hK hP 0 rfl rfl 12 (by decide) (hts (.fieldLink RX6 57 "JoinDeskModel" "marked" "Z") (by decide +kernel)) (fun _ h9 => h9) rfl dX6_back_9 ?_
  refine lv_if_eq (tgt := 19) hx hb dX6_back_12 (by decide) (fun c_2 => ?_) (fun c_2 => absurd c_2 (by decide))
  refine lv_iconst (v := 1) hx hb dX6_back_19 (by decide) ?_
  refine jw_i (wr := []) (va_runV (As := [.int 1]) (rest := []) ⟨hx, hb, hml, hown, hts⟩ (gM_refuses_1 l D cI cL cQ mo g q1 q3 q4 q5 q6 q11 z0 1 gr kd 0 w10 w13 w14 _) (cwV 1 hts gX6_back_X6_refuses rfl rfl rfl (by decide +kernel) ⟨Nat.le_of_ble_eq_true rfl, Nat.le_of_ble_eq_true rfl⟩) (jw_V hK hN hP hD [0] (by decide) rfl 6 0 rfl rfl rfl) rfl rfl hl.1 rfl (lv_room (Nat.le_of_ble_eq_true rfl)) dX6_back_20 ⟨Nat.le_of_ble_eq_true rfl, Nat.le_of_ble_eq_true rfl⟩) hP hD hS hA [0] [] rfl rfl (by decide) (by decide) (fun r u H locs f_3 hP hD hS => ?_)
  obtain ⟨rfl, rfl⟩ := f_3
  have hP : va_P D vwCl [(mo, .inr (6, [.int 1, .ref q1, .int (nI g), .ref q3, .ref q4, .ref q5, .ref q6, .int 1, .int gr, .int kd, .long w10, .ref q11, .int 0, .long w13, .long w14]))] H := hP
  have hD : va_D A [(mo, .inr (6, [.int 1, .ref q1, .int (nI g), .ref q3, .ref q4, .ref q5, .ref q6, .int 1, .int gr, .int kd, .long w10, .ref q11, .int 0, .long w13, .long w14]))] := hD
  refine lv_if_eq (tgt := 28) hx hb dX6_back_23 (by decide) (fun c_4 => absurd c_4 (by decide)) (fun c_4 => ?_)
  refine lv_iconst (v := 0) hx hb dX6_back_26 (by decide) ?_
  refine W.widen (k := 0) (n := 0) (by omega) (by omega) ?_
  exact W.iret (v := 0) hx hb hr (fun t ht hW => ⟨⟨0, [(mo, .inr (6, [.int 1, .ref q1, .int (nI g), .ref q3, .ref q4, .ref q5, .ref q6, .int 1, .int gr, .int kd, .long w10, .ref q11, .int 0, .long w13, .long w14]))], rfl, (by exact ⟨rfl, rfl⟩), by rw [ht]; exact hP, hD⟩, hS.F ht⟩) hS.2.2 dX6_back_27
set_option maxHeartbeats 1000000 in
set_option maxRecDepth 100000 in
theorem gM_clear (l : Launch) (D : va_G) (cI cL cQ : ClassId) (mo : Nat) (g : Nat) (n : Nat) (n2 : Nat) (q1 : Nat) (q3 : Nat) (q4 : Nat) (q5 : Nat) (q6 : Nat) (q11 : Nat) (z0 : Int32) (pr : Int32) (gr : Int32) (kd : Int32) (mk : Int32) (w10 : Int64) (w13 : Int64) (w14 : Int64) (t0 : Int32) (t1 : Int32) (t2 : Int32) (t3 : Int32) (t4 : Int32) (t5 : Int32) (t6 : Int32) (t7 : Int32) (t8 : Int32) (t9 : Int32) (t10 : Int32) (t11 : Int32) (t12 : Int32) (t13 : Int32) (t14 : Int32) (t15 : Int32) (t16 : Int32) (t17 : Int32) (t18 : Int32) (t19 : Int32) (t20 : Int32) (t21 : Int32) (t22 : Int32) (t23 : Int32) (sz : Nat) : Met l yX6_clear wsX6_clear ({ frames := 1, cells := 0, slots := 0, locals := 21 }) (jw_P D vwCl (jT cI cL cQ) cL cQ [.ref mo] [(mo, .inr (6, [.int z0, .ref q1, .int (nI g), .ref q3, .ref q4, .ref q5, .ref q6, .int pr, .int gr, .int kd, .long w10, .ref q11, .int mk, .long w13, .long w14])), (q6, .inl (cI, 2, .inl (jl [nI n, nI n2]))), (q11, .inl (cI, 24, .inl (jl [t0, t1, t2, t3, t4, t5, t6, t7, t8, t9, t10, t11, t12, t13, t14, t15, t16, t17, t18, t19, t20, t21, t22, t23])))] sz) (va_Qv (fun u : va_W => u = [(mo, .inr (6, [.int 0, .ref q1, .int (nI g), .ref q3, .ref q4, .ref q5, .ref q6, .int 0, .int 0, .int 0, .long 0, .ref q11, .int 0, .long w13, .long w14])), (q6, .inl (cI, 2, .inl (jl [0, 0]))), (q11, .inl (cI, 24, .inl (jl [0, 0, 0, 0, 0, 0, 0, 0, 0, 0, 0, 0, t12, t13, t14, t15, t16, t17, t18, t19, t20, t21, t22, t23])))]) (jw_B D vwCl (va_A [(mo, .inr (6, [.int z0, .ref q1, .int (nI g), .ref q3, .ref q4, .ref q5, .ref q6, .int pr, .int gr, .int kd, .long w10, .ref q11, .int mk, .long w13, .long w14])), (q6, .inl (cI, 2, .inl (jl [nI n, nI n2]))), (q11, .inl (cI, 24, .inl (jl [t0, t1, t2, t3, t4, t5, t6, t7, t8, t9, t10, t11, t12, t13, t14, t15, t16, t17, t18, t19, t20, t21, t22, t23])))] sz) (fun u : va_W => u)) (va_A [(mo, .inr (6, [.int z0, .ref q1, .int (nI g), .ref q3, .ref q4, .ref q5, .ref q6, .int pr, .int gr, .int kd, .long w10, .ref q11, .int mk, .long w13, .long w14])), (q6, .inl (cI, 2, .inl (jl [nI n, nI n2]))), (q11, .inl (cI, 24, .inl (jl [t0, t1, t2, t3, t4, t5, t6, t7, t8, t9, t10, t11, t12, t13, t14, t15, t16, t17, t18, t19, t20, t21, t22, t23])))] sz)) 0 0 (va_A [(mo, .inr (6, [.int z0, .ref q1, .int (nI g), .ref q3, .ref q4, .ref q5, .ref q6, .int pr, .int gr, .int kd, .long w10, .ref q11, .int mk, .long w13, .long w14])), (q6, .inl (cI, 2, .inl (jl [nI n, nI n2]))), (q11, .inl (cI, 24, .inl (jl [t0, t1, t2, t3, t4, t5, t6, t7, t8, t9, t10, t11, t12, t13, t14, t15, t16, t17, t18, t19, t20, t21, t22, t23])))] sz) := by
  refine Met.ofW (cc := cX6_clear) (maxL := 1) (ret := none) (by decide) rfl ?_
  intro p e s m args below meth c s₁ B hml hv
  obtain ⟨rfl, hsz, hP, hK, hN, hD0⟩ := hv
  have hx := B.exec
  have hb := B.bytes
  have hr := B.returns
  have hts := atoms_spec (ws := wsX6_clear) B.pre
  have hown : s.vm.findClass RX6 = some m.cls := findClass_of_methodNamed B.named
  have hlocks := B.notSynchronized
  subst hsz
  have hD := hD0.self (sz := s.heap.size)
  generalize hAe : va_A [(mo, .inr (6, [.int z0, .ref q1, .int (nI g), .ref q3, .ref q4, .ref q5, .ref q6, .int pr, .int gr, .int kd, .long w10, .ref q11, .int mk, .long w13, .long w14])), (q6, .inl (cI, 2, .inl (jl [nI n, nI n2]))), (q11, .inl (cI, 24, .inl (jl [t0, t1, t2, t3, t4, t5, t6, t7, t8, t9, t10, t11, t12, t13, t14, t15, t16, t17, t18, t19, t20, t21, t22, t23])))] s.heap.size = A at hD ⊢
  have hA : ∀ q : Nat, s.heap.size ≤ q → A q := fun q h => by rw [← hAe]; exact Or.inr h
  have hS : va_S A s.heap s.heap [] := va_S.rf
  have hl := lv_entry ([.ref mo]) (n := 1) (Nat.le_of_ble_eq_true rfl)
  rw [lg_entry_eq]
  generalize (lg_sl ([.ref mo]) ++ List.replicate (1 - (lg_sl ([.ref mo])).length) Slot.unset).toArray = ls at hl ⊢
  have hl : lv_has ls 1 [(0, .ref mo)] := hl
  refine lv_aload_n hx hb dX6_clear_0 rfl (lv_at hl 0 rfl) ?_
  refine lv_iconst (v := 0) hx hb dX6_clear_1 (by decide) ?_
  refine va_put (D := D) (ci := 6) (v := .int 0) (ty := .int) (C := RX6) (T := TX6) (N := 15) hx hb hts (by decide +kernel) tyX6 tyX6_ok nmX6 hown hK hP hD hS 0 rfl rfl 0 (by decide) (hts (.fieldLink RX6 36 "JoinDeskModel" "code" "I") (by decide +kernel)) (fun _ h9 => h9) rfl (by decide +kernel) rfl rfl (Nat.le_of_ble_eq_true rfl) dX6_clear_2 (fun H locs hP hD hS => ?_)
  have hP : va_P D vwCl [(mo, .inr (6, [.int 0, .ref q1, .int (nI g), .ref q3, .ref q4, .ref q5, .ref q6, .int pr, .int gr, .int kd, .long w10, .ref q11, .int mk, .long w13, .long w14])), (q6, .inl (cI, 2, .inl (jl [nI n, nI n2]))), (q11, .inl (cI, 24, .inl (jl [t0, t1, t2, t3, t4, t5, t6, t7, t8, t9, t10, t11, t12, t13, t14, t15, t16, t17, t18, t19, t20, t21, t22, t23])))] H := hP
  have hD : va_D A [(mo, .inr (6, [.int 0, .ref q1, .int (nI g), .ref q3, .ref q4, .ref q5, .ref q6, .int pr, .int gr, .int kd, .long w10, .ref q11, .int mk, .long w13, .long w14])), (q6, .inl (cI, 2, .inl (jl [nI n, nI n2]))), (q11, .inl (cI, 24, .inl (jl [t0, t1, t2, t3, t4, t5, t6, t7, t8, t9, t10, t11, t12, t13, t14, t15, t16, t17, t18, t19, t20, t21, t22, t23])))] := hD
  refine lv_aload_n hx hb dX6_clear_5 rfl (lv_at hl 0 rfl) ?_
  refine va_get (D := D) (ci := 6) (v := .ref q6) (C := RX6) (T := TX6) (N := 15) hx hb hts (by decide +kernel) hown hK hP 0 rfl rfl 6 (by decide) (hts (.fieldLink RX6 22 "JoinDeskModel" "many" "[I") (by decide +kernel)) (fun _ h9 => h9) rfl dX6_clear_6 ?_
  refine lv_iconst (v := 0) hx hb dX6_clear_9 (by decide) ?_
  refine lv_iconst (v := 0) hx hb dX6_clear_10 (by decide) ?_
  refine va_iast hx hb hK hP hD hS 1 0 rfl rfl (by unfold vp_in; decide) dX6_clear_11 (fun H locs hP hD hS => ?_)
  rw [jl_upd (show (0 : Int32).toNatClampNeg = 0 by decide) (Nat.le_of_ble_eq_true rfl)] at hP hD
  have hP : va_P D vwCl [(mo, .inr (6, [.int 0, .ref q1, .int (nI g), .ref q3, .ref q4, .ref q5, .ref q6, .int pr, .int gr, .int kd, .long w10, .ref q11, .int mk, .long w13, .long w14])), (q6, .inl (cI, 2, .inl (jl [0, nI n2]))), (q11, .inl (cI, 24, .inl (jl [t0, t1, t2, t3, t4, t5, t6, t7, t8, t9, t10, t11, t12, t13, t14, t15, t16, t17, t18, t19, t20, t21, t22, t23])))] H := hP
  have hD : va_D A [(mo, .inr (6, [.int 0, .ref q1, .int (nI g), .ref q3, .ref q4, .ref q5, .ref q6, .int pr, .int gr, .int kd, .long w10, .ref q11, .int mk, .long w13, .long w14])), (q6, .inl (cI, 2, .inl (jl [0, nI n2]))), (q11, .inl (cI, 24, .inl (jl [t0, t1, t2, t3, t4, t5, t6, t7, t8, t9, t10, t11, t12, t13, t14, t15, t16, t17, t18, t19, t20, t21, t22, t23])))] := hD
  refine lv_aload_n hx hb dX6_clear_12 rfl (lv_at hl 0 rfl) ?_
  refine va_get (D := D) (ci := 6) (v := .ref q6) (C := RX6) (T := TX6) (N := 15) hx hb hts (by decide +kernel) hown hK hP 0 rfl rfl 6 (by decide) (hts (.fieldLink RX6 22 "JoinDeskModel" "many" "[I") (by decide +kernel)) (fun _ h9 => h9) rfl dX6_clear_13 ?_
  refine lv_iconst (v := 1) hx hb dX6_clear_16 (by decide) ?_
  refine lv_iconst (v := 0) hx hb dX6_clear_17 (by decide) ?_
  refine va_iast hx hb hK hP hD hS 1 0 rfl rfl (by unfold vp_in; decide) dX6_clear_18 (fun H locs hP hD hS => ?_)
  rw [jl_upd (show (1 : Int32).toNatClampNeg = 1 by decide) (Nat.le_of_ble_eq_true rfl)] at hP hD
  have hP : va_P D vwCl [(mo, .inr (6, [.int 0, .ref q1, .int (nI g), .ref q3, .ref q4, .ref q5, .ref q6, .int pr, .int gr, .int kd, .long w10, .ref q11, .int mk, .long w13, .long w14])), (q6, .inl (cI, 2, .inl (jl [0, 0]))), (q11, .inl (cI, 24, .inl (jl [t0, t1, t2, t3, t4, t5, t6, t7, t8, t9, t10, t11, t12, t13, t14, t15, t16, t17, t18, t19, t20, t21, t22, t23])))] H := hP
  have hD : va_D A [(mo, .inr (6, [.int 0, .ref q1, .int (nI g), .ref q3, .ref q4, .ref q5, .ref q6, .int pr, .int gr, .int kd, .long w10, .ref q11, .int mk, .long w13, .long w14])), (q6, .inl (cI, 2, .inl (jl [0, 0]))), (q11, .inl (cI, 24, .inl (jl [t0, t1, t2, t3, t4, t5, t6, t7, t8, t9, t10, t11, t12, t13, t14, t15, t16, t17, t18, t19, t20, t21, t22, t23])))] := hD
  refine lv_aload_n hx hb dX6_clear_19 rfl (lv_at hl 0 rfl) ?_
  refine lv_iconst (v := 0) hx hb dX6_clear_20 (by decide) ?_
  refine va_put (D := D) (ci := 6) (v := .int 0) (ty := .int) (C := RX6) (T := TX6) (N := 15) hx hb hts (by decide +kernel) tyX6 tyX6_ok nmX6 hown hK hP hD hS 0 rfl rfl 9 (by decide) (hts (.fieldLink RX6 60 "JoinDeskModel" "kind" "I") (by decide +kernel)) (fun _ h9 => h9) rfl (by decide +kernel) rfl rfl (Nat.le_of_ble_eq_true rfl) dX6_clear_21 (fun H locs hP hD hS => ?_)
  have hP : va_P D vwCl [(mo, .inr (6, [.int 0, .ref q1, .int (nI g), .ref q3, .ref q4, .ref q5, .ref q6, .int pr, .int gr, .int 0, .long w10, .ref q11, .int mk, .long w13, .long w14])), (q6, .inl (cI, 2, .inl (jl [0, 0]))), (q11, .inl (cI, 24, .inl (jl [t0, t1, t2, t3, t4, t5, t6, t7, t8, t9, t10, t11, t12, t13, t14, t15, t16, t17, t18, t19, t20, t21, t22, t23])))] H := hP
  have hD : va_D A [(mo, .inr (6, [.int 0, .ref q1, .int (nI g), .ref q3, .ref q4, .ref q5, .ref q6, .int pr, .int gr, .int 0, .long w10, .ref q11, .int mk, .long w13, .long w14])), (q6, .inl (cI, 2, .inl (jl [0, 0]))), (q11, .inl (cI, 24, .inl (jl [t0, t1, t2, t3, t4, t5, t6, t7, t8, t9, t10, t11, t12, t13, t14, t15, t16, t17, t18, t19, t20, t21, t22, t23])))] := hD
  refine lv_aload_n hx hb dX6_clear_24 rfl (lv_at hl 0 rfl) ?_
  refine lv_iconst (v := 0) hx hb dX6_clear_25 (by decide) ?_
  refine va_put (D := D) (ci := 6) (v := .int 0) (ty := .boolean) (C := RX6) (T := TX6) (N := 15) hx hb hts (by decide +kernel) tyX6 tyX6_ok nmX6 hown hK hP hD hS 0 rfl rfl 7 (by decide) (hts (.fieldLink RX6 43 "JoinDeskModel" "prepared" "Z") (by decide +kernel)) (fun _ h9 => h9) rfl (by decide +kernel) rfl rfl (Nat.le_of_ble_eq_true rfl) dX6_clear_26 (fun H locs hP hD hS => ?_)
  have hP : va_P D vwCl [(mo, .inr (6, [.int 0, .ref q1, .int (nI g), .ref q3, .ref q4, .ref q5, .ref q6, .int 0, .int gr, .int 0, .long w10, .ref q11, .int mk, .long w13, .long w14])), (q6, .inl (cI, 2, .inl (jl [0, 0]))), (q11, .inl (cI, 24, .inl (jl [t0, t1, t2, t3, t4, t5, t6, t7, t8, t9, t10, t11, t12, t13, t14, t15, t16, t17, t18, t19, t20, t21, t22, t23])))] H := hP
  have hD : va_D A [(mo, .inr (6, [.int 0, .ref q1, .int (nI g), .ref q3, .ref q4, .ref q5, .ref q6, .int 0, .int gr, .int 0, .long w10, .ref q11, .int mk, .long w13, .long w14])), (q6, .inl (cI, 2, .inl (jl [0, 0]))), (q11, .inl (cI, 24, .inl (jl [t0, t1, t2, t3, t4, t5, t6, t7, t8, t9, t10, t11, t12, t13, t14, t15, t16, t17, t18, t19, t20, t21, t22, t23])))] := hD
  refine lv_aload_n hx hb dX6_clear_29 rfl (lv_at hl 0 rfl) ?_
  refine lv_iconst (v := 0) hx hb dX6_clear_30 (by decide) ?_
  refine va_put (D := D) (ci := 6) (v := .int 0) (ty := .boolean) (C := RX6) (T := TX6) (N := 15) hx hb hts (by decide +kernel) tyX6 tyX6_ok nmX6 hown hK hP hD hS 0 rfl rfl 8 (by decide) (hts (.fieldLink RX6 47 "JoinDeskModel" "grouped" "Z") (by decide +kernel)) (fun _ h9 => h9) rfl (by decide +kernel) rfl rfl (Nat.le_of_ble_eq_true rfl) dX6_clear_31 (fun H locs hP hD hS => ?_)
  have hP : va_P D vwCl [(mo, .inr (6, [.int 0, .ref q1, .int (nI g), .ref q3, .ref q4, .ref q5, .ref q6, .int 0, .int 0, .int 0, .long w10, .ref q11, .int mk, .long w13, .long w14])), (q6, .inl (cI, 2, .inl (jl [0, 0]))), (q11, .inl (cI, 24, .inl (jl [t0, t1, t2, t3, t4, t5, t6, t7, t8, t9, t10, t11, t12, t13, t14, t15, t16, t17, t18, t19, t20, t21, t22, t23])))] H := hP
  have hD : va_D A [(mo, .inr (6, [.int 0, .ref q1, .int (nI g), .ref q3, .ref q4, .ref q5, .ref q6, .int 0, .int 0, .int 0, .long w10, .ref q11, .int mk, .long w13, .long w14])), (q6, .inl (cI, 2, .inl (jl [0, 0]))), (q11, .inl (cI, 24, .inl (jl [t0, t1, t2, t3, t4, t5, t6, t7, t8, t9, t10, t11, t12, t13, t14, t15, t16, t17, t18, t19, t20, t21, t22, t23])))] := hD
  refine lv_aload_n hx hb dX6_clear_34 rfl (lv_at hl 0 rfl) ?_
  refine lv_iconst (v := 0) hx hb dX6_clear_35 (by decide) ?_
  refine va_put (D := D) (ci := 6) (v := .int 0) (ty := .boolean) (C := RX6) (T := TX6) (N := 15) hx hb hts (by decide +kernel) tyX6 tyX6_ok nmX6 hown hK hP hD hS 0 rfl rfl 12 (by decide) (hts (.fieldLink RX6 57 "JoinDeskModel" "marked" "Z") (by decide +kernel)) (fun _ h9 => h9) rfl (by decide +kernel) rfl rfl (Nat.le_of_ble_eq_true rfl) dX6_clear_36 (fun H locs hP hD hS => ?_)
  have hP : va_P D vwCl [(mo, .inr (6, [.int 0, .ref q1, .int (nI g), .ref q3, .ref q4, .ref q5, .ref q6, .int 0, .int 0, .int 0, .long w10, .ref q11, .int 0, .long w13, .long w14])), (q6, .inl (cI, 2, .inl (jl [0, 0]))), (q11, .inl (cI, 24, .inl (jl [t0, t1, t2, t3, t4, t5, t6, t7, t8, t9, t10, t11, t12, t13, t14, t15, t16, t17, t18, t19, t20, t21, t22, t23])))] H := hP
  have hD : va_D A [(mo, .inr (6, [.int 0, .ref q1, .int (nI g), .ref q3, .ref q4, .ref q5, .ref q6, .int 0, .int 0, .int 0, .long w10, .ref q11, .int 0, .long w13, .long w14])), (q6, .inl (cI, 2, .inl (jl [0, 0]))), (q11, .inl (cI, 24, .inl (jl [t0, t1, t2, t3, t4, t5, t6, t7, t8, t9, t10, t11, t12, t13, t14, t15, t16, t17, t18, t19, t20, t21, t22, t23])))] := hD
  refine lv_aload_n hx hb dX6_clear_39 rfl (lv_at hl 0 rfl) ?_
  refine lv_lconst (v := 0) hx hb dX6_clear_40 (by decide) ?_
  refine va_put (D := D) (ci := 6) (v := .long 0) (ty := .long) (C := RX6) (T := TX6) (N := 15) hx hb hts (by decide +kernel) tyX6 tyX6_ok nmX6 hown hK hP hD hS 0 rfl rfl 10 (by decide) (hts (.fieldLink RX6 53 "JoinDeskModel" "cells" "J") (by decide +kernel)) (fun _ h9 => h9) rfl (by decide +kernel) rfl rfl (Nat.le_of_ble_eq_true rfl) dX6_clear_41 (fun H locs hP hD hS => ?_)
  have hP : va_P D vwCl [(mo, .inr (6, [.int 0, .ref q1, .int (nI g), .ref q3, .ref q4, .ref q5, .ref q6, .int 0, .int 0, .int 0, .long 0, .ref q11, .int 0, .long w13, .long w14])), (q6, .inl (cI, 2, .inl (jl [0, 0]))), (q11, .inl (cI, 24, .inl (jl [t0, t1, t2, t3, t4, t5, t6, t7, t8, t9, t10, t11, t12, t13, t14, t15, t16, t17, t18, t19, t20, t21, t22, t23])))] H := hP
  have hD : va_D A [(mo, .inr (6, [.int 0, .ref q1, .int (nI g), .ref q3, .ref q4, .ref q5, .ref q6, .int 0, .int 0, .int 0, .long 0, .ref q11, .int 0, .long w13, .long w14])), (q6, .inl (cI, 2, .inl (jl [0, 0]))), (q11, .inl (cI, 24, .inl (jl [t0, t1, t2, t3, t4, t5, t6, t7, t8, t9, t10, t11, t12, t13, t14, t15, t16, t17, t18, t19, t20, t21, t22, t23])))] := hD
  refine lv_aload_n hx hb dX6_clear_44 rfl (lv_at hl 0 rfl) ?_
  refine jw_v (wr := [(q6, .inl (cI, 2, .inl (jl [0, 0])))]) (va_runV (As := []) (rest := []) ⟨hx, hb, hml, hown, hts⟩ (gM_begins l D cI cL cQ mo g q1 q3 q4 q5 q6 q11 0 0 0 0 0 0 w13 w14 t0 t1 t2 t3 t4 t5 t6 t7 t8 t9 t10 t11 t12 t13 t14 t15 t16 t17 t18 t19 t20 t21 t22 t23 _) (cwV 0 hts gX6_clear_X6_begins rfl rfl rfl (by decide +kernel) ⟨Nat.le_of_ble_eq_true rfl, Nat.le_of_ble_eq_true rfl⟩) (jw_V hK hN hP hD [0, 2] (by decide) rfl 6 0 rfl rfl rfl) rfl rfl hl.1 rfl (lv_room (Nat.le_of_ble_eq_true rfl)) dX6_clear_45 ⟨Nat.le_of_ble_eq_true rfl, Nat.le_of_ble_eq_true rfl⟩) hP hD hS hA [0, 2] [1] rfl rfl (by decide) (by decide) (fun u H locs f_1 hP hD hS => ?_)
  obtain rfl := f_1
  have hP : va_P D vwCl [(q6, .inl (cI, 2, .inl (jl [0, 0]))), (mo, .inr (6, [.int 0, .ref q1, .int (nI g), .ref q3, .ref q4, .ref q5, .ref q6, .int 0, .int 0, .int 0, .long 0, .ref q11, .int 0, .long w13, .long w14])), (q11, .inl (cI, 24, .inl (jl [0, 0, 0, 0, 0, 0, 0, 0, 0, 0, 0, 0, t12, t13, t14, t15, t16, t17, t18, t19, t20, t21, t22, t23])))] H := hP
  have hD : va_D A [(q6, .inl (cI, 2, .inl (jl [0, 0]))), (mo, .inr (6, [.int 0, .ref q1, .int (nI g), .ref q3, .ref q4, .ref q5, .ref q6, .int 0, .int 0, .int 0, .long 0, .ref q11, .int 0, .long w13, .long w14])), (q11, .inl (cI, 24, .inl (jl [0, 0, 0, 0, 0, 0, 0, 0, 0, 0, 0, 0, t12, t13, t14, t15, t16, t17, t18, t19, t20, t21, t22, t23])))] := hD
  have hP := hP.sub (ws' := [(mo, .inr (6, [.int 0, .ref q1, .int (nI g), .ref q3, .ref q4, .ref q5, .ref q6, .int 0, .int 0, .int 0, .long 0, .ref q11, .int 0, .long w13, .long w14])), (q6, .inl (cI, 2, .inl (jl [0, 0]))), (q11, .inl (cI, 24, .inl (jl [0, 0, 0, 0, 0, 0, 0, 0, 0, 0, 0, 0, t12, t13, t14, t15, t16, t17, t18, t19, t20, t21, t22, t23])))]) [1, 0, 2] rfl
  have hD := hD.sub (ws' := [(mo, .inr (6, [.int 0, .ref q1, .int (nI g), .ref q3, .ref q4, .ref q5, .ref q6, .int 0, .int 0, .int 0, .long 0, .ref q11, .int 0, .long w13, .long w14])), (q6, .inl (cI, 2, .inl (jl [0, 0]))), (q11, .inl (cI, 24, .inl (jl [0, 0, 0, 0, 0, 0, 0, 0, 0, 0, 0, 0, t12, t13, t14, t15, t16, t17, t18, t19, t20, t21, t22, t23])))]) [1, 0, 2] (by decide) rfl
  refine W.widen (k := 0) (n := 0) (by omega) (by omega) ?_
  exact W.vret hx hb hr (fun t ht hW => ⟨⟨[(mo, .inr (6, [.int 0, .ref q1, .int (nI g), .ref q3, .ref q4, .ref q5, .ref q6, .int 0, .int 0, .int 0, .long 0, .ref q11, .int 0, .long w13, .long w14])), (q6, .inl (cI, 2, .inl (jl [0, 0]))), (q11, .inl (cI, 24, .inl (jl [0, 0, 0, 0, 0, 0, 0, 0, 0, 0, 0, 0, t12, t13, t14, t15, t16, t17, t18, t19, t20, t21, t22, t23])))], rfl, (by exact rfl), by rw [ht]; exact hP, hD⟩, hS.F ht⟩) hS.2.2 dX6_clear_48
set_option maxHeartbeats 1000000 in
set_option maxRecDepth 100000 in
theorem gM_about_t (l : Launch) (D : va_G) (cI cL cQ : ClassId) (mo : Nat) (g : Nat) (q1 : Nat) (q3 : Nat) (q4 : Nat) (q5 : Nat) (q6 : Nat) (q11 : Nat) (z0 : Int32) (pr : Int32) (gr : Int32) (kd : Int32) (mk : Int32) (w10 : Int64) (w13 : Int64) (w14 : Int64) (x : Int32) (sz : Nat) (h1 : x < 0 ∨ 4 < x) : Met l yX6_about wsX6_about ({ frames := 1, cells := 0, slots := 0, locals := 21 }) (jw_P D vwCl (jT cI cL cQ) cL cQ [.ref mo, .int x] [(mo, .inr (6, [.int z0, .ref q1, .int (nI g), .ref q3, .ref q4, .ref q5, .ref q6, .int pr, .int gr, .int kd, .long w10, .ref q11, .int mk, .long w13, .long w14]))] sz) (va_Ql (fun (r : Int64) (u : va_W) => r = 0 ∧ u = [(mo, .inr (6, [.int 1, .ref q1, .int (nI g), .ref q3, .ref q4, .ref q5, .ref q6, .int pr, .int gr, .int kd, .long w10, .ref q11, .int mk, .long w13, .long w14]))]) (jw_B D vwCl (va_A [(mo, .inr (6, [.int z0, .ref q1, .int (nI g), .ref q3, .ref q4, .ref q5, .ref q6, .int pr, .int gr, .int kd, .long w10, .ref q11, .int mk, .long w13, .long w14]))] sz) (fun u : va_W => u)) (va_A [(mo, .inr (6, [.int z0, .ref q1, .int (nI g), .ref q3, .ref q4, .ref q5, .ref q6, .int pr, .int gr, .int kd, .long w10, .ref q11, .int mk, .long w13, .long w14]))] sz)) 0 0 (va_A [(mo, .inr (6, [.int z0, .ref q1, .int (nI g), .ref q3, .ref q4, .ref q5, .ref q6, .int pr, .int gr, .int kd, .long w10, .ref q11, .int mk, .long w13, .long w14]))] sz) := by
  refine Met.ofW (cc := cX6_about) (maxL := 2) (ret := (some .long)) (by decide) rfl ?_
  intro p e s m args below meth c s₁ B hml hv
  obtain ⟨rfl, hsz, hP, hK, hN, hD0⟩ := hv
  have hx := B.exec
  have hb := B.bytes
  have hr := B.returns
  have hts := atoms_spec (ws := wsX6_about) B.pre
  have hown : s.vm.findClass RX6 = some m.cls := findClass_of_methodNamed B.named
  have hlocks := B.notSynchronized
  subst hsz
  have hD := hD0.self (sz := s.heap.size)
  generalize hAe : va_A [(mo, .inr (6, [.int z0, .ref q1, .int (nI g), .ref q3, .ref q4, .ref q5, .ref q6, .int pr, .int gr, .int kd, .long w10, .ref q11, .int mk, .long w13, .long w14]))] s.heap.size = A at hD ⊢
  have hA : ∀ q : Nat, s.heap.size ≤ q → A q := fun q h => by rw [← hAe]; exact Or.inr h
  have hS : va_S A s.heap s.heap [] := va_S.rf
  have hl := lv_entry ([.ref mo, .int x]) (n := 2) (Nat.le_of_ble_eq_true rfl)
  rw [lg_entry_eq]
  generalize (lg_sl ([.ref mo, .int x]) ++ List.replicate (2 - (lg_sl ([.ref mo, .int x])).length) Slot.unset).toArray = ls at hl ⊢
  have hl : lv_has ls 2 [(0, .ref mo), (1, .int x)] := hl
  refine lv_aload_n hx hb dX6_about_0 rfl (lv_at hl 0 rfl) ?_
  refine lv_iload_n hx hb dX6_about_1 rfl (lv_at hl 1 rfl) ?_
  refine lv_if_lt (tgt := 10) hx hb dX6_about_2 (by decide) (fun c_1 => ?_) (fun c_1 => ?_)
  · refine lv_iconst (v := 1) hx hb dX6_about_10 (by decide) ?_
    refine lv_goto (tgt := 15) hx hb dX6_about_11 (by decide) ?_
    refine jw_i (wr := []) (va_runV (As := [.int 1]) (rest := []) ⟨hx, hb, hml, hown, hts⟩ (gM_refuses_1 l D cI cL cQ mo g q1 q3 q4 q5 q6 q11 z0 pr gr kd mk w10 w13 w14 _) (cwV 1 hts gX6_about_X6_refuses rfl rfl rfl (by decide +kernel) ⟨Nat.le_of_ble_eq_true rfl, Nat.le_of_ble_eq_true rfl⟩) (jw_V hK hN hP hD [0] (by decide) rfl 6 0 rfl rfl rfl) rfl rfl hl.1 rfl (lv_room (Nat.le_of_ble_eq_true rfl)) dX6_about_15 ⟨Nat.le_of_ble_eq_true rfl, Nat.le_of_ble_eq_true rfl⟩) hP hD hS hA [0] [] rfl rfl (by decide) (by decide) (fun r u H locs f_2 hP hD hS => ?_)
    obtain ⟨rfl, rfl⟩ := f_2
    have hP : va_P D vwCl [(mo, .inr (6, [.int 1, .ref q1, .int (nI g), .ref q3, .ref q4, .ref q5, .ref q6, .int pr, .int gr, .int kd, .long w10, .ref q11, .int mk, .long w13, .long w14]))] H := hP
    have hD : va_D A [(mo, .inr (6, [.int 1, .ref q1, .int (nI g), .ref q3, .ref q4, .ref q5, .ref q6, .int pr, .int gr, .int kd, .long w10, .ref q11, .int mk, .long w13, .long w14]))] := hD
    refine lv_if_eq (tgt := 23) hx hb dX6_about_18 (by decide) (fun c_3 => absurd c_3 (by decide)) (fun c_3 => ?_)
    refine lv_lconst (v := 0) hx hb dX6_about_21 (by decide) ?_
    refine W.widen (k := 0) (n := 0) (by omega) (by omega) ?_
    exact W.lret (v := 0) hx hb hr (fun t ht hW => ⟨⟨0, [(mo, .inr (6, [.int 1, .ref q1, .int (nI g), .ref q3, .ref q4, .ref q5, .ref q6, .int pr, .int gr, .int kd, .long w10, .ref q11, .int mk, .long w13, .long w14]))], rfl, (by exact ⟨rfl, rfl⟩), by rw [ht]; exact hP, hD⟩, hS.F ht⟩) hS.2.2 dX6_about_22
  · refine lv_iload_n hx hb dX6_about_5 rfl (lv_at hl 1 rfl) ?_
    refine lv_iconst (v := 4) hx hb dX6_about_6 (by decide) ?_
    refine lv_icmp_le (tgt := 14) hx hb dX6_about_7 (by decide) (fun c_4 => absurd c_4 (by exact j_nle (h1.resolve_left (by assumption)))) (fun c_4 => ?_)
    refine lv_iconst (v := 1) hx hb dX6_about_10 (by decide) ?_
    refine lv_goto (tgt := 15) hx hb dX6_about_11 (by decide) ?_
    refine jw_i (wr := []) (va_runV (As := [.int 1]) (rest := []) ⟨hx, hb, hml, hown, hts⟩ (gM_refuses_1 l D cI cL cQ mo g q1 q3 q4 q5 q6 q11 z0 pr gr kd mk w10 w13 w14 _) (cwV 1 hts gX6_about_X6_refuses rfl rfl rfl (by decide +kernel) ⟨Nat.le_of_ble_eq_true rfl, Nat.le_of_ble_eq_true rfl⟩) (jw_V hK hN hP hD [0] (by decide) rfl 6 0 rfl rfl rfl) rfl rfl hl.1 rfl (lv_room (Nat.le_of_ble_eq_true rfl)) dX6_about_15 ⟨Nat.le_of_ble_eq_true rfl, Nat.le_of_ble_eq_true rfl⟩) hP hD hS hA [0] [] rfl rfl (by decide) (by decide) (fun r u H locs f_5 hP hD hS => ?_)
    obtain ⟨rfl, rfl⟩ := f_5
    have hP : va_P D vwCl [(mo, .inr (6, [.int 1, .ref q1, .int (nI g), .ref q3, .ref q4, .ref q5, .ref q6, .int pr, .int gr, .int kd, .long w10, .ref q11, .int mk, .long w13, .long w14]))] H := hP
    have hD : va_D A [(mo, .inr (6, [.int 1, .ref q1, .int (nI g), .ref q3, .ref q4, .ref q5, .ref q6, .int pr, .int gr, .int kd, .long w10, .ref q11, .int mk, .long w13, .long w14]))] := hD
    refine lv_if_eq (tgt := 23) hx hb dX6_about_18 (by decide) (fun c_6 => absurd c_6 (by decide)) (fun c_6 => ?_)
    refine lv_lconst (v := 0) hx hb dX6_about_21 (by decide) ?_
    refine W.widen (k := 0) (n := 0) (by omega) (by omega) ?_
    exact W.lret (v := 0) hx hb hr (fun t ht hW => ⟨⟨0, [(mo, .inr (6, [.int 1, .ref q1, .int (nI g), .ref q3, .ref q4, .ref q5, .ref q6, .int pr, .int gr, .int kd, .long w10, .ref q11, .int mk, .long w13, .long w14]))], rfl, (by exact ⟨rfl, rfl⟩), by rw [ht]; exact hP, hD⟩, hS.F ht⟩) hS.2.2 dX6_about_22
set_option maxHeartbeats 1000000 in
set_option maxRecDepth 100000 in
theorem gM_about_0 (l : Launch) (D : va_G) (cI cL cQ : ClassId) (mo : Nat) (g : Nat) (n : Nat) (n2 : Nat) (q1 : Nat) (q3 : Nat) (q4 : Nat) (q5 : Nat) (q6 : Nat) (q11 : Nat) (z0 : Int32) (pr : Int32) (gr : Int32) (kd : Int32) (mk : Int32) (w10 : Int64) (w13 : Int64) (w14 : Int64) (sz : Nat) : Met l yX6_about wsX6_about ({ frames := 1, cells := 0, slots := 0, locals := 21 }) (jw_P D vwCl (jT cI cL cQ) cL cQ [.ref mo, .int 0] [(mo, .inr (6, [.int z0, .ref q1, .int (nI g), .ref q3, .ref q4, .ref q5, .ref q6, .int pr, .int gr, .int kd, .long w10, .ref q11, .int mk, .long w13, .long w14])), (q6, .inl (cI, 2, .inl (jl [nI n, nI n2])))] sz) (va_Ql (fun (r : Int64) (u : va_W) => r = w10 ∧ u = [(mo, .inr (6, [.int 0, .ref q1, .int (nI g), .ref q3, .ref q4, .ref q5, .ref q6, .int pr, .int gr, .int kd, .long w10, .ref q11, .int mk, .long w13, .long w14])), (q6, .inl (cI, 2, .inl (jl [nI n, nI n2])))]) (jw_B D vwCl (va_A [(mo, .inr (6, [.int z0, .ref q1, .int (nI g), .ref q3, .ref q4, .ref q5, .ref q6, .int pr, .int gr, .int kd, .long w10, .ref q11, .int mk, .long w13, .long w14])), (q6, .inl (cI, 2, .inl (jl [nI n, nI n2])))] sz) (fun u : va_W => u)) (va_A [(mo, .inr (6, [.int z0, .ref q1, .int (nI g), .ref q3, .ref q4, .ref q5, .ref q6, .int pr, .int gr, .int kd, .long w10, .ref q11, .int mk, .long w13, .long w14])), (q6, .inl (cI, 2, .inl (jl [nI n, nI n2])))] sz)) 0 0 (va_A [(mo, .inr (6, [.int z0, .ref q1, .int (nI g), .ref q3, .ref q4, .ref q5, .ref q6, .int pr, .int gr, .int kd, .long w10, .ref q11, .int mk, .long w13, .long w14])), (q6, .inl (cI, 2, .inl (jl [nI n, nI n2])))] sz) := by
  refine Met.ofW (cc := cX6_about) (maxL := 2) (ret := (some .long)) (by decide) rfl ?_
  intro p e s m args below meth c s₁ B hml hv
  obtain ⟨rfl, hsz, hP, hK, hN, hD0⟩ := hv
  have hx := B.exec
  have hb := B.bytes
  have hr := B.returns
  have hts := atoms_spec (ws := wsX6_about) B.pre
  have hown : s.vm.findClass RX6 = some m.cls := findClass_of_methodNamed B.named
  have hlocks := B.notSynchronized
  subst hsz
  have hD := hD0.self (sz := s.heap.size)
  generalize hAe : va_A [(mo, .inr (6, [.int z0, .ref q1, .int (nI g), .ref q3, .ref q4, .ref q5, .ref q6, .int pr, .int gr, .int kd, .long w10, .ref q11, .int mk, .long w13, .long w14])), (q6, .inl (cI, 2, .inl (jl [nI n, nI n2])))] s.heap.size = A at hD ⊢
  have hA : ∀ q : Nat, s.heap.size ≤ q → A q := fun q h => by rw [← hAe]; exact Or.inr h
  have hS : va_S A s.heap s.heap [] := va_S.rf
  have hl := lv_entry ([.ref mo, .int 0]) (n := 2) (Nat.le_of_ble_eq_true rfl)
  rw [lg_entry_eq]
  generalize (lg_sl ([.ref mo, .int 0]) ++ List.replicate (2 - (lg_sl ([.ref mo, .int 0])).length) Slot.unset).toArray = ls at hl ⊢
  have hl : lv_has ls 2 [(0, .ref mo), (1, .int 0)] := hl
  refine lv_aload_n hx hb dX6_about_0 rfl (lv_at hl 0 rfl) ?_
  refine lv_iload_n hx hb dX6_about_1 rfl (lv_at hl 1 rfl) ?_
  refine lv_if_lt (tgt := 10) hx hb dX6_about_2 (by decide) (fun c_1 => absurd c_1 (by decide)) (fun c_1 => ?_)
  refine lv_iload_n hx hb dX6_about_5 rfl (lv_at hl 1 rfl) ?_
  refine lv_iconst (v := 4) hx hb dX6_about_6 (by decide) ?_
  refine lv_icmp_le (tgt := 14) hx hb dX6_about_7 (by decide) (fun c_2 => ?_) (fun c_2 => absurd c_2 (by decide))
  refine lv_iconst (v := 0) hx hb dX6_about_14 (by decide) ?_
  refine jw_i (wr := [(q6, .inl (cI, 2, .inl (jl [nI n, nI n2])))]) (va_runV (As := [.int 0]) (rest := []) ⟨hx, hb, hml, hown, hts⟩ (gM_refuses_0 l D cI cL cQ mo g q1 q3 q4 q5 q6 q11 z0 pr gr kd mk w10 w13 w14 _) (cwV 1 hts gX6_about_X6_refuses rfl rfl rfl (by decide +kernel) ⟨Nat.le_of_ble_eq_true rfl, Nat.le_of_ble_eq_true rfl⟩) (jw_V hK hN hP hD [0] (by decide) rfl 6 0 rfl rfl rfl) rfl rfl hl.1 rfl (lv_room (Nat.le_of_ble_eq_true rfl)) dX6_about_15 ⟨Nat.le_of_ble_eq_true rfl, Nat.le_of_ble_eq_true rfl⟩) hP hD hS hA [0] [1] rfl rfl (by decide) (by decide) (fun r u H locs f_3 hP hD hS => ?_)
  obtain ⟨rfl, rfl⟩ := f_3
  have hP : va_P D vwCl [(q6, .inl (cI, 2, .inl (jl [nI n, nI n2]))), (mo, .inr (6, [.int 0, .ref q1, .int (nI g), .ref q3, .ref q4, .ref q5, .ref q6, .int pr, .int gr, .int kd, .long w10, .ref q11, .int mk, .long w13, .long w14]))] H := hP
  have hD : va_D A [(q6, .inl (cI, 2, .inl (jl [nI n, nI n2]))), (mo, .inr (6, [.int 0, .ref q1, .int (nI g), .ref q3, .ref q4, .ref q5, .ref q6, .int pr, .int gr, .int kd, .long w10, .ref q11, .int mk, .long w13, .long w14]))] := hD
  refine lv_if_eq (tgt := 23) hx hb dX6_about_18 (by decide) (fun c_4 => ?_) (fun c_4 => absurd c_4 (by decide))
  refine lv_iload_n hx hb dX6_about_23 rfl (lv_at hl 1 rfl) ?_
  refine lv_if_ne (tgt := 34) hx hb dX6_about_24 (by decide) (fun c_5 => absurd c_5 (by decide)) (fun c_5 => ?_)
  refine lv_aload_n hx hb dX6_about_27 rfl (lv_at hl 0 rfl) ?_
  refine va_get (D := D) (ci := 6) (v := .long w10) (C := RX6) (T := TX6) (N := 15) hx hb hts (by decide +kernel) hown hK hP 1 rfl rfl 10 (by decide) (hts (.fieldLink RX6 53 "JoinDeskModel" "cells" "J") (by decide +kernel)) (fun _ h9 => h9) rfl dX6_about_28 ?_
  refine lv_goto (tgt := 76) hx hb dX6_about_31 (by decide) ?_
  have hP := hP.sub (ws' := [(mo, .inr (6, [.int 0, .ref q1, .int (nI g), .ref q3, .ref q4, .ref q5, .ref q6, .int pr, .int gr, .int kd, .long w10, .ref q11, .int mk, .long w13, .long w14])), (q6, .inl (cI, 2, .inl (jl [nI n, nI n2])))]) [1, 0] rfl
  have hD := hD.sub (ws' := [(mo, .inr (6, [.int 0, .ref q1, .int (nI g), .ref q3, .ref q4, .ref q5, .ref q6, .int pr, .int gr, .int kd, .long w10, .ref q11, .int mk, .long w13, .long w14])), (q6, .inl (cI, 2, .inl (jl [nI n, nI n2])))]) [1, 0] (by decide) rfl
  refine W.widen (k := 0) (n := 0) (by omega) (by omega) ?_
  exact W.lret (v := w10) hx hb hr (fun t ht hW => ⟨⟨w10, [(mo, .inr (6, [.int 0, .ref q1, .int (nI g), .ref q3, .ref q4, .ref q5, .ref q6, .int pr, .int gr, .int kd, .long w10, .ref q11, .int mk, .long w13, .long w14])), (q6, .inl (cI, 2, .inl (jl [nI n, nI n2])))], rfl, (by exact ⟨rfl, rfl⟩), by rw [ht]; exact hP, hD⟩, hS.F ht⟩) hS.2.2 dX6_about_76
set_option maxHeartbeats 1000000 in
set_option maxRecDepth 100000 in
theorem gM_about_1 (l : Launch) (D : va_G) (cI cL cQ : ClassId) (mo : Nat) (g : Nat) (n : Nat) (n2 : Nat) (q1 : Nat) (q3 : Nat) (q4 : Nat) (q5 : Nat) (q6 : Nat) (q11 : Nat) (z0 : Int32) (pr : Int32) (gr : Int32) (kd : Int32) (mk : Int32) (w10 : Int64) (w13 : Int64) (w14 : Int64) (sz : Nat) : Met l yX6_about wsX6_about ({ frames := 1, cells := 0, slots := 0, locals := 21 }) (jw_P D vwCl (jT cI cL cQ) cL cQ [.ref mo, .int 1] [(mo, .inr (6, [.int z0, .ref q1, .int (nI g), .ref q3, .ref q4, .ref q5, .ref q6, .int pr, .int gr, .int kd, .long w10, .ref q11, .int mk, .long w13, .long w14])), (q6, .inl (cI, 2, .inl (jl [nI n, nI n2])))] sz) (va_Ql (fun (r : Int64) (u : va_W) => r = (nI n).toInt64 ∧ u = [(mo, .inr (6, [.int 0, .ref q1, .int (nI g), .ref q3, .ref q4, .ref q5, .ref q6, .int pr, .int gr, .int kd, .long w10, .ref q11, .int mk, .long w13, .long w14])), (q6, .inl (cI, 2, .inl (jl [nI n, nI n2])))]) (jw_B D vwCl (va_A [(mo, .inr (6, [.int z0, .ref q1, .int (nI g), .ref q3, .ref q4, .ref q5, .ref q6, .int pr, .int gr, .int kd, .long w10, .ref q11, .int mk, .long w13, .long w14])), (q6, .inl (cI, 2, .inl (jl [nI n, nI n2])))] sz) (fun u : va_W => u)) (va_A [(mo, .inr (6, [.int z0, .ref q1, .int (nI g), .ref q3, .ref q4, .ref q5, .ref q6, .int pr, .int gr, .int kd, .long w10, .ref q11, .int mk, .long w13, .long w14])), (q6, .inl (cI, 2, .inl (jl [nI n, nI n2])))] sz)) 0 0 (va_A [(mo, .inr (6, [.int z0, .ref q1, .int (nI g), .ref q3, .ref q4, .ref q5, .ref q6, .int pr, .int gr, .int kd, .long w10, .ref q11, .int mk, .long w13, .long w14])), (q6, .inl (cI, 2, .inl (jl [nI n, nI n2])))] sz) := by
  refine Met.ofW (cc := cX6_about) (maxL := 2) (ret := (some .long)) (by decide) rfl ?_
  intro p e s m args below meth c s₁ B hml hv
  obtain ⟨rfl, hsz, hP, hK, hN, hD0⟩ := hv
  have hx := B.exec
  have hb := B.bytes
  have hr := B.returns
  have hts := atoms_spec (ws := wsX6_about) B.pre
  have hown : s.vm.findClass RX6 = some m.cls := findClass_of_methodNamed B.named
  have hlocks := B.notSynchronized
  subst hsz
  have hD := hD0.self (sz := s.heap.size)
  generalize hAe : va_A [(mo, .inr (6, [.int z0, .ref q1, .int (nI g), .ref q3, .ref q4, .ref q5, .ref q6, .int pr, .int gr, .int kd, .long w10, .ref q11, .int mk, .long w13, .long w14])), (q6, .inl (cI, 2, .inl (jl [nI n, nI n2])))] s.heap.size = A at hD ⊢
  have hA : ∀ q : Nat, s.heap.size ≤ q → A q := fun q h => by rw [← hAe]; exact Or.inr h
  have hS : va_S A s.heap s.heap [] := va_S.rf
  have hl := lv_entry ([.ref mo, .int 1]) (n := 2) (Nat.le_of_ble_eq_true rfl)
  rw [lg_entry_eq]
  generalize (lg_sl ([.ref mo, .int 1]) ++ List.replicate (2 - (lg_sl ([.ref mo, .int 1])).length) Slot.unset).toArray = ls at hl ⊢
  have hl : lv_has ls 2 [(0, .ref mo), (1, .int 1)] := hl
  refine lv_aload_n hx hb dX6_about_0 rfl (lv_at hl 0 rfl) ?_
  refine lv_iload_n hx hb dX6_about_1 rfl (lv_at hl 1 rfl) ?_
  refine lv_if_lt (tgt := 10) hx hb dX6_about_2 (by decide) (fun c_1 => absurd c_1 (by decide)) (fun c_1 => ?_)
  refine lv_iload_n hx hb dX6_about_5 rfl (lv_at hl 1 rfl) ?_
  refine lv_iconst (v := 4) hx hb dX6_about_6 (by decide) ?_
  refine lv_icmp_le (tgt := 14) hx hb dX6_about_7 (by decide) (fun c_2 => ?_) (fun c_2 => absurd c_2 (by decide))
  refine lv_iconst (v := 0) hx hb dX6_about_14 (by decide) ?_
  refine jw_i (wr := [(q6, .inl (cI, 2, .inl (jl [nI n, nI n2])))]) (va_runV (As := [.int 0]) (rest := []) ⟨hx, hb, hml, hown, hts⟩ (gM_refuses_0 l D cI cL cQ mo g q1 q3 q4 q5 q6 q11 z0 pr gr kd mk w10 w13 w14 _) (cwV 1 hts gX6_about_X6_refuses rfl rfl rfl (by decide +kernel) ⟨Nat.le_of_ble_eq_true rfl, Nat.le_of_ble_eq_true rfl⟩) (jw_V hK hN hP hD [0] (by decide) rfl 6 0 rfl rfl rfl) rfl rfl hl.1 rfl (lv_room (Nat.le_of_ble_eq_true rfl)) dX6_about_15 ⟨Nat.le_of_ble_eq_true rfl, Nat.le_of_ble_eq_true rfl⟩) hP hD hS hA [0] [1] rfl rfl (by decide) (by decide) (fun r u H locs f_3 hP hD hS => ?_)
  obtain ⟨rfl, rfl⟩ := f_3
  have hP : va_P D vwCl [(q6, .inl (cI, 2, .inl (jl [nI n, nI n2]))), (mo, .inr (6, [.int 0, .ref q1, .int (nI g), .ref q3, .ref q4, .ref q5, .ref q6, .int pr, .int gr, .int kd, .long w10, .ref q11, .int mk, .long w13, .long w14]))] H := hP
  have hD : va_D A [(q6, .inl (cI, 2, .inl (jl [nI n, nI n2]))), (mo, .inr (6, [.int 0, .ref q1, .int (nI g), .ref q3, .ref q4, .ref q5, .ref q6, .int pr, .int gr, .int kd, .long w10, .ref q11, .int mk, .long w13, .long w14]))] := hD
  refine lv_if_eq (tgt := 23) hx hb dX6_about_18 (by decide) (fun c_4 => ?_) (fun c_4 => absurd c_4 (by decide))
  refine lv_iload_n hx hb dX6_about_23 rfl (lv_at hl 1 rfl) ?_
  refine lv_if_ne (tgt := 34) hx hb dX6_about_24 (by decide) (fun c_5 => ?_) (fun c_5 => absurd c_5 (by decide))
  refine lv_iload_n hx hb dX6_about_34 rfl (lv_at hl 1 rfl) ?_
  refine lv_iconst (v := 3) hx hb dX6_about_35 (by decide) ?_
  refine lv_icmp_ge (tgt := 51) hx hb dX6_about_36 (by decide) (fun c_6 => absurd c_6 (by decide)) (fun c_6 => ?_)
  refine lv_aload_n hx hb dX6_about_39 rfl (lv_at hl 0 rfl) ?_
  refine va_get (D := D) (ci := 6) (v := .ref q6) (C := RX6) (T := TX6) (N := 15) hx hb hts (by decide +kernel) hown hK hP 1 rfl rfl 6 (by decide) (hts (.fieldLink RX6 22 "JoinDeskModel" "many" "[I") (by decide +kernel)) (fun _ h9 => h9) rfl dX6_about_40 ?_
  refine lv_iload_n hx hb dX6_about_43 rfl (lv_at hl 1 rfl) ?_
  refine lv_iconst (v := 1) hx hb dX6_about_44 (by decide) ?_
  refine lv_isub hx hb dX6_about_45 ?_
  refine lv_topi (fun z_7 e_z_7 => ?_)
  obtain rfl : z_7 = 0 := e_z_7.trans (by decide)
  refine va_iald hx hb hK hP 0 0 rfl rfl (by unfold vp_in; decide) dX6_about_46 ?_
  refine W.eq (g2 := F0 m 47 ls [.int (nI n)]) rfl ?_
  refine lv_i2l (v := (nI n).toInt64) hx hb dX6_about_47 (by first | rfl | decide) ?_
  refine lv_goto (tgt := 76) hx hb dX6_about_48 (by decide) ?_
  have hP := hP.sub (ws' := [(mo, .inr (6, [.int 0, .ref q1, .int (nI g), .ref q3, .ref q4, .ref q5, .ref q6, .int pr, .int gr, .int kd, .long w10, .ref q11, .int mk, .long w13, .long w14])), (q6, .inl (cI, 2, .inl (jl [nI n, nI n2])))]) [1, 0] rfl
  have hD := hD.sub (ws' := [(mo, .inr (6, [.int 0, .ref q1, .int (nI g), .ref q3, .ref q4, .ref q5, .ref q6, .int pr, .int gr, .int kd, .long w10, .ref q11, .int mk, .long w13, .long w14])), (q6, .inl (cI, 2, .inl (jl [nI n, nI n2])))]) [1, 0] (by decide) rfl
  refine W.widen (k := 0) (n := 0) (by omega) (by omega) ?_
  exact W.lret (v := (nI n).toInt64) hx hb hr (fun t ht hW => ⟨⟨((nI n).toInt64), [(mo, .inr (6, [.int 0, .ref q1, .int (nI g), .ref q3, .ref q4, .ref q5, .ref q6, .int pr, .int gr, .int kd, .long w10, .ref q11, .int mk, .long w13, .long w14])), (q6, .inl (cI, 2, .inl (jl [nI n, nI n2])))], rfl, (by exact ⟨rfl, rfl⟩), by rw [ht]; exact hP, hD⟩, hS.F ht⟩) hS.2.2 dX6_about_76
set_option maxHeartbeats 1000000 in
set_option maxRecDepth 100000 in
theorem gM_about_2 (l : Launch) (D : va_G) (cI cL cQ : ClassId) (mo : Nat) (g : Nat) (n : Nat) (n2 : Nat) (q1 : Nat) (q3 : Nat) (q4 : Nat) (q5 : Nat) (q6 : Nat) (q11 : Nat) (z0 : Int32) (pr : Int32) (gr : Int32) (kd : Int32) (mk : Int32) (w10 : Int64) (w13 : Int64) (w14 : Int64) (sz : Nat) : Met l yX6_about wsX6_about ({ frames := 1, cells := 0, slots := 0, locals := 21 }) (jw_P D vwCl (jT cI cL cQ) cL cQ [.ref mo, .int 2] [(mo, .inr (6, [.int z0, .ref q1, .int (nI g), .ref q3, .ref q4, .ref q5, .ref q6, .int pr, .int gr, .int kd, .long w10, .ref q11, .int mk, .long w13, .long w14])), (q6, .inl (cI, 2, .inl (jl [nI n, nI n2])))] sz) (va_Ql (fun (r : Int64) (u : va_W) => r = (nI n2).toInt64 ∧ u = [(mo, .inr (6, [.int 0, .ref q1, .int (nI g), .ref q3, .ref q4, .ref q5, .ref q6, .int pr, .int gr, .int kd, .long w10, .ref q11, .int mk, .long w13, .long w14])), (q6, .inl (cI, 2, .inl (jl [nI n, nI n2])))]) (jw_B D vwCl (va_A [(mo, .inr (6, [.int z0, .ref q1, .int (nI g), .ref q3, .ref q4, .ref q5, .ref q6, .int pr, .int gr, .int kd, .long w10, .ref q11, .int mk, .long w13, .long w14])), (q6, .inl (cI, 2, .inl (jl [nI n, nI n2])))] sz) (fun u : va_W => u)) (va_A [(mo, .inr (6, [.int z0, .ref q1, .int (nI g), .ref q3, .ref q4, .ref q5, .ref q6, .int pr, .int gr, .int kd, .long w10, .ref q11, .int mk, .long w13, .long w14])), (q6, .inl (cI, 2, .inl (jl [nI n, nI n2])))] sz)) 0 0 (va_A [(mo, .inr (6, [.int z0, .ref q1, .int (nI g), .ref q3, .ref q4, .ref q5, .ref q6, .int pr, .int gr, .int kd, .long w10, .ref q11, .int mk, .long w13, .long w14])), (q6, .inl (cI, 2, .inl (jl [nI n, nI n2])))] sz) := by
  refine Met.ofW (cc := cX6_about) (maxL := 2) (ret := (some .long)) (by decide) rfl ?_
  intro p e s m args below meth c s₁ B hml hv
  obtain ⟨rfl, hsz, hP, hK, hN, hD0⟩ := hv
  have hx := B.exec
  have hb := B.bytes
  have hr := B.returns
  have hts := atoms_spec (ws := wsX6_about) B.pre
  have hown : s.vm.findClass RX6 = some m.cls := findClass_of_methodNamed B.named
  have hlocks := B.notSynchronized
  subst hsz
  have hD := hD0.self (sz := s.heap.size)
  generalize hAe : va_A [(mo, .inr (6, [.int z0, .ref q1, .int (nI g), .ref q3, .ref q4, .ref q5, .ref q6, .int pr, .int gr, .int kd, .long w10, .ref q11, .int mk, .long w13, .long w14])), (q6, .inl (cI, 2, .inl (jl [nI n, nI n2])))] s.heap.size = A at hD ⊢
  have hA : ∀ q : Nat, s.heap.size ≤ q → A q := fun q h => by rw [← hAe]; exact Or.inr h
  have hS : va_S A s.heap s.heap [] := va_S.rf
  have hl := lv_entry ([.ref mo, .int 2]) (n := 2) (Nat.le_of_ble_eq_true rfl)
  rw [lg_entry_eq]
  generalize (lg_sl ([.ref mo, .int 2]) ++ List.replicate (2 - (lg_sl ([.ref mo, .int 2])).length) Slot.unset).toArray = ls at hl ⊢
  have hl : lv_has ls 2 [(0, .ref mo), (1, .int 2)] := hl
  refine lv_aload_n hx hb dX6_about_0 rfl (lv_at hl 0 rfl) ?_
  refine lv_iload_n hx hb dX6_about_1 rfl (lv_at hl 1 rfl) ?_
  refine lv_if_lt (tgt := 10) hx hb dX6_about_2 (by decide) (fun c_1 => absurd c_1 (by decide)) (fun c_1 => ?_)
  refine lv_iload_n hx hb dX6_about_5 rfl (lv_at hl 1 rfl) ?_
  refine lv_iconst (v := 4) hx hb dX6_about_6 (by decide) ?_
  refine lv_icmp_le (tgt := 14) hx hb dX6_about_7 (by decide) (fun c_2 => ?_) (fun c_2 => absurd c_2 (by decide))
  refine lv_iconst (v := 0) hx hb dX6_about_14 (by decide) ?_
  refine jw_i (wr := [(q6, .inl (cI, 2, .inl (jl [nI n, nI n2])))]) (va_runV (As := [.int 0]) (rest := []) ⟨hx, hb, hml, hown, hts⟩ (gM_refuses_0 l D cI cL cQ mo g q1 q3 q4 q5 q6 q11 z0 pr gr kd mk w10 w13 w14 _) (cwV 1 hts gX6_about_X6_refuses rfl rfl rfl (by decide +kernel) ⟨Nat.le_of_ble_eq_true rfl, Nat.le_of_ble_eq_true rfl⟩) (jw_V hK hN hP hD [0] (by decide) rfl 6 0 rfl rfl rfl) rfl rfl hl.1 rfl (lv_room (Nat.le_of_ble_eq_true rfl)) dX6_about_15 ⟨Nat.le_of_ble_eq_true rfl, Nat.le_of_ble_eq_true rfl⟩) hP hD hS hA [0] [1] rfl rfl (by decide) (by decide) (fun r u H locs f_3 hP hD hS => ?_)
  obtain ⟨rfl, rfl⟩ := f_3
  have hP : va_P D vwCl [(q6, .inl (cI, 2, .inl (jl [nI n, nI n2]))), (mo, .inr (6, [.int 0, .ref q1, .int (nI g), .ref q3, .ref q4, .ref q5, .ref q6, .int pr, .int gr, .int kd, .long w10, .ref q11, .int mk, .long w13, .long w14]))] H := hP
  have hD : va_D A [(q6, .inl (cI, 2, .inl (jl [nI n, nI n2]))), (mo, .inr (6, [.int 0, .ref q1, .int (nI g), .ref q3, .ref q4, .ref q5, .ref q6, .int pr, .int gr, .int kd, .long w10, .ref q11, .int mk, .long w13, .long w14]))] := hD
  refine lv_if_eq (tgt := 23) hx hb dX6_about_18 (by decide) (fun c_4 => ?_) (fun c_4 => absurd c_4 (by decide))
  refine lv_iload_n hx hb dX6_about_23 rfl (lv_at hl 1 rfl) ?_
  refine lv_if_ne (tgt := 34) hx hb dX6_about_24 (by decide) (fun c_5 => ?_) (fun c_5 => absurd c_5 (by decide))
  refine lv_iload_n hx hb dX6_about_34 rfl (lv_at hl 1 rfl) ?_
  refine lv_iconst (v := 3) hx hb dX6_about_35 (by decide) ?_
  refine lv_icmp_ge (tgt := 51) hx hb dX6_about_36 (by decide) (fun c_6 => absurd c_6 (by decide)) (fun c_6 => ?_)
  refine lv_aload_n hx hb dX6_about_39 rfl (lv_at hl 0 rfl) ?_
  refine va_get (D := D) (ci := 6) (v := .ref q6) (C := RX6) (T := TX6) (N := 15) hx hb hts (by decide +kernel) hown hK hP 1 rfl rfl 6 (by decide) (hts (.fieldLink RX6 22 "JoinDeskModel" "many" "[I") (by decide +kernel)) (fun _ h9 => h9) rfl dX6_about_40 ?_
  refine lv_iload_n hx hb dX6_about_43 rfl (lv_at hl 1 rfl) ?_
  refine lv_iconst (v := 1) hx hb dX6_about_44 (by decide) ?_
  refine lv_isub hx hb dX6_about_45 ?_
  refine lv_topi (fun z_7 e_z_7 => ?_)
  obtain rfl : z_7 = 1 := e_z_7.trans (by decide)
  refine va_iald hx hb hK hP 0 0 rfl rfl (by unfold vp_in; decide) dX6_about_46 ?_
  refine W.eq (g2 := F0 m 47 ls [.int (nI n2)]) rfl ?_
  refine lv_i2l (v := (nI n2).toInt64) hx hb dX6_about_47 (by first | rfl | decide) ?_
  refine lv_goto (tgt := 76) hx hb dX6_about_48 (by decide) ?_
  have hP := hP.sub (ws' := [(mo, .inr (6, [.int 0, .ref q1, .int (nI g), .ref q3, .ref q4, .ref q5, .ref q6, .int pr, .int gr, .int kd, .long w10, .ref q11, .int mk, .long w13, .long w14])), (q6, .inl (cI, 2, .inl (jl [nI n, nI n2])))]) [1, 0] rfl
  have hD := hD.sub (ws' := [(mo, .inr (6, [.int 0, .ref q1, .int (nI g), .ref q3, .ref q4, .ref q5, .ref q6, .int pr, .int gr, .int kd, .long w10, .ref q11, .int mk, .long w13, .long w14])), (q6, .inl (cI, 2, .inl (jl [nI n, nI n2])))]) [1, 0] (by decide) rfl
  refine W.widen (k := 0) (n := 0) (by omega) (by omega) ?_
  exact W.lret (v := (nI n2).toInt64) hx hb hr (fun t ht hW => ⟨⟨((nI n2).toInt64), [(mo, .inr (6, [.int 0, .ref q1, .int (nI g), .ref q3, .ref q4, .ref q5, .ref q6, .int pr, .int gr, .int kd, .long w10, .ref q11, .int mk, .long w13, .long w14])), (q6, .inl (cI, 2, .inl (jl [nI n, nI n2])))], rfl, (by exact ⟨rfl, rfl⟩), by rw [ht]; exact hP, hD⟩, hS.F ht⟩) hS.2.2 dX6_about_76
set_option maxHeartbeats 1000000 in
set_option maxRecDepth 100000 in
theorem gM_about_4 (l : Launch) (D : va_G) (cI cL cQ : ClassId) (mo : Nat) (g : Nat) (n : Nat) (n2 : Nat) (q1 : Nat) (q3 : Nat) (q4 : Nat) (q5 : Nat) (q6 : Nat) (q11 : Nat) (z0 : Int32) (pr : Int32) (gr : Int32) (kd : Int32) (mk : Int32) (w10 : Int64) (w13 : Int64) (w14 : Int64) (sz : Nat) : Met l yX6_about wsX6_about ({ frames := 1, cells := 0, slots := 0, locals := 21 }) (jw_P D vwCl (jT cI cL cQ) cL cQ [.ref mo, .int 4] [(mo, .inr (6, [.int z0, .ref q1, .int (nI g), .ref q3, .ref q4, .ref q5, .ref q6, .int pr, .int gr, .int kd, .long w10, .ref q11, .int mk, .long w13, .long w14])), (q6, .inl (cI, 2, .inl (jl [nI n, nI n2])))] sz) (va_Ql (fun (r : Int64) (u : va_W) => r = kd.toInt64 ∧ u = [(mo, .inr (6, [.int 0, .ref q1, .int (nI g), .ref q3, .ref q4, .ref q5, .ref q6, .int pr, .int gr, .int kd, .long w10, .ref q11, .int mk, .long w13, .long w14])), (q6, .inl (cI, 2, .inl (jl [nI n, nI n2])))]) (jw_B D vwCl (va_A [(mo, .inr (6, [.int z0, .ref q1, .int (nI g), .ref q3, .ref q4, .ref q5, .ref q6, .int pr, .int gr, .int kd, .long w10, .ref q11, .int mk, .long w13, .long w14])), (q6, .inl (cI, 2, .inl (jl [nI n, nI n2])))] sz) (fun u : va_W => u)) (va_A [(mo, .inr (6, [.int z0, .ref q1, .int (nI g), .ref q3, .ref q4, .ref q5, .ref q6, .int pr, .int gr, .int kd, .long w10, .ref q11, .int mk, .long w13, .long w14])), (q6, .inl (cI, 2, .inl (jl [nI n, nI n2])))] sz)) 0 0 (va_A [(mo, .inr (6, [.int z0, .ref q1, .int (nI g), .ref q3, .ref q4, .ref q5, .ref q6, .int pr, .int gr, .int kd, .long w10, .ref q11, .int mk, .long w13, .long w14])), (q6, .inl (cI, 2, .inl (jl [nI n, nI n2])))] sz) := by
  refine Met.ofW (cc := cX6_about) (maxL := 2) (ret := (some .long)) (by decide) rfl ?_
  intro p e s m args below meth c s₁ B hml hv
  obtain ⟨rfl, hsz, hP, hK, hN, hD0⟩ := hv
  have hx := B.exec
  have hb := B.bytes
  have hr := B.returns
  have hts := atoms_spec (ws := wsX6_about) B.pre
  have hown : s.vm.findClass RX6 = some m.cls := findClass_of_methodNamed B.named
  have hlocks := B.notSynchronized
  subst hsz
  have hD := hD0.self (sz := s.heap.size)
  generalize hAe : va_A [(mo, .inr (6, [.int z0, .ref q1, .int (nI g), .ref q3, .ref q4, .ref q5, .ref q6, .int pr, .int gr, .int kd, .long w10, .ref q11, .int mk, .long w13, .long w14])), (q6, .inl (cI, 2, .inl (jl [nI n, nI n2])))] s.heap.size = A at hD ⊢
  have hA : ∀ q : Nat, s.heap.size ≤ q → A q := fun q h => by rw [← hAe]; exact Or.inr h
  have hS : va_S A s.heap s.heap [] := va_S.rf
  have hl := lv_entry ([.ref mo, .int 4]) (n := 2) (Nat.le_of_ble_eq_true rfl)
  rw [lg_entry_eq]
  generalize (lg_sl ([.ref mo, .int 4]) ++ List.replicate (2 - (lg_sl ([.ref mo, .int 4])).length) Slot.unset).toArray = ls at hl ⊢
  have hl : lv_has ls 2 [(0, .ref mo), (1, .int 4)] := hl
  refine lv_aload_n hx hb dX6_about_0 rfl (lv_at hl 0 rfl) ?_
  refine lv_iload_n hx hb dX6_about_1 rfl (lv_at hl 1 rfl) ?_
  refine lv_if_lt (tgt := 10) hx hb dX6_about_2 (by decide) (fun c_1 => absurd c_1 (by decide)) (fun c_1 => ?_)
  refine lv_iload_n hx hb dX6_about_5 rfl (lv_at hl 1 rfl) ?_
  refine lv_iconst (v := 4) hx hb dX6_about_6 (by decide) ?_
  refine lv_icmp_le (tgt := 14) hx hb dX6_about_7 (by decide) (fun c_2 => ?_) (fun c_2 => absurd c_2 (by decide))
  refine lv_iconst (v := 0) hx hb dX6_about_14 (by decide) ?_
  refine jw_i (wr := [(q6, .inl (cI, 2, .inl (jl [nI n, nI n2])))]) (va_runV (As := [.int 0]) (rest := []) ⟨hx, hb, hml, hown, hts⟩ (gM_refuses_0 l D cI cL cQ mo g q1 q3 q4 q5 q6 q11 z0 pr gr kd mk w10 w13 w14 _) (cwV 1 hts gX6_about_X6_refuses rfl rfl rfl (by decide +kernel) ⟨Nat.le_of_ble_eq_true rfl, Nat.le_of_ble_eq_true rfl⟩) (jw_V hK hN hP hD [0] (by decide) rfl 6 0 rfl rfl rfl) rfl rfl hl.1 rfl (lv_room (Nat.le_of_ble_eq_true rfl)) dX6_about_15 ⟨Nat.le_of_ble_eq_true rfl, Nat.le_of_ble_eq_true rfl⟩) hP hD hS hA [0] [1] rfl rfl (by decide) (by decide) (fun r u H locs f_3 hP hD hS => ?_)
  obtain ⟨rfl, rfl⟩ := f_3
  have hP : va_P D vwCl [(q6, .inl (cI, 2, .inl (jl [nI n, nI n2]))), (mo, .inr (6, [.int 0, .ref q1, .int (nI g), .ref q3, .ref q4, .ref q5, .ref q6, .int pr, .int gr, .int kd, .long w10, .ref q11, .int mk, .long w13, .long w14]))] H := hP
  have hD : va_D A [(q6, .inl (cI, 2, .inl (jl [nI n, nI n2]))), (mo, .inr (6, [.int 0, .ref q1, .int (nI g), .ref q3, .ref q4, .ref q5, .ref q6, .int pr, .int gr, .int kd, .long w10, .ref q11, .int mk, .long w13, .long w14]))] := hD
  refine lv_if_eq (tgt := 23) hx hb dX6_about_18 (by decide) (fun c_4 => ?_) (fun c_4 => absurd c_4 (by decide))
  refine lv_iload_n hx hb dX6_about_23 rfl (lv_at hl 1 rfl) ?_
  refine lv_if_ne (tgt := 34) hx hb dX6_about_24 (by decide) (fun c_5 => ?_) (fun c_5 => absurd c_5 (by decide))
  refine lv_iload_n hx hb dX6_about_34 rfl (lv_at hl 1 rfl) ?_
  refine lv_iconst (v := 3) hx hb dX6_about_35 (by decide) ?_
  refine lv_icmp_ge (tgt := 51) hx hb dX6_about_36 (by decide) (fun c_6 => ?_) (fun c_6 => absurd c_6 (by decide))
  refine lv_iload_n hx hb dX6_about_51 rfl (lv_at hl 1 rfl) ?_
  refine lv_iconst (v := 3) hx hb dX6_about_52 (by decide) ?_
  refine lv_icmp_ne (tgt := 71) hx hb dX6_about_53 (by decide) (fun c_7 => ?_) (fun c_7 => absurd c_7 (by decide))
  refine lv_aload_n hx hb dX6_about_71 rfl (lv_at hl 0 rfl) ?_
  refine va_get (D := D) (ci := 6) (v := .int kd) (C := RX6) (T := TX6) (N := 15) hx hb hts (by decide +kernel) hown hK hP 1 rfl rfl 9 (by decide) (hts (.fieldLink RX6 60 "JoinDeskModel" "kind" "I") (by decide +kernel)) (fun _ h9 => h9) rfl dX6_about_72 ?_
  refine lv_i2l (v := kd.toInt64) hx hb dX6_about_75 (by first | rfl | decide) ?_
  have hP := hP.sub (ws' := [(mo, .inr (6, [.int 0, .ref q1, .int (nI g), .ref q3, .ref q4, .ref q5, .ref q6, .int pr, .int gr, .int kd, .long w10, .ref q11, .int mk, .long w13, .long w14])), (q6, .inl (cI, 2, .inl (jl [nI n, nI n2])))]) [1, 0] rfl
  have hD := hD.sub (ws' := [(mo, .inr (6, [.int 0, .ref q1, .int (nI g), .ref q3, .ref q4, .ref q5, .ref q6, .int pr, .int gr, .int kd, .long w10, .ref q11, .int mk, .long w13, .long w14])), (q6, .inl (cI, 2, .inl (jl [nI n, nI n2])))]) [1, 0] (by decide) rfl
  refine W.widen (k := 0) (n := 0) (by omega) (by omega) ?_
  exact W.lret (v := kd.toInt64) hx hb hr (fun t ht hW => ⟨⟨kd.toInt64, [(mo, .inr (6, [.int 0, .ref q1, .int (nI g), .ref q3, .ref q4, .ref q5, .ref q6, .int pr, .int gr, .int kd, .long w10, .ref q11, .int mk, .long w13, .long w14])), (q6, .inl (cI, 2, .inl (jl [nI n, nI n2])))], rfl, (by exact ⟨rfl, rfl⟩), by rw [ht]; exact hP, hD⟩, hS.F ht⟩) hS.2.2 dX6_about_76
set_option maxHeartbeats 1000000 in
set_option maxRecDepth 100000 in
theorem gM_about_30 (l : Launch) (D : va_G) (cI cL cQ : ClassId) (mo : Nat) (g : Nat) (q1 : Nat) (q3 : Nat) (q4 : Nat) (q5 : Nat) (q6 : Nat) (q11 : Nat) (z0 : Int32) (gr : Int32) (kd : Int32) (mk : Int32) (w10 : Int64) (w13 : Int64) (w14 : Int64) (sz : Nat) : Met l yX6_about wsX6_about ({ frames := 1, cells := 0, slots := 0, locals := 21 }) (jw_P D vwCl (jT cI cL cQ) cL cQ [.ref mo, .int 3] [(mo, .inr (6, [.int z0, .ref q1, .int (nI g), .ref q3, .ref q4, .ref q5, .ref q6, .int 0, .int gr, .int kd, .long w10, .ref q11, .int mk, .long w13, .long w14]))] sz) (va_Ql (fun (r : Int64) (u : va_W) => r = 0 ∧ u = [(mo, .inr (6, [.int 0, .ref q1, .int (nI g), .ref q3, .ref q4, .ref q5, .ref q6, .int 0, .int gr, .int kd, .long w10, .ref q11, .int mk, .long w13, .long w14]))]) (jw_B D vwCl (va_A [(mo, .inr (6, [.int z0, .ref q1, .int (nI g), .ref q3, .ref q4, .ref q5, .ref q6, .int 0, .int gr, .int kd, .long w10, .ref q11, .int mk, .long w13, .long w14]))] sz) (fun u : va_W => u)) (va_A [(mo, .inr (6, [.int z0, .ref q1, .int (nI g), .ref q3, .ref q4, .ref q5, .ref q6, .int 0, .int gr, .int kd, .long w10, .ref q11, .int mk, .long w13, .long w14]))] sz)) 0 0 (va_A [(mo, .inr (6, [.int z0, .ref q1, .int (nI g), .ref q3, .ref q4, .ref q5, .ref q6, .int 0, .int gr, .int kd, .long w10, .ref q11, .int mk, .long w13, .long w14]))] sz) := by
  refine Met.ofW (cc := cX6_about) (maxL := 2) (ret := (some .long)) (by decide) rfl ?_
  intro p e s m args below meth c s₁ B hml hv
  obtain ⟨rfl, hsz, hP, hK, hN, hD0⟩ := hv
  have hx := B.exec
  have hb := B.bytes
  have hr := B.returns
  have hts := atoms_spec (ws := wsX6_about) B.pre
  have hown : s.vm.findClass RX6 = some m.cls := findClass_of_methodNamed B.named
  have hlocks := B.notSynchronized
  subst hsz
  have hD := hD0.self (sz := s.heap.size)
  generalize hAe : va_A [(mo, .inr (6, [.int z0, .ref q1, .int (nI g), .ref q3, .ref q4, .ref q5, .ref q6, .int 0, .int gr, .int kd, .long w10, .ref q11, .int mk, .long w13, .long w14]))] s.heap.size = A at hD ⊢
  have hA : ∀ q : Nat, s.heap.size ≤ q → A q := fun q h => by rw [← hAe]; exact Or.inr h
  have hS : va_S A s.heap s.heap [] := va_S.rf
  have hl := lv_entry ([.ref mo, .int 3]) (n := 2) (Nat.le_of_ble_eq_true rfl)
  rw [lg_entry_eq]
  generalize (lg_sl ([.ref mo, .int 3]) ++ List.replicate (2 - (lg_sl ([.ref mo, .int 3])).length) Slot.unset).toArray = ls at hl ⊢
  have hl : lv_has ls 2 [(0, .ref mo), (1, .int 3)] := hl
  refine lv_aload_n hx hb dX6_about_0 rfl (lv_at hl 0 rfl) ?_
  refine lv_iload_n hx hb dX6_about_1 rfl (lv_at hl 1 rfl) ?_
  refine lv_if_lt (tgt := 10) hx hb dX6_about_2 (by decide) (fun c_1 => absurd c_1 (by decide)) (fun c_1 => ?_)
  refine lv_iload_n hx hb dX6_about_5 rfl (lv_at hl 1 rfl) ?_
  refine lv_iconst (v := 4) hx hb dX6_about_6 (by decide) ?_
  refine lv_icmp_le (tgt := 14) hx hb dX6_about_7 (by decide) (fun c_2 => ?_) (fun c_2 => absurd c_2 (by decide))
  refine lv_iconst (v := 0) hx hb dX6_about_14 (by decide) ?_
  refine jw_i (wr := []) (va_runV (As := [.int 0]) (rest := []) ⟨hx, hb, hml, hown, hts⟩ (gM_refuses_0 l D cI cL cQ mo g q1 q3 q4 q5 q6 q11 z0 0 gr kd mk w10 w13 w14 _) (cwV 1 hts gX6_about_X6_refuses rfl rfl rfl (by decide +kernel) ⟨Nat.le_of_ble_eq_true rfl, Nat.le_of_ble_eq_true rfl⟩) (jw_V hK hN hP hD [0] (by decide) rfl 6 0 rfl rfl rfl) rfl rfl hl.1 rfl (lv_room (Nat.le_of_ble_eq_true rfl)) dX6_about_15 ⟨Nat.le_of_ble_eq_true rfl, Nat.le_of_ble_eq_true rfl⟩) hP hD hS hA [0] [] rfl rfl (by decide) (by decide) (fun r u H locs f_3 hP hD hS => ?_)
  obtain ⟨rfl, rfl⟩ := f_3
  have hP : va_P D vwCl [(mo, .inr (6, [.int 0, .ref q1, .int (nI g), .ref q3, .ref q4, .ref q5, .ref q6, .int 0, .int gr, .int kd, .long w10, .ref q11, .int mk, .long w13, .long w14]))] H := hP
  have hD : va_D A [(mo, .inr (6, [.int 0, .ref q1, .int (nI g), .ref q3, .ref q4, .ref q5, .ref q6, .int 0, .int gr, .int kd, .long w10, .ref q11, .int mk, .long w13, .long w14]))] := hD
  refine lv_if_eq (tgt := 23) hx hb dX6_about_18 (by decide) (fun c_4 => ?_) (fun c_4 => absurd c_4 (by decide))
  refine lv_iload_n hx hb dX6_about_23 rfl (lv_at hl 1 rfl) ?_
  refine lv_if_ne (tgt := 34) hx hb dX6_about_24 (by decide) (fun c_5 => ?_) (fun c_5 => absurd c_5 (by decide))
  refine lv_iload_n hx hb dX6_about_34 rfl (lv_at hl 1 rfl) ?_
  refine lv_iconst (v := 3) hx hb dX6_about_35 (by decide) ?_
  refine lv_icmp_ge (tgt := 51) hx hb dX6_about_36 (by decide) (fun c_6 => ?_) (fun c_6 => absurd c_6 (by decide))
  refine lv_iload_n hx hb dX6_about_51 rfl (lv_at hl 1 rfl) ?_
  refine lv_iconst (v := 3) hx hb dX6_about_52 (by decide) ?_
  refine lv_icmp_ne (tgt := 71) hx hb dX6_about_53 (by decide) (fun c_7 => absurd c_7 (by decide)) (fun c_7 => ?_)
  refine lv_aload_n hx hb dX6_about_56 rfl (lv_at hl 0 rfl) ?_
  refine va_get (D := D) (ci := 6) (v := .int 0) (C := RX6) (T := TX6) (N := 15) hx hb hts (by decide +kernel) hown hK hP 0 rfl rfl 7 (by decide) (hts (.fieldLink RX6 43 "JoinDeskModel" "prepared" "Z") (by decide +kernel)) (fun _ h9 => h9) rfl dX6_about_57 ?_
  refine lv_if_eq (tgt := 67) hx hb dX6_about_60 (by decide) (fun c_8 => ?_) (fun c_8 => absurd c_8 (by decide))
  refine lv_lconst (v := 0) hx hb dX6_about_67 (by decide) ?_
  refine lv_goto (tgt := 76) hx hb dX6_about_68 (by decide) ?_
  refine W.widen (k := 0) (n := 0) (by omega) (by omega) ?_
  exact W.lret (v := 0) hx hb hr (fun t ht hW => ⟨⟨0, [(mo, .inr (6, [.int 0, .ref q1, .int (nI g), .ref q3, .ref q4, .ref q5, .ref q6, .int 0, .int gr, .int kd, .long w10, .ref q11, .int mk, .long w13, .long w14]))], rfl, (by exact ⟨rfl, rfl⟩), by rw [ht]; exact hP, hD⟩, hS.F ht⟩) hS.2.2 dX6_about_76
set_option maxHeartbeats 1000000 in
set_option maxRecDepth 100000 in
theorem gM_about_31 (l : Launch) (D : va_G) (cI cL cQ : ClassId) (mo : Nat) (g : Nat) (q1 : Nat) (q3 : Nat) (q4 : Nat) (q5 : Nat) (q6 : Nat) (q11 : Nat) (z0 : Int32) (gr : Int32) (kd : Int32) (mk : Int32) (w10 : Int64) (w13 : Int64) (w14 : Int64) (sz : Nat) : Met l yX6_about wsX6_about ({ frames := 1, cells := 0, slots := 0, locals := 21 }) (jw_P D vwCl (jT cI cL cQ) cL cQ [.ref mo, .int 3] [(mo, .inr (6, [.int z0, .ref q1, .int (nI g), .ref q3, .ref q4, .ref q5, .ref q6, .int 1, .int gr, .int kd, .long w10, .ref q11, .int mk, .long w13, .long w14]))] sz) (va_Ql (fun (r : Int64) (u : va_W) => r = 1 ∧ u = [(mo, .inr (6, [.int 0, .ref q1, .int (nI g), .ref q3, .ref q4, .ref q5, .ref q6, .int 1, .int gr, .int kd, .long w10, .ref q11, .int mk, .long w13, .long w14]))]) (jw_B D vwCl (va_A [(mo, .inr (6, [.int z0, .ref q1, .int (nI g), .ref q3, .ref q4, .ref q5, .ref q6, .int 1, .int gr, .int kd, .long w10, .ref q11, .int mk, .long w13, .long w14]))] sz) (fun u : va_W => u)) (va_A [(mo, .inr (6, [.int z0, .ref q1, .int (nI g), .ref q3, .ref q4, .ref q5, .ref q6, .int 1, .int gr, .int kd, .long w10, .ref q11, .int mk, .long w13, .long w14]))] sz)) 0 0 (va_A [(mo, .inr (6, [.int z0, .ref q1, .int (nI g), .ref q3, .ref q4, .ref q5, .ref q6, .int 1, .int gr, .int kd, .long w10, .ref q11, .int mk, .long w13, .long w14]))] sz) := by
  refine Met.ofW (cc := cX6_about) (maxL := 2) (ret := (some .long)) (by decide) rfl ?_
  intro p e s m args below meth c s₁ B hml hv
  obtain ⟨rfl, hsz, hP, hK, hN, hD0⟩ := hv
  have hx := B.exec
  have hb := B.bytes
  have hr := B.returns
  have hts := atoms_spec (ws := wsX6_about) B.pre
  have hown : s.vm.findClass RX6 = some m.cls := findClass_of_methodNamed B.named
  have hlocks := B.notSynchronized
  subst hsz
  have hD := hD0.self (sz := s.heap.size)
  generalize hAe : va_A [(mo, .inr (6, [.int z0, .ref q1, .int (nI g), .ref q3, .ref q4, .ref q5, .ref q6, .int 1, .int gr, .int kd, .long w10, .ref q11, .int mk, .long w13, .long w14]))] s.heap.size = A at hD ⊢
  have hA : ∀ q : Nat, s.heap.size ≤ q → A q := fun q h => by rw [← hAe]; exact Or.inr h
  have hS : va_S A s.heap s.heap [] := va_S.rf
  have hl := lv_entry ([.ref mo, .int 3]) (n := 2) (Nat.le_of_ble_eq_true rfl)
  rw [lg_entry_eq]
  generalize (lg_sl ([.ref mo, .int 3]) ++ List.replicate (2 - (lg_sl ([.ref mo, .int 3])).length) Slot.unset).toArray = ls at hl ⊢
  have hl : lv_has ls 2 [(0, .ref mo), (1, .int 3)] := hl
  refine lv_aload_n hx hb dX6_about_0 rfl (lv_at hl 0 rfl) ?_
  refine lv_iload_n hx hb dX6_about_1 rfl (lv_at hl 1 rfl) ?_
  refine lv_if_lt (tgt := 10) hx hb dX6_about_2 (by decide) (fun c_1 => absurd c_1 (by decide)) (fun c_1 => ?_)
  refine lv_iload_n hx hb dX6_about_5 rfl (lv_at hl 1 rfl) ?_
  refine lv_iconst (v := 4) hx hb dX6_about_6 (by decide) ?_
  refine lv_icmp_le (tgt := 14) hx hb dX6_about_7 (by decide) (fun c_2 => ?_) (fun c_2 => absurd c_2 (by decide))
  refine lv_iconst (v := 0) hx hb dX6_about_14 (by decide) ?_
  refine jw_i (wr := []) (va_runV (As := [.int 0]) (rest := []) ⟨hx, hb, hml, hown, hts⟩ (gM_refuses_0 l D cI cL cQ mo g q1 q3 q4 q5 q6 q11 z0 1 gr kd mk w10 w13 w14 _) (cwV 1 hts gX6_about_X6_refuses rfl rfl rfl (by decide +kernel) ⟨Nat.le_of_ble_eq_true rfl, Nat.le_of_ble_eq_true rfl⟩) (jw_V hK hN hP hD [0] (by decide) rfl 6 0 rfl rfl rfl) rfl rfl hl.1 rfl (lv_room (Nat.le_of_ble_eq_true rfl)) dX6_about_15 ⟨Nat.le_of_ble_eq_true rfl, Nat.le_of_ble_eq_true rfl⟩) hP hD hS hA [0] [] rfl rfl (by decide) (by decide) (fun r u H locs f_3 hP hD hS => ?_)
  obtain ⟨rfl, rfl⟩ := f_3
  have hP : va_P D vwCl [(mo, .inr (6, [.int 0, .ref q1, .int (nI g), .ref q3, .ref q4, .ref q5, .ref q6, .int 1, .int gr, .int kd, .long w10, .ref q11, .int mk, .long w13, .long w14]))] H := hP
  have hD : va_D A [(mo, .inr (6, [.int 0, .ref q1, .int (nI g), .ref q3, .ref q4, .ref q5, .ref q6, .int 1, .int gr, .int kd, .long w10, .ref q11, .int mk, .long w13, .long w14]))] := hD
  refine lv_if_eq (tgt := 23) hx hb dX6_about_18 (by decide) (fun c_4 => ?_) (fun c_4 => absurd c_4 (by decide))
  refine lv_iload_n hx hb dX6_about_23 rfl (lv_at hl 1 rfl) ?_
  refine lv_if_ne (tgt := 34) hx hb dX6_about_24 (by decide) (fun c_5 => ?_) (fun c_5 => absurd c_5 (by decide))
  refine lv_iload_n hx hb dX6_about_34 rfl (lv_at hl 1 rfl) ?_
  refine lv_iconst (v := 3) hx hb dX6_about_35 (by decide) ?_
  refine lv_icmp_ge (tgt := 51) hx hb dX6_about_36 (by decide) (fun c_6 => ?_) (fun c_6 => absurd c_6 (by decide))
  refine lv_iload_n hx hb dX6_about_51 rfl (lv_at hl 1 rfl) ?_
  refine lv_iconst (v := 3) hx hb dX6_about_52 (by decide) ?_
  refine lv_icmp_ne (tgt := 71) hx hb dX6_about_53 (by decide) (fun c_7 => absurd c_7 (by decide)) (fun c_7 => ?_)
  refine lv_aload_n hx hb dX6_about_56 rfl (lv_at hl 0 rfl) ?_
  refine va_get (D := D) (ci := 6) (v := .int 1) (C := RX6) (T := TX6) (N := 15) hx hb hts (by decide +kernel) hown hK hP 0 rfl rfl 7 (by decide) (hts (.fieldLink RX6 43 "JoinDeskModel" "prepared" "Z") (by decide +kernel)) (fun _ h9 => h9) rfl dX6_about_57 ?_
  refine lv_if_eq (tgt := 67) hx hb dX6_about_60 (by decide) (fun c_8 => absurd c_8 (by decide)) (fun c_8 => ?_)
  refine lv_lconst (v := 1) hx hb dX6_about_63 (by decide) ?_
  refine lv_goto (tgt := 76) hx hb dX6_about_64 (by decide) ?_
  refine W.widen (k := 0) (n := 0) (by omega) (by omega) ?_
  exact W.lret (v := 1) hx hb hr (fun t ht hW => ⟨⟨1, [(mo, .inr (6, [.int 0, .ref q1, .int (nI g), .ref q3, .ref q4, .ref q5, .ref q6, .int 1, .int gr, .int kd, .long w10, .ref q11, .int mk, .long w13, .long w14]))], rfl, (by exact ⟨rfl, rfl⟩), by rw [ht]; exact hP, hD⟩, hS.F ht⟩) hS.2.2 dX6_about_76
set_option maxHeartbeats 1000000 in
set_option maxRecDepth 100000 in
theorem gM_rowsOf_0 (l : Launch) (D : va_G) (cI cL cQ : ClassId) (mo : Nat) (g : Nat) (n : Nat) (n2 : Nat) (q1 : Nat) (q3 : Nat) (q4 : Nat) (q5 : Nat) (q6 : Nat) (q11 : Nat) (z0 : Int32) (pr : Int32) (gr : Int32) (kd : Int32) (mk : Int32) (w10 : Int64) (w13 : Int64) (w14 : Int64) (m3 : Nat → Int32) (x : Int32) (hn : n ≤ 400) : Met l yX6_rowsOf wsX6_rowsOf ({ frames := 0, cells := 0, slots := 0, locals := 0 }) (jr_P D vwCl (jT cI cL cQ) cL cQ [.ref mo, .int 0, .int x] [(mo, .inr (6, [.int z0, .ref q1, .int (nI g), .ref q3, .ref q4, .ref q5, .ref q6, .int pr, .int gr, .int kd, .long w10, .ref q11, .int mk, .long w13, .long w14])), (q3, .inl (cI, 800, .inl m3)), (q6, .inl (cI, 2, .inl (jl [nI n, nI n2])))]) (vp_Si (fun r : Int32 => r = nI (jCt n (jsh 0 m3) x))) 0 0 (fun _ => False) := by
  refine Met.ofW (cc := cX6_rowsOf) (maxL := 5) (ret := (some .int)) (by decide) rfl ?_
  intro p e s m args below meth c s₁ B hml hv
  obtain ⟨rfl, hP, hK, hN⟩ := hv
  have hx := B.exec
  have hb := B.bytes
  have hr := B.returns
  have hts := atoms_spec (ws := wsX6_rowsOf) B.pre
  have hown : s.vm.findClass RX6 = some m.cls := findClass_of_methodNamed B.named
  have hlocks := B.notSynchronized
  have hl := lv_entry ([.ref mo, .int 0, .int x]) (n := 5) (Nat.le_of_ble_eq_true rfl)
  rw [lg_entry_eq]
  generalize (lg_sl ([.ref mo, .int 0, .int x]) ++ List.replicate (5 - (lg_sl ([.ref mo, .int 0, .int x])).length) Slot.unset).toArray = ls at hl ⊢
  have hl : lv_has ls 5 [(0, .ref mo), (1, .int 0), (2, .int x)] := hl
  refine lv_iconst (v := 0) hx hb dX6_rowsOf_0 (by decide) ?_
  refine lv_istore_n (lv' := [(3, .int 0), (0, .ref mo), (1, .int 0), (2, .int x)]) hx hb dX6_rowsOf_1 rfl hl (by decide) rfl (fun ls hl => ?_)
  refine lv_iconst (v := 0) hx hb dX6_rowsOf_2 (by decide) ?_
  refine lv_istore (lv' := [(4, .int 0), (3, .int 0), (0, .ref mo), (1, .int 0), (2, .int x)]) hx hb dX6_rowsOf_3 hl (by decide) rfl (fun ls hl => ?_)
  have hloop_1 : ∀ (k_1 : Nat) (i : Nat) (z : Nat), n - i < k_1 → (i ≤ n) → (z = jCt i (jsh 0 m3) x) → ∀ ls : Array Slot, lv_has ls 5 [(0, .ref mo), (1, .int 0), (2, .int x), (3, .int (nI z)), (4, .int (nI i))] → W p l e (headSpec wsX6_rowsOf ({ frames := 0, cells := 0, slots := 0, locals := 0 })).room s m #[.ref mo, .int 0, .int x] below meth c s.heap [] 0 0 (MQ below (vp_Si (fun r : Int32 => r = nI (jCt n (jsh 0 m3) x))) #[.ref mo, .int 0, .int x] s 0 0 (fun _ => False)) (F0 m 5 ls []) := by
    intro k_1
    induction k_1 with
    | zero => exact fun _ _ hm => absurd hm (Nat.not_lt_zero _)
    | succ k_1 ih_1 =>
      intro i z hm1 hi hz ls hl
      refine lv_iload hx hb dX6_rowsOf_5 (lv_at hl 4 rfl) ?_
      refine lv_aload_n hx hb dX6_rowsOf_7 rfl (lv_at hl 0 rfl) ?_
      refine va_get (D := D) (ci := 6) (v := .ref q6) (C := RX6) (T := TX6) (N := 15) hx hb hts (by decide +kernel) hown hK hP 0 rfl rfl 6 (by decide) (hts (.fieldLink RX6 22 "JoinDeskModel" "many" "[I") (by decide +kernel)) (fun _ h9 => h9) rfl dX6_rowsOf_8 ?_
      refine lv_iload_n hx hb dX6_rowsOf_11 rfl (lv_at hl 1 rfl) ?_
      refine va_iald hx hb hK hP 2 0 rfl rfl (by unfold vp_in; decide) dX6_rowsOf_12 ?_
      refine W.eq (g2 := F0 m 13 ls [.int (nI n), .int (nI i)]) rfl ?_
      refine lv_icmp_ge (tgt := 47) hx hb dX6_rowsOf_13 (by decide) (fun cge => ?_) (fun cge => ?_)
      · refine lv_iload_n hx hb dX6_rowsOf_47 rfl (lv_at hl 3 rfl) ?_
        exact W.iret (v := nI z) hx hb hr (fun t ht hW => ⟨(nI z), rfl, (by rw [nI_leI (by omega) (by omega)] at cge; rw [hz, show i = n by omega]), ht⟩) (fun _ h => nomatch h) dX6_rowsOf_48
      · refine lv_iload_n hx hb dX6_rowsOf_16 rfl (lv_at hl 3 rfl) ?_
        refine lv_aload_n hx hb dX6_rowsOf_17 rfl (lv_at hl 0 rfl) ?_
        refine va_get (D := D) (ci := 6) (v := .ref q3) (C := RX6) (T := TX6) (N := 15) hx hb hts (by decide +kernel) hown hK hP 0 rfl rfl 3 (by decide) (hts (.fieldLink RX6 13 "JoinDeskModel" "keys" "[I") (by decide +kernel)) (fun _ h9 => h9) rfl dX6_rowsOf_18 ?_
        refine lv_sipush (v := 400) hx hb dX6_rowsOf_21 (by decide) ?_
        refine lv_iload_n hx hb dX6_rowsOf_24 rfl (lv_at hl 1 rfl) ?_
        refine lv_imul hx hb dX6_rowsOf_25 ?_
        refine lv_topi (fun z_1 e_z_1 => ?_)
        obtain rfl : z_1 = 0 := e_z_1.trans (by decide)
        refine lv_iload hx hb dX6_rowsOf_26 (lv_at hl 4 rfl) ?_
        refine lv_iadd hx hb dX6_rowsOf_28 ?_
        refine lv_topi (fun z_2 e_z_2 => ?_)
        obtain rfl : z_2 = nI (0 + i) := e_z_2.trans (nI_add 0 i)
        refine va_iald hx hb hK hP 1 0 rfl rfl (vp_in_nI (show 0 + i < 800 by rw [nI_leI (by omega) (by omega)] at cge; omega) (by omega)) dX6_rowsOf_29 ?_
        refine lv_iload_n hx hb dX6_rowsOf_30 rfl (lv_at hl 2 rfl) ?_
        refine lv_icmp_ne (tgt := 38) hx hb dX6_rowsOf_31 (by decide) (fun ckk => ?_) (fun ckk => ?_)
        · refine lv_iconst (v := 0) hx hb dX6_rowsOf_38 (by decide) ?_
          refine lv_iadd hx hb dX6_rowsOf_39 ?_
          refine lv_topi (fun z_3 e_z_3 => ?_)
          obtain rfl : z_3 = nI (z + 0) := e_z_3.trans (nI_add z 0)
          refine lv_istore_n (lv' := [(3, .int (nI (z + 0))), (0, .ref mo), (1, .int 0), (2, .int x), (4, .int (nI i))]) hx hb dX6_rowsOf_40 rfl hl (by decide) rfl (fun ls hl => ?_)
          refine lv_iinc (v := nI (i + 1)) (lv' := [(4, .int (nI (i + 1))), (3, .int (nI (z + 0))), (0, .ref mo), (1, .int 0), (2, .int x)]) hx hb dX6_rowsOf_41 hl (k := 4) rfl (nI_1 _) (by decide) rfl (fun ls hl => ?_)
          refine lv_goto (tgt := 5) hx hb dX6_rowsOf_44 (by decide) ?_
          exact ih_1 (i + 1) (z + 0) (by rw [nI_leI (by omega) (by omega)] at cge; omega) (by rw [nI_leI (by omega) (by omega)] at cge; omega) (jct_0 (by omega) hz ckk) ls (lv_sub hl [2, 3, 4, 1, 0] rfl)
        · refine lv_iconst (v := 1) hx hb dX6_rowsOf_34 (by decide) ?_
          refine lv_goto (tgt := 39) hx hb dX6_rowsOf_35 (by decide) ?_
          refine lv_iadd hx hb dX6_rowsOf_39 ?_
          refine lv_topi (fun z_4 e_z_4 => ?_)
          obtain rfl : z_4 = nI (z + 1) := e_z_4.trans (nI_add z 1)
          refine lv_istore_n (lv' := [(3, .int (nI (z + 1))), (0, .ref mo), (1, .int 0), (2, .int x), (4, .int (nI i))]) hx hb dX6_rowsOf_40 rfl hl (by decide) rfl (fun ls hl => ?_)
          refine lv_iinc (v := nI (i + 1)) (lv' := [(4, .int (nI (i + 1))), (3, .int (nI (z + 1))), (0, .ref mo), (1, .int 0), (2, .int x)]) hx hb dX6_rowsOf_41 hl (k := 4) rfl (nI_1 _) (by decide) rfl (fun ls hl => ?_)
          refine lv_goto (tgt := 5) hx hb dX6_rowsOf_44 (by decide) ?_
          exact ih_1 (i + 1) (z + 1) (by rw [nI_leI (by omega) (by omega)] at cge; omega) (by rw [nI_leI (by omega) (by omega)] at cge; omega) (jct_1 (by omega) hz ckk) ls (lv_sub hl [2, 3, 4, 1, 0] rfl)
  exact hloop_1 (n - 0 + 1) 0 0 (Nat.lt_succ_self _) (Nat.zero_le _) (rfl) ls (lv_sub hl [2, 3, 4, 1, 0] rfl)
set_option maxHeartbeats 1000000 in
set_option maxRecDepth 100000 in
theorem gM_rowsOf_1 (l : Launch) (D : va_G) (cI cL cQ : ClassId) (mo : Nat) (g : Nat) (n : Nat) (n2 : Nat) (q1 : Nat) (q3 : Nat) (q4 : Nat) (q5 : Nat) (q6 : Nat) (q11 : Nat) (z0 : Int32) (pr : Int32) (gr : Int32) (kd : Int32) (mk : Int32) (w10 : Int64) (w13 : Int64) (w14 : Int64) (m3 : Nat → Int32) (x : Int32) (hn2 : n2 ≤ 400) : Met l yX6_rowsOf wsX6_rowsOf ({ frames := 0, cells := 0, slots := 0, locals := 0 }) (jr_P D vwCl (jT cI cL cQ) cL cQ [.ref mo, .int 1, .int x] [(mo, .inr (6, [.int z0, .ref q1, .int (nI g), .ref q3, .ref q4, .ref q5, .ref q6, .int pr, .int gr, .int kd, .long w10, .ref q11, .int mk, .long w13, .long w14])), (q3, .inl (cI, 800, .inl m3)), (q6, .inl (cI, 2, .inl (jl [nI n, nI n2])))]) (vp_Si (fun r : Int32 => r = nI (jCt n2 (jsh 400 m3) x))) 0 0 (fun _ => False) := by
  refine Met.ofW (cc := cX6_rowsOf) (maxL := 5) (ret := (some .int)) (by decide) rfl ?_
  intro p e s m args below meth c s₁ B hml hv
  obtain ⟨rfl, hP, hK, hN⟩ := hv
  have hx := B.exec
  have hb := B.bytes
  have hr := B.returns
  have hts := atoms_spec (ws := wsX6_rowsOf) B.pre
  have hown : s.vm.findClass RX6 = some m.cls := findClass_of_methodNamed B.named
  have hlocks := B.notSynchronized
  have hl := lv_entry ([.ref mo, .int 1, .int x]) (n := 5) (Nat.le_of_ble_eq_true rfl)
  rw [lg_entry_eq]
  generalize (lg_sl ([.ref mo, .int 1, .int x]) ++ List.replicate (5 - (lg_sl ([.ref mo, .int 1, .int x])).length) Slot.unset).toArray = ls at hl ⊢
  have hl : lv_has ls 5 [(0, .ref mo), (1, .int 1), (2, .int x)] := hl
  refine lv_iconst (v := 0) hx hb dX6_rowsOf_0 (by decide) ?_
  refine lv_istore_n (lv' := [(3, .int 0), (0, .ref mo), (1, .int 1), (2, .int x)]) hx hb dX6_rowsOf_1 rfl hl (by decide) rfl (fun ls hl => ?_)
  refine lv_iconst (v := 0) hx hb dX6_rowsOf_2 (by decide) ?_
  refine lv_istore (lv' := [(4, .int 0), (3, .int 0), (0, .ref mo), (1, .int 1), (2, .int x)]) hx hb dX6_rowsOf_3 hl (by decide) rfl (fun ls hl => ?_)
  have hloop_1 : ∀ (k_1 : Nat) (i : Nat) (z : Nat), n2 - i < k_1 → (i ≤ n2) → (z = jCt i (jsh 400 m3) x) → ∀ ls : Array Slot, lv_has ls 5 [(0, .ref mo), (1, .int 1), (2, .int x), (3, .int (nI z)), (4, .int (nI i))] → W p l e (headSpec wsX6_rowsOf ({ frames := 0, cells := 0, slots := 0, locals := 0 })).room s m #[.ref mo, .int 1, .int x] below meth c s.heap [] 0 0 (MQ below (vp_Si (fun r : Int32 => r = nI (jCt n2 (jsh 400 m3) x))) #[.ref mo, .int 1, .int x] s 0 0 (fun _ => False)) (F0 m 5 ls []) := by
    intro k_1
    induction k_1 with
    | zero => exact fun _ _ hm => absurd hm (Nat.not_lt_zero _)
    | succ k_1 ih_1 =>
      intro i z hm1 hi hz ls hl
      refine lv_iload hx hb dX6_rowsOf_5 (lv_at hl 4 rfl) ?_
      refine lv_aload_n hx hb dX6_rowsOf_7 rfl (lv_at hl 0 rfl) ?_
      refine va_get (D := D) (ci := 6) (v := .ref q6) (C := RX6) (T := TX6) (N := 15) hx hb hts (by decide +kernel) hown hK hP 0 rfl rfl 6 (by decide) (hts (.fieldLink RX6 22 "JoinDeskModel" "many" "[I") (by decide +kernel)) (fun _ h9 => h9) rfl dX6_rowsOf_8 ?_
      refine lv_iload_n hx hb dX6_rowsOf_11 rfl (lv_at hl 1 rfl) ?_
      refine va_iald hx hb hK hP 2 0 rfl rfl (by unfold vp_in; decide) dX6_rowsOf_12 ?_
      refine W.eq (g2 := F0 m 13 ls [.int (nI n2), .int (nI i)]) rfl ?_
      refine lv_icmp_ge (tgt := 47) hx hb dX6_rowsOf_13 (by decide) (fun cge => ?_) (fun cge => ?_)
      · refine lv_iload_n hx hb dX6_rowsOf_47 rfl (lv_at hl 3 rfl) ?_
        exact W.iret (v := nI z) hx hb hr (fun t ht hW => ⟨(nI z), rfl, (by rw [nI_leI (by omega) (by omega)] at cge; rw [hz, show i = n2 by omega]), ht⟩) (fun _ h => nomatch h) dX6_rowsOf_48
      · refine lv_iload_n hx hb dX6_rowsOf_16 rfl (lv_at hl 3 rfl) ?_
        refine lv_aload_n hx hb dX6_rowsOf_17 rfl (lv_at hl 0 rfl) ?_
        refine va_get (D := D) (ci := 6) (v := .ref q3) (C := RX6) (T := TX6) (N := 15) hx hb hts (by decide +kernel) hown hK hP 0 rfl rfl 3 (by decide) (hts (.fieldLink RX6 13 "JoinDeskModel" "keys" "[I") (by decide +kernel)) (fun _ h9 => h9) rfl dX6_rowsOf_18 ?_
        refine lv_sipush (v := 400) hx hb dX6_rowsOf_21 (by decide) ?_
        refine lv_iload_n hx hb dX6_rowsOf_24 rfl (lv_at hl 1 rfl) ?_
        refine lv_imul hx hb dX6_rowsOf_25 ?_
        refine lv_topi (fun z_1 e_z_1 => ?_)
        obtain rfl : z_1 = 400 := e_z_1.trans (by decide)
        refine lv_iload hx hb dX6_rowsOf_26 (lv_at hl 4 rfl) ?_
        refine lv_iadd hx hb dX6_rowsOf_28 ?_
        refine lv_topi (fun z_2 e_z_2 => ?_)
        obtain rfl : z_2 = nI (400 + i) := e_z_2.trans (nI_add 400 i)
        refine va_iald hx hb hK hP 1 0 rfl rfl (vp_in_nI (show 400 + i < 800 by rw [nI_leI (by omega) (by omega)] at cge; omega) (by omega)) dX6_rowsOf_29 ?_
        refine lv_iload_n hx hb dX6_rowsOf_30 rfl (lv_at hl 2 rfl) ?_
        refine lv_icmp_ne (tgt := 38) hx hb dX6_rowsOf_31 (by decide) (fun ckk => ?_) (fun ckk => ?_)
        · refine lv_iconst (v := 0) hx hb dX6_rowsOf_38 (by decide) ?_
          refine lv_iadd hx hb dX6_rowsOf_39 ?_
          refine lv_topi (fun z_3 e_z_3 => ?_)
          obtain rfl : z_3 = nI (z + 0) := e_z_3.trans (nI_add z 0)
          refine lv_istore_n (lv' := [(3, .int (nI (z + 0))), (0, .ref mo), (1, .int 1), (2, .int x), (4, .int (nI i))]) hx hb dX6_rowsOf_40 rfl hl (by decide) rfl (fun ls hl => ?_)
          refine lv_iinc (v := nI (i + 1)) (lv' := [(4, .int (nI (i + 1))), (3, .int (nI (z + 0))), (0, .ref mo), (1, .int 1), (2, .int x)]) hx hb dX6_rowsOf_41 hl (k := 4) rfl (nI_1 _) (by decide) rfl (fun ls hl => ?_)
          refine lv_goto (tgt := 5) hx hb dX6_rowsOf_44 (by decide) ?_
          exact ih_1 (i + 1) (z + 0) (by rw [nI_leI (by omega) (by omega)] at cge; omega) (by rw [nI_leI (by omega) (by omega)] at cge; omega) (jct_0 (by omega) hz ckk) ls (lv_sub hl [2, 3, 4, 1, 0] rfl)
        · refine lv_iconst (v := 1) hx hb dX6_rowsOf_34 (by decide) ?_
          refine lv_goto (tgt := 39) hx hb dX6_rowsOf_35 (by decide) ?_
          refine lv_iadd hx hb dX6_rowsOf_39 ?_
          refine lv_topi (fun z_4 e_z_4 => ?_)
          obtain rfl : z_4 = nI (z + 1) := e_z_4.trans (nI_add z 1)
          refine lv_istore_n (lv' := [(3, .int (nI (z + 1))), (0, .ref mo), (1, .int 1), (2, .int x), (4, .int (nI i))]) hx hb dX6_rowsOf_40 rfl hl (by decide) rfl (fun ls hl => ?_)
          refine lv_iinc (v := nI (i + 1)) (lv' := [(4, .int (nI (i + 1))), (3, .int (nI (z + 1))), (0, .ref mo), (1, .int 1), (2, .int x)]) hx hb dX6_rowsOf_41 hl (k := 4) rfl (nI_1 _) (by decide) rfl (fun ls hl => ?_)
          refine lv_goto (tgt := 5) hx hb dX6_rowsOf_44 (by decide) ?_
          exact ih_1 (i + 1) (z + 1) (by rw [nI_leI (by omega) (by omega)] at cge; omega) (by rw [nI_leI (by omega) (by omega)] at cge; omega) (jct_1 (by omega) hz ckk) ls (lv_sub hl [2, 3, 4, 1, 0] rfl)
  exact hloop_1 (n2 - 0 + 1) 0 0 (Nat.lt_succ_self _) (Nat.zero_le _) (rfl) ls (lv_sub hl [2, 3, 4, 1, 0] rfl)
