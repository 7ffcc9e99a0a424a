set_option maxHeartbeats 1000000 in
set_option maxRecDepth 100000 in
theorem gM_pair_t (l : Launch) (D : va_G) (cI cL cQ : ClassId) (mo : Nat) (g : Nat) (q1 : Nat) (q3 : Nat) (q4 : Nat) (q5 : Nat) (q6 : Nat) (q11 : Nat) (z0 : Int32) (pr : Int32) (gr : Int32) (kd : Int32) (mk : Int32) (w10 : Int64) (w13 : Int64) (w14 : Int64) (x : Int32) (sz : Nat) (h1 : x < 0 ∨ 4 < x) : Met l yX6_pair wsX6_pair ({ frames := 1, cells := 0, slots := 0, locals := 21 }) (jw_P D vwCl (jT cI cL cQ) cL cQ [.ref mo, .int x] [(mo, .inr (6, [.int z0, .ref q1, .int (nI g), .ref q3, .ref q4, .ref q5, .ref q6, .int pr, .int gr, .int kd, .long w10, .ref q11, .int mk, .long w13, .long w14]))] sz) (va_Qi (fun (r : Int32) (u : va_W) => r = 0 ∧ u = [(mo, .inr (6, [.int 1, .ref q1, .int (nI g), .ref q3, .ref q4, .ref q5, .ref q6, .int pr, .int gr, .int kd, .long w10, .ref q11, .int mk, .long w13, .long w14]))]) (jw_B D vwCl (va_A [(mo, .inr (6, [.int z0, .ref q1, .int (nI g), .ref q3, .ref q4, .ref q5, .ref q6, .int pr, .int gr, .int kd, .long w10, .ref q11, .int mk, .long w13, .long w14]))] sz) (fun u : va_W => u)) (va_A [(mo, .inr (6, [.int z0, .ref q1, .int (nI g), .ref q3, .ref q4, .ref q5, .ref q6, .int pr, .int gr, .int kd, .long w10, .ref q11, .int mk, .long w13, .long w14]))] sz)) 0 0 (va_A [(mo, .inr (6, [.int z0, .ref q1, .int (nI g), .ref q3, .ref q4, .ref q5, .ref q6, .int pr, .int gr, .int kd, .long w10, .ref q11, .int mk, .long w13, .long w14]))] sz) := by
  refine Met.ofW (cc := cX6_pair) (maxL := 5) (ret := (some .int)) (by decide) rfl ?_
  intro p e s m args below meth c s₁ B hml hv
  obtain ⟨rfl, hsz, hP, hK, hN, hD0⟩ := hv
  have hx := B.exec
  have hb := B.bytes
  have hr := B.returns
  have hts := atoms_spec (ws := wsX6_pair) B.pre
  have hown : s.vm.findClass RX6 = some m.cls := findClass_of_methodNamed B.named
  have hlocks := B.notSynchronized
  subst hsz
  have hD := hD0.self (sz := s.heap.size)
  generalize hAe : va_A [(mo, .inr (6, [.int z0, .ref q1, .int (nI g), .ref q3, .ref q4, .ref q5, .ref q6, .int pr, .int gr, .int kd, .long w10, .ref q11, .int mk, .long w13, .long w14]))] s.heap.size = A at hD ⊢
  have hA : ∀ q : Nat, s.heap.size ≤ q → A q := fun q h => by rw [← hAe]; exact Or.inr h
  have hS : va_S A s.heap s.heap [] := va_S.rf
  have hl := lv_entry ([.ref mo, .int x]) (n := 5) (Nat.le_of_ble_eq_true rfl)
  rw [lg_entry_eq]
  generalize (lg_sl ([.ref mo, .int x]) ++ List.replicate (5 - (lg_sl ([.ref mo, .int x])).length) Slot.unset).toArray = ls at hl ⊢
  have hl : lv_has ls 5 [(0, .ref mo), (1, .int x)] := hl
  refine lv_aload_n hx hb dX6_pair_0 rfl (lv_at hl 0 rfl) ?_
  refine lv_iload_n hx hb dX6_pair_1 rfl (lv_at hl 1 rfl) ?_
  refine lv_if_lt (tgt := 10) hx hb dX6_pair_2 (by decide) (fun c_1 => ?_) (fun c_1 => ?_)
  · refine lv_iconst (v := 1) hx hb dX6_pair_10 (by decide) ?_
    refine lv_goto (tgt := 15) hx hb dX6_pair_11 (by decide) ?_
    refine jw_i (wr := []) (va_runV (As := [.int 1]) (rest := []) ⟨hx, hb, hml, hown, hts⟩ (gM_refuses_1 l D cI cL cQ mo g q1 q3 q4 q5 q6 q11 z0 pr gr kd mk w10 w13 w14 _) (cwV 1 hts gX6_pair_X6_refuses rfl rfl rfl (by decide +kernel) ⟨Nat.le_of_ble_eq_true rfl, Nat.le_of_ble_eq_true rfl⟩) (jw_V hK hN hP hD [0] (by decide) rfl 6 0 rfl rfl rfl) rfl rfl hl.1 rfl (lv_room (Nat.le_of_ble_eq_true rfl)) dX6_pair_15 ⟨Nat.le_of_ble_eq_true rfl, Nat.le_of_ble_eq_true rfl⟩) hP hD hS hA [0] [] rfl rfl (by decide) (by decide) (fun r u H locs f_2 hP hD hS => ?_)
    obtain ⟨rfl, rfl⟩ := f_2
    have hP : va_P D vwCl [(mo, .inr (6, [.int 1, .ref q1, .int (nI g), .ref q3, .ref q4, .ref q5, .ref q6, .int pr, .int gr, .int kd, .long w10, .ref q11, .int mk, .long w13, .long w14]))] H := hP
    have hD : va_D A [(mo, .inr (6, [.int 1, .ref q1, .int (nI g), .ref q3, .ref q4, .ref q5, .ref q6, .int pr, .int gr, .int kd, .long w10, .ref q11, .int mk, .long w13, .long w14]))] := hD
    refine lv_if_eq (tgt := 23) hx hb dX6_pair_18 (by decide) (fun c_3 => absurd c_3 (by decide)) (fun c_3 => ?_)
    refine lv_iconst (v := 0) hx hb dX6_pair_21 (by decide) ?_
    refine W.widen (k := 0) (n := 0) (by omega) (by omega) ?_
    exact W.iret (v := 0) hx hb hr (fun t ht hW => ⟨⟨0, [(mo, .inr (6, [.int 1, .ref q1, .int (nI g), .ref q3, .ref q4, .ref q5, .ref q6, .int pr, .int gr, .int kd, .long w10, .ref q11, .int mk, .long w13, .long w14]))], rfl, (by exact ⟨rfl, rfl⟩), by rw [ht]; exact hP, hD⟩, hS.F ht⟩) hS.2.2 dX6_pair_22
  · refine lv_iload_n hx hb dX6_pair_5 rfl (lv_at hl 1 rfl) ?_
    refine lv_iconst (v := 4) hx hb dX6_pair_6 (by decide) ?_
    refine lv_icmp_le (tgt := 14) hx hb dX6_pair_7 (by decide) (fun c_4 => absurd c_4 (by exact j_nle (h1.resolve_left (by assumption)))) (fun c_4 => ?_)
    refine lv_iconst (v := 1) hx hb dX6_pair_10 (by decide) ?_
    refine lv_goto (tgt := 15) hx hb dX6_pair_11 (by decide) ?_
    refine jw_i (wr := []) (va_runV (As := [.int 1]) (rest := []) ⟨hx, hb, hml, hown, hts⟩ (gM_refuses_1 l D cI cL cQ mo g q1 q3 q4 q5 q6 q11 z0 pr gr kd mk w10 w13 w14 _) (cwV 1 hts gX6_pair_X6_refuses rfl rfl rfl (by decide +kernel) ⟨Nat.le_of_ble_eq_true rfl, Nat.le_of_ble_eq_true rfl⟩) (jw_V hK hN hP hD [0] (by decide) rfl 6 0 rfl rfl rfl) rfl rfl hl.1 rfl (lv_room (Nat.le_of_ble_eq_true rfl)) dX6_pair_15 ⟨Nat.le_of_ble_eq_true rfl, Nat.le_of_ble_eq_true rfl⟩) hP hD hS hA [0] [] rfl rfl (by decide) (by decide) (fun r u H locs f_5 hP hD hS => ?_)
    obtain ⟨rfl, rfl⟩ := f_5
    have hP : va_P D vwCl [(mo, .inr (6, [.int 1, .ref q1, .int (nI g), .ref q3, .ref q4, .ref q5, .ref q6, .int pr, .int gr, .int kd, .long w10, .ref q11, .int mk, .long w13, .long w14]))] H := hP
    have hD : va_D A [(mo, .inr (6, [.int 1, .ref q1, .int (nI g), .ref q3, .ref q4, .ref q5, .ref q6, .int pr, .int gr, .int kd, .long w10, .ref q11, .int mk, .long w13, .long w14]))] := hD
    refine lv_if_eq (tgt := 23) hx hb dX6_pair_18 (by decide) (fun c_6 => absurd c_6 (by decide)) (fun c_6 => ?_)
    refine lv_iconst (v := 0) hx hb dX6_pair_21 (by decide) ?_
    refine W.widen (k := 0) (n := 0) (by omega) (by omega) ?_
    exact W.iret (v := 0) hx hb hr (fun t ht hW => ⟨⟨0, [(mo, .inr (6, [.int 1, .ref q1, .int (nI g), .ref q3, .ref q4, .ref q5, .ref q6, .int pr, .int gr, .int kd, .long w10, .ref q11, .int mk, .long w13, .long w14]))], rfl, (by exact ⟨rfl, rfl⟩), by rw [ht]; exact hP, hD⟩, hS.F ht⟩) hS.2.2 dX6_pair_22
set_option maxHeartbeats 1000000 in
set_option maxRecDepth 100000 in
theorem gM_pair_p0 (l : Launch) (D : va_G) (cI cL cQ : ClassId) (mo : Nat) (g : Nat) (q1 : Nat) (q3 : Nat) (q4 : Nat) (q5 : Nat) (q6 : Nat) (q11 : Nat) (z0 : Int32) (gr : Int32) (kd : Int32) (mk : Int32) (w10 : Int64) (w13 : Int64) (w14 : Int64) (sz : Nat) : Met l yX6_pair wsX6_pair ({ frames := 1, cells := 0, slots := 0, locals := 21 }) (jw_P D vwCl (jT cI cL cQ) cL cQ [.ref mo, .int 0] [(mo, .inr (6, [.int z0, .ref q1, .int (nI g), .ref q3, .ref q4, .ref q5, .ref q6, .int 0, .int gr, .int kd, .long w10, .ref q11, .int mk, .long w13, .long w14]))] sz) (va_Qi (fun (r : Int32) (u : va_W) => r = 0 ∧ u = [(mo, .inr (6, [.int 0, .ref q1, .int (nI g), .ref q3, .ref q4, .ref q5, .ref q6, .int 0, .int gr, .int kd, .long w10, .ref q11, .int mk, .long w13, .long w14]))]) (jw_B D vwCl (va_A [(mo, .inr (6, [.int z0, .ref q1, .int (nI g), .ref q3, .ref q4, .ref q5, .ref q6, .int 0, .int gr, .int kd, .long w10, .ref q11, .int mk, .long w13, .long w14]))] sz) (fun u : va_W => u)) (va_A [(mo, .inr (6, [.int z0, .ref q1, .int (nI g), .ref q3, .ref q4, .ref q5, .ref q6, .int 0, .int gr, .int kd, .long w10, .ref q11, .int mk, .long w13, .long w14]))] sz)) 0 0 (va_A [(mo, .inr (6, [.int z0, .ref q1, .int (nI g), .ref q3, .ref q4, .ref q5, .ref q6, .int 0, .int gr, .int kd, .long w10, .ref q11, .int mk, .long w13, .long w14]))] sz) := by
  refine Met.ofW (cc := cX6_pair) (maxL := 5) (ret := (some .int)) (by decide) rfl ?_
  intro p e s m args below meth c s₁ B hml hv
  obtain ⟨rfl, hsz, hP, hK, hN, hD0⟩ := hv
  have hx := B.exec
  have hb := B.bytes
  have hr := B.returns
  have hts := atoms_spec (ws := wsX6_pair) B.pre
  have hown : s.vm.findClass RX6 = some m.cls := findClass_of_methodNamed B.named
  have hlocks := B.notSynchronized
  subst hsz
  have hD := hD0.self (sz := s.heap.size)
  generalize hAe : va_A [(mo, .inr (6, [.int z0, .ref q1, .int (nI g), .ref q3, .ref q4, .ref q5, .ref q6, .int 0, .int gr, .int kd, .long w10, .ref q11, .int mk, .long w13, .long w14]))] s.heap.size = A at hD ⊢
  have hA : ∀ q : Nat, s.heap.size ≤ q → A q := fun q h => by rw [← hAe]; exact Or.inr h
  have hS : va_S A s.heap s.heap [] := va_S.rf
  have hl := lv_entry ([.ref mo, .int 0]) (n := 5) (Nat.le_of_ble_eq_true rfl)
  rw [lg_entry_eq]
  generalize (lg_sl ([.ref mo, .int 0]) ++ List.replicate (5 - (lg_sl ([.ref mo, .int 0])).length) Slot.unset).toArray = ls at hl ⊢
  have hl : lv_has ls 5 [(0, .ref mo), (1, .int 0)] := hl
  refine lv_aload_n hx hb dX6_pair_0 rfl (lv_at hl 0 rfl) ?_
  refine lv_iload_n hx hb dX6_pair_1 rfl (lv_at hl 1 rfl) ?_
  refine lv_if_lt (tgt := 10) hx hb dX6_pair_2 (by decide) (fun c_1 => absurd c_1 (by decide)) (fun c_1 => ?_)
  refine lv_iload_n hx hb dX6_pair_5 rfl (lv_at hl 1 rfl) ?_
  refine lv_iconst (v := 4) hx hb dX6_pair_6 (by decide) ?_
  refine lv_icmp_le (tgt := 14) hx hb dX6_pair_7 (by decide) (fun c_2 => ?_) (fun c_2 => absurd c_2 (by decide))
  refine lv_iconst (v := 0) hx hb dX6_pair_14 (by decide) ?_
  refine jw_i (wr := []) (va_runV (As := [.int 0]) (rest := []) ⟨hx, hb, hml, hown, hts⟩ (gM_refuses_0 l D cI cL cQ mo g q1 q3 q4 q5 q6 q11 z0 0 gr kd mk w10 w13 w14 _) (cwV 1 hts gX6_pair_X6_refuses rfl rfl rfl (by decide +kernel) ⟨Nat.le_of_ble_eq_true rfl, Nat.le_of_ble_eq_true rfl⟩) (jw_V hK hN hP hD [0] (by decide) rfl 6 0 rfl rfl rfl) rfl rfl hl.1 rfl (lv_room (Nat.le_of_ble_eq_true rfl)) dX6_pair_15 ⟨Nat.le_of_ble_eq_true rfl, Nat.le_of_ble_eq_true rfl⟩) hP hD hS hA [0] [] rfl rfl (by decide) (by decide) (fun r u H locs f_3 hP hD hS => ?_)
  obtain ⟨rfl, rfl⟩ := f_3
  have hP : va_P D vwCl [(mo, .inr (6, [.int 0, .ref q1, .int (nI g), .ref q3, .ref q4, .ref q5, .ref q6, .int 0, .int gr, .int kd, .long w10, .ref q11, .int mk, .long w13, .long w14]))] H := hP
  have hD : va_D A [(mo, .inr (6, [.int 0, .ref q1, .int (nI g), .ref q3, .ref q4, .ref q5, .ref q6, .int 0, .int gr, .int kd, .long w10, .ref q11, .int mk, .long w13, .long w14]))] := hD
  refine lv_if_eq (tgt := 23) hx hb dX6_pair_18 (by decide) (fun c_4 => ?_) (fun c_4 => absurd c_4 (by decide))
  refine lv_aload_n hx hb dX6_pair_23 rfl (lv_at hl 0 rfl) ?_
  refine va_get (D := D) (ci := 6) (v := .int 0) (C := RX6) (T := TX6) (N := 15) hx hb hts (by decide +kernel) hown hK hP 0 rfl rfl 7 (by decide) (hts (.fieldLink RX6 43 "JoinDeskModel" "prepared" "Z") (by decide +kernel)) (fun _ h9 => h9) rfl dX6_pair_24 ?_
  refine lv_if_eq (tgt := 45) hx hb dX6_pair_27 (by decide) (fun c_5 => ?_) (fun c_5 => absurd c_5 (by decide))
  refine lv_iconst (v := 0) hx hb dX6_pair_45 (by decide) ?_
  refine lv_istore_n (lv' := [(2, .int 0), (0, .ref mo), (1, .int 0)]) hx hb dX6_pair_46 rfl hl (by decide) rfl (fun ls hl => ?_)
  refine lv_iload_n hx hb dX6_pair_47 rfl (lv_at hl 2 rfl) ?_
  refine lv_iconst (v := 1) hx hb dX6_pair_48 (by decide) ?_
  refine lv_icmp_eq (tgt := 57) hx hb dX6_pair_49 (by decide) (fun c_6 => absurd c_6 (by decide)) (fun c_6 => ?_)
  refine lv_iload_n hx hb dX6_pair_52 rfl (lv_at hl 2 rfl) ?_
  refine lv_iconst (v := 3) hx hb dX6_pair_53 (by decide) ?_
  refine lv_icmp_ne (tgt := 61) hx hb dX6_pair_54 (by decide) (fun c_7 => ?_) (fun c_7 => absurd c_7 (by decide))
  refine lv_iconst (v := 1) hx hb dX6_pair_61 (by decide) ?_
  refine lv_istore_n (lv' := [(3, .int 1), (2, .int 0), (0, .ref mo), (1, .int 0)]) hx hb dX6_pair_62 rfl hl (by decide) rfl (fun ls hl => ?_)
  refine lv_iload_n hx hb dX6_pair_63 rfl (lv_at hl 3 rfl) ?_
  refine lv_if_ne (tgt := 114) hx hb dX6_pair_64 (by decide) (fun c_8 => absurd c_8 (by decide)) (fun c_8 => ?_)
  refine lv_iload_n hx hb dX6_pair_67 rfl (lv_at hl 1 rfl) ?_
  refine lv_if_ne (tgt := 75) hx hb dX6_pair_68 (by decide) (fun c_9 => absurd c_9 (by decide)) (fun c_9 => ?_)
  refine lv_iconst (v := 0) hx hb dX6_pair_71 (by decide) ?_
  refine lv_goto (tgt := 113) hx hb dX6_pair_72 (by decide) ?_
  refine W.widen (k := 0) (n := 0) (by omega) (by omega) ?_
  exact W.iret (v := 0) hx hb hr (fun t ht hW => ⟨⟨0, [(mo, .inr (6, [.int 0, .ref q1, .int (nI g), .ref q3, .ref q4, .ref q5, .ref q6, .int 0, .int gr, .int kd, .long w10, .ref q11, .int mk, .long w13, .long w14]))], rfl, (by exact ⟨rfl, rfl⟩), by rw [ht]; exact hP, hD⟩, hS.F ht⟩) hS.2.2 dX6_pair_113
set_option maxHeartbeats 1000000 in
set_option maxRecDepth 100000 in
theorem gM_pair_n0 (l : Launch) (D : va_G) (cI cL cQ : ClassId) (mo : Nat) (g : Nat) (q1 : Nat) (q3 : Nat) (q4 : Nat) (q5 : Nat) (q6 : Nat) (q11 : Nat) (z0 : Int32) (gr : Int32) (kd : Int32) (mk : Int32) (w10 : Int64) (w13 : Int64) (w14 : Int64) (m3 : Nat → Int32) (m4 : Nat → Int32) (m5 : Nat → Int32) (t0 : Int32) (t1 : Int32) (t2 : Int32) (t3 : Int32) (t4 : Int32) (t5 : Int32) (t6 : Int32) (t7 : Int32) (t8 : Int32) (t10 : Int32) (t11 : Int32) (t12 : Int32) (t13 : Int32) (t14 : Int32) (t15 : Int32) (t16 : Int32) (t17 : Int32) (t18 : Int32) (t19 : Int32) (t20 : Int32) (t21 : Int32) (t22 : Int32) (t23 : Int32) (sz : Nat) (h5 : jo5 m5) : Met l yX6_pair wsX6_pair ({ frames := 1, cells := 0, slots := 0, locals := 21 }) (jw_P D vwCl (jT cI cL cQ) cL cQ [.ref mo, .int 0] [(mo, .inr (6, [.int z0, .ref q1, .int (nI g), .ref q3, .ref q4, .ref q5, .ref q6, .int 1, .int gr, .int kd, .long w10, .ref q11, .int mk, .long w13, .long w14])), (q3, .inl (cI, 800, .inl m3)), (q4, .inl (cI, 800, .inl m4)), (q5, .inl (cI, 800, .inl m5)), (q11, .inl (cI, 24, .inl (jl [t0, t1, t2, t3, t4, t5, t6, t7, t8, 0, t10, t11, t12, t13, t14, t15, t16, t17, t18, t19, t20, t21, t22, t23])))] sz) (va_Qi (fun (r : Int32) (u : va_W) => ∃ (z9 : Int32), r = z9 ∧ u = [(mo, .inr (6, [.int 0, .ref q1, .int (nI g), .ref q3, .ref q4, .ref q5, .ref q6, .int 1, .int gr, .int kd, .long w10, .ref q11, .int mk, .long w13, .long w14])), (q3, .inl (cI, 800, .inl m3)), (q4, .inl (cI, 800, .inl m4)), (q5, .inl (cI, 800, .inl m5)), (q11, .inl (cI, 24, .inl (jl [t0, t1, t2, t3, t4, t5, t6, t7, t8, 0, t10, t11, t12, t13, t14, t15, t16, t17, t18, t19, t20, t21, t22, t23])))]) (jw_B D vwCl (va_A [(mo, .inr (6, [.int z0, .ref q1, .int (nI g), .ref q3, .ref q4, .ref q5, .ref q6, .int 1, .int gr, .int kd, .long w10, .ref q11, .int mk, .long w13, .long w14])), (q3, .inl (cI, 800, .inl m3)), (q4, .inl (cI, 800, .inl m4)), (q5, .inl (cI, 800, .inl m5)), (q11, .inl (cI, 24, .inl (jl [t0, t1, t2, t3, t4, t5, t6, t7, t8, 0, t10, t11, t12, t13, t14, t15, t16, t17, t18, t19, t20, t21, t22, t23])))] sz) (fun u : va_W => u)) (va_A [(mo, .inr (6, [.int z0, .ref q1, .int (nI g), .ref q3, .ref q4, .ref q5, .ref q6, .int 1, .int gr, .int kd, .long w10, .ref q11, .int mk, .long w13, .long w14])), (q3, .inl (cI, 800, .inl m3)), (q4, .inl (cI, 800, .inl m4)), (q5, .inl (cI, 800, .inl m5)), (q11, .inl (cI, 24, .inl (jl [t0, t1, t2, t3, t4, t5, t6, t7, t8, 0, t10, t11, t12, t13, t14, t15, t16, t17, t18, t19, t20, t21, t22, t23])))] sz)) 0 0 (va_A [(mo, .inr (6, [.int z0, .ref q1, .int (nI g), .ref q3, .ref q4, .ref q5, .ref q6, .int 1, .int gr, .int kd, .long w10, .ref q11, .int mk, .long w13, .long w14])), (q3, .inl (cI, 800, .inl m3)), (q4, .inl (cI, 800, .inl m4)), (q5, .inl (cI, 800, .inl m5)), (q11, .inl (cI, 24, .inl (jl [t0, t1, t2, t3, t4, t5, t6, t7, t8, 0, t10, t11, t12, t13, t14, t15, t16, t17, t18, t19, t20, t21, t22, t23])))] sz) := by
  refine Met.ofW (cc := cX6_pair) (maxL := 5) (ret := (some .int)) (by decide) rfl ?_
  intro p e s m args below meth c s₁ B hml hv
  obtain ⟨rfl, hsz, hP, hK, hN, hD0⟩ := hv
  have hx := B.exec
  have hb := B.bytes
  have hr := B.returns
  have hts := atoms_spec (ws := wsX6_pair) B.pre
  have hown : s.vm.findClass RX6 = some m.cls := findClass_of_methodNamed B.named
  have hlocks := B.notSynchronized
  subst hsz
  have hD := hD0.self (sz := s.heap.size)
  generalize hAe : va_A [(mo, .inr (6, [.int z0, .ref q1, .int (nI g), .ref q3, .ref q4, .ref q5, .ref q6, .int 1, .int gr, .int kd, .long w10, .ref q11, .int mk, .long w13, .long w14])), (q3, .inl (cI, 800, .inl m3)), (q4, .inl (cI, 800, .inl m4)), (q5, .inl (cI, 800, .inl m5)), (q11, .inl (cI, 24, .inl (jl [t0, t1, t2, t3, t4, t5, t6, t7, t8, 0, t10, t11, t12, t13, t14, t15, t16, t17, t18, t19, t20, t21, t22, t23])))] s.heap.size = A at hD ⊢
  have hA : ∀ q : Nat, s.heap.size ≤ q → A q := fun q h => by rw [← hAe]; exact Or.inr h
  have hS : va_S A s.heap s.heap [] := va_S.rf
  have hl := lv_entry ([.ref mo, .int 0]) (n := 5) (Nat.le_of_ble_eq_true rfl)
  rw [lg_entry_eq]
  generalize (lg_sl ([.ref mo, .int 0]) ++ List.replicate (5 - (lg_sl ([.ref mo, .int 0])).length) Slot.unset).toArray = ls at hl ⊢
  have hl : lv_has ls 5 [(0, .ref mo), (1, .int 0)] := hl
  refine lv_aload_n hx hb dX6_pair_0 rfl (lv_at hl 0 rfl) ?_
  refine lv_iload_n hx hb dX6_pair_1 rfl (lv_at hl 1 rfl) ?_
  refine lv_if_lt (tgt := 10) hx hb dX6_pair_2 (by decide) (fun c_1 => absurd c_1 (by decide)) (fun c_1 => ?_)
  refine lv_iload_n hx hb dX6_pair_5 rfl (lv_at hl 1 rfl) ?_
  refine lv_iconst (v := 4) hx hb dX6_pair_6 (by decide) ?_
  refine lv_icmp_le (tgt := 14) hx hb dX6_pair_7 (by decide) (fun c_2 => ?_) (fun c_2 => absurd c_2 (by decide))
  refine lv_iconst (v := 0) hx hb dX6_pair_14 (by decide) ?_
  refine jw_i (wr := [(q3, .inl (cI, 800, .inl m3)), (q4, .inl (cI, 800, .inl m4)), (q5, .inl (cI, 800, .inl m5)), (q11, .inl (cI, 24, .inl (jl [t0, t1, t2, t3, t4, t5, t6, t7, t8, 0, t10, t11, t12, t13, t14, t15, t16, t17, t18, t19, t20, t21, t22, t23])))]) (va_runV (As := [.int 0]) (rest := []) ⟨hx, hb, hml, hown, hts⟩ (gM_refuses_0 l D cI cL cQ mo g q1 q3 q4 q5 q6 q11 z0 1 gr kd mk w10 w13 w14 _) (cwV 1 hts gX6_pair_X6_refuses rfl rfl rfl (by decide +kernel) ⟨Nat.le_of_ble_eq_true rfl, Nat.le_of_ble_eq_true rfl⟩) (jw_V hK hN hP hD [0] (by decide) rfl 6 0 rfl rfl rfl) rfl rfl hl.1 rfl (lv_room (Nat.le_of_ble_eq_true rfl)) dX6_pair_15 ⟨Nat.le_of_ble_eq_true rfl, Nat.le_of_ble_eq_true rfl⟩) hP hD hS hA [0] [1, 2, 3, 4] rfl rfl (by decide) (by decide) (fun r u H locs f_3 hP hD hS => ?_)
  obtain ⟨rfl, rfl⟩ := f_3
  have hP : va_P D vwCl [(q3, .inl (cI, 800, .inl m3)), (q4, .inl (cI, 800, .inl m4)), (q5, .inl (cI, 800, .inl m5)), (q11, .inl (cI, 24, .inl (jl [t0, t1, t2, t3, t4, t5, t6, t7, t8, 0, t10, t11, t12, t13, t14, t15, t16, t17, t18, t19, t20, t21, t22, t23]))), (mo, .inr (6, [.int 0, .ref q1, .int (nI g), .ref q3, .ref q4, .ref q5, .ref q6, .int 1, .int gr, .int kd, .long w10, .ref q11, .int mk, .long w13, .long w14]))] H := hP
  have hD : va_D A [(q3, .inl (cI, 800, .inl m3)), (q4, .inl (cI, 800, .inl m4)), (q5, .inl (cI, 800, .inl m5)), (q11, .inl (cI, 24, .inl (jl [t0, t1, t2, t3, t4, t5, t6, t7, t8, 0, t10, t11, t12, t13, t14, t15, t16, t17, t18, t19, t20, t21, t22, t23]))), (mo, .inr (6, [.int 0, .ref q1, .int (nI g), .ref q3, .ref q4, .ref q5, .ref q6, .int 1, .int gr, .int kd, .long w10, .ref q11, .int mk, .long w13, .long w14]))] := hD
  refine lv_if_eq (tgt := 23) hx hb dX6_pair_18 (by decide) (fun c_4 => ?_) (fun c_4 => absurd c_4 (by decide))
  refine lv_aload_n hx hb dX6_pair_23 rfl (lv_at hl 0 rfl) ?_
  refine va_get (D := D) (ci := 6) (v := .int 1) (C := RX6) (T := TX6) (N := 15) hx hb hts (by decide +kernel) hown hK hP 4 rfl rfl 7 (by decide) (hts (.fieldLink RX6 43 "JoinDeskModel" "prepared" "Z") (by decide +kernel)) (fun _ h9 => h9) rfl dX6_pair_24 ?_
  refine lv_if_eq (tgt := 45) hx hb dX6_pair_27 (by decide) (fun c_5 => absurd c_5 (by decide)) (fun c_5 => ?_)
  refine lv_aload_n hx hb dX6_pair_30 rfl (lv_at hl 0 rfl) ?_
  refine va_get (D := D) (ci := 6) (v := .ref q11) (C := RX6) (T := TX6) (N := 15) hx hb hts (by decide +kernel) hown hK hP 4 rfl rfl 11 (by decide) (hts (.fieldLink RX6 25 "JoinDeskModel" "at" "[I") (by decide +kernel)) (fun _ h9 => h9) rfl dX6_pair_31 ?_
  refine lv_bipush (v := 9) hx hb dX6_pair_34 (by decide) ?_
  refine va_iald hx hb hK hP 3 0 rfl rfl (by unfold vp_in; decide) dX6_pair_36 ?_
  refine W.eq (g2 := F0 m 37 ls [.int 0]) rfl ?_
  refine lv_iconst (v := 1) hx hb dX6_pair_37 (by decide) ?_
  refine lv_icmp_ne (tgt := 45) hx hb dX6_pair_38 (by decide) (fun c_6 => ?_) (fun c_6 => absurd c_6 (by decide))
  refine lv_iconst (v := 0) hx hb dX6_pair_45 (by decide) ?_
  refine lv_istore_n (lv' := [(2, .int 0), (0, .ref mo), (1, .int 0)]) hx hb dX6_pair_46 rfl hl (by decide) rfl (fun ls hl => ?_)
  refine lv_iload_n hx hb dX6_pair_47 rfl (lv_at hl 2 rfl) ?_
  refine lv_iconst (v := 1) hx hb dX6_pair_48 (by decide) ?_
  refine lv_icmp_eq (tgt := 57) hx hb dX6_pair_49 (by decide) (fun c_7 => absurd c_7 (by decide)) (fun c_7 => ?_)
  refine lv_iload_n hx hb dX6_pair_52 rfl (lv_at hl 2 rfl) ?_
  refine lv_iconst (v := 3) hx hb dX6_pair_53 (by decide) ?_
  refine lv_icmp_ne (tgt := 61) hx hb dX6_pair_54 (by decide) (fun c_8 => ?_) (fun c_8 => absurd c_8 (by decide))
  refine lv_iconst (v := 1) hx hb dX6_pair_61 (by decide) ?_
  refine lv_istore_n (lv' := [(3, .int 1), (2, .int 0), (0, .ref mo), (1, .int 0)]) hx hb dX6_pair_62 rfl hl (by decide) rfl (fun ls hl => ?_)
  refine lv_iload_n hx hb dX6_pair_63 rfl (lv_at hl 3 rfl) ?_
  refine lv_if_ne (tgt := 114) hx hb dX6_pair_64 (by decide) (fun c_9 => absurd c_9 (by decide)) (fun c_9 => ?_)
  refine lv_iload_n hx hb dX6_pair_67 rfl (lv_at hl 1 rfl) ?_
  refine lv_if_ne (tgt := 75) hx hb dX6_pair_68 (by decide) (fun c_10 => absurd c_10 (by decide)) (fun c_10 => ?_)
  refine lv_iconst (v := 0) hx hb dX6_pair_71 (by decide) ?_
  refine lv_goto (tgt := 113) hx hb dX6_pair_72 (by decide) ?_
  have hP := hP.sub (ws' := [(mo, .inr (6, [.int 0, .ref q1, .int (nI g), .ref q3, .ref q4, .ref q5, .ref q6, .int 1, .int gr, .int kd, .long w10, .ref q11, .int mk, .long w13, .long w14])), (q3, .inl (cI, 800, .inl m3)), (q4, .inl (cI, 800, .inl m4)), (q5, .inl (cI, 800, .inl m5)), (q11, .inl (cI, 24, .inl (jl [t0, t1, t2, t3, t4, t5, t6, t7, t8, 0, t10, t11, t12, t13, t14, t15, t16, t17, t18, t19, t20, t21, t22, t23])))]) [4, 0, 1, 2, 3] rfl
  have hD := hD.sub (ws' := [(mo, .inr (6, [.int 0, .ref q1, .int (nI g), .ref q3, .ref q4, .ref q5, .ref q6, .int 1, .int gr, .int kd, .long w10, .ref q11, .int mk, .long w13, .long w14])), (q3, .inl (cI, 800, .inl m3)), (q4, .inl (cI, 800, .inl m4)), (q5, .inl (cI, 800, .inl m5)), (q11, .inl (cI, 24, .inl (jl [t0, t1, t2, t3, t4, t5, t6, t7, t8, 0, t10, t11, t12, t13, t14, t15, t16, t17, t18, t19, t20, t21, t22, t23])))]) [4, 0, 1, 2, 3] (by decide) rfl
  refine W.widen (k := 0) (n := 0) (by omega) (by omega) ?_
  exact W.iret (v := 0) hx hb hr (fun t ht hW => ⟨⟨0, [(mo, .inr (6, [.int 0, .ref q1, .int (nI g), .ref q3, .ref q4, .ref q5, .ref q6, .int 1, .int gr, .int kd, .long w10, .ref q11, .int mk, .long w13, .long w14])), (q3, .inl (cI, 800, .inl m3)), (q4, .inl (cI, 800, .inl m4)), (q5, .inl (cI, 800, .inl m5)), (q11, .inl (cI, 24, .inl (jl [t0, t1, t2, t3, t4, t5, t6, t7, t8, 0, t10, t11, t12, t13, t14, t15, t16, t17, t18, t19, t20, t21, t22, t23])))], rfl, (⟨_, rfl, rfl⟩), by rw [ht]; exact hP, hD⟩, hS.F ht⟩) hS.2.2 dX6_pair_113
set_option maxHeartbeats 1000000 in
set_option maxRecDepth 100000 in
theorem gM_pair_00 (l : Launch) (D : va_G) (cI cL cQ : ClassId) (mo : Nat) (g : Nat) (q1 : Nat) (q3 : Nat) (q4 : Nat) (q5 : Nat) (q6 : Nat) (q11 : Nat) (z0 : Int32) (gr : Int32) (kd : Int32) (mk : Int32) (w10 : Int64) (w13 : Int64) (w14 : Int64) (m3 : Nat → Int32) (m4 : Nat → Int32) (m5 : Nat → Int32) (t0 : Int32) (t1 : Int32) (t2 : Int32) (t3 : Int32) (t10 : Int32) (t11 : Int32) (t12 : Int32) (t13 : Int32) (t14 : Int32) (t15 : Int32) (t16 : Int32) (t17 : Int32) (t18 : Int32) (t19 : Int32) (t20 : Int32) (t21 : Int32) (t22 : Int32) (t23 : Int32) (d0 : Nat) (d1 : Nat) (r0 : Nat) (r1 : Nat) (sz : Nat) (h5 : jo5 m5) (hr0 : r0 < d0) (hr1 : r1 < d1) (hd0 : d0 ≤ 400) (hd1 : d1 ≤ 400) : Met l yX6_pair wsX6_pair ({ frames := 1, cells := 0, slots := 0, locals := 22 }) (jw_P D vwCl (jT cI cL cQ) cL cQ [.ref mo, .int 0] [(mo, .inr (6, [.int z0, .ref q1, .int (nI g), .ref q3, .ref q4, .ref q5, .ref q6, .int 1, .int gr, .int kd, .long w10, .ref q11, .int mk, .long w13, .long w14])), (q3, .inl (cI, 800, .inl m3)), (q4, .inl (cI, 800, .inl m4)), (q5, .inl (cI, 800, .inl m5)), (q11, .inl (cI, 24, .inl (jl [t0, t1, t2, t3, nI d0, nI d1, nI r0, nI r1, 0, 1, t10, t11, t12, t13, t14, t15, t16, t17, t18, t19, t20, t21, t22, t23])))] sz) (va_Qi (fun (r : Int32) (u : va_W) => ∃ (z9 : Int32), r = z9 ∧ u = [(mo, .inr (6, [.int 0, .ref q1, .int (nI g), .ref q3, .ref q4, .ref q5, .ref q6, .int 1, .int gr, .int kd, .long w10, .ref q11, .int mk, .long w13, .long w14])), (q3, .inl (cI, 800, .inl m3)), (q4, .inl (cI, 800, .inl m4)), (q5, .inl (cI, 800, .inl m5)), (q11, .inl (cI, 24, .inl (jl [t0, t1, t2, t3, nI d0, nI d1, nI r0, nI r1, 0, 1, t10, t11, t12, t13, t14, t15, t16, t17, t18, t19, t20, t21, t22, t23])))]) (jw_B D vwCl (va_A [(mo, .inr (6, [.int z0, .ref q1, .int (nI g), .ref q3, .ref q4, .ref q5, .ref q6, .int 1, .int gr, .int kd, .long w10, .ref q11, .int mk, .long w13, .long w14])), (q3, .inl (cI, 800, .inl m3)), (q4, .inl (cI, 800, .inl m4)), (q5, .inl (cI, 800, .inl m5)), (q11, .inl (cI, 24, .inl (jl [t0, t1, t2, t3, nI d0, nI d1, nI r0, nI r1, 0, 1, t10, t11, t12, t13, t14, t15, t16, t17, t18, t19, t20, t21, t22, t23])))] sz) (fun u : va_W => u)) (va_A [(mo, .inr (6, [.int z0, .ref q1, .int (nI g), .ref q3, .ref q4, .ref q5, .ref q6, .int 1, .int gr, .int kd, .long w10, .ref q11, .int mk, .long w13, .long w14])), (q3, .inl (cI, 800, .inl m3)), (q4, .inl (cI, 800, .inl m4)), (q5, .inl (cI, 800, .inl m5)), (q11, .inl (cI, 24, .inl (jl [t0, t1, t2, t3, nI d0, nI d1, nI r0, nI r1, 0, 1, t10, t11, t12, t13, t14, t15, t16, t17, t18, t19, t20, t21, t22, t23])))] sz)) 0 0 (va_A [(mo, .inr (6, [.int z0, .ref q1, .int (nI g), .ref q3, .ref q4, .ref q5, .ref q6, .int 1, .int gr, .int kd, .long w10, .ref q11, .int mk, .long w13, .long w14])), (q3, .inl (cI, 800, .inl m3)), (q4, .inl (cI, 800, .inl m4)), (q5, .inl (cI, 800, .inl m5)), (q11, .inl (cI, 24, .inl (jl [t0, t1, t2, t3, nI d0, nI d1, nI r0, nI r1, 0, 1, t10, t11, t12, t13, t14, t15, t16, t17, t18, t19, t20, t21, t22, t23])))] sz) := by
  refine Met.ofW (cc := cX6_pair) (maxL := 5) (ret := (some .int)) (by decide) rfl ?_
  intro p e s m args below meth c s₁ B hml hv
  obtain ⟨rfl, hsz, hP, hK, hN, hD0⟩ := hv
  have hx := B.exec
  have hb := B.bytes
  have hr := B.returns
  have hts := atoms_spec (ws := wsX6_pair) B.pre
  have hown : s.vm.findClass RX6 = some m.cls := findClass_of_methodNamed B.named
  have hlocks := B.notSynchronized
  subst hsz
  have hD := hD0.self (sz := s.heap.size)
  generalize hAe : va_A [(mo, .inr (6, [.int z0, .ref q1, .int (nI g), .ref q3, .ref q4, .ref q5, .ref q6, .int 1, .int gr, .int kd, .long w10, .ref q11, .int mk, .long w13, .long w14])), (q3, .inl (cI, 800, .inl m3)), (q4, .inl (cI, 800, .inl m4)), (q5, .inl (cI, 800, .inl m5)), (q11, .inl (cI, 24, .inl (jl [t0, t1, t2, t3, nI d0, nI d1, nI r0, nI r1, 0, 1, t10, t11, t12, t13, t14, t15, t16, t17, t18, t19, t20, t21, t22, t23])))] s.heap.size = A at hD ⊢
  have hA : ∀ q : Nat, s.heap.size ≤ q → A q := fun q h => by rw [← hAe]; exact Or.inr h
  have hS : va_S A s.heap s.heap [] := va_S.rf
  have hl := lv_entry ([.ref mo, .int 0]) (n := 5) (Nat.le_of_ble_eq_true rfl)
  rw [lg_entry_eq]
  generalize (lg_sl ([.ref mo, .int 0]) ++ List.replicate (5 - (lg_sl ([.ref mo, .int 0])).length) Slot.unset).toArray = ls at hl ⊢
  have hl : lv_has ls 5 [(0, .ref mo), (1, .int 0)] := hl
  refine lv_aload_n hx hb dX6_pair_0 rfl (lv_at hl 0 rfl) ?_
  refine lv_iload_n hx hb dX6_pair_1 rfl (lv_at hl 1 rfl) ?_
  refine lv_if_lt (tgt := 10) hx hb dX6_pair_2 (by decide) (fun c_1 => absurd c_1 (by decide)) (fun c_1 => ?_)
  refine lv_iload_n hx hb dX6_pair_5 rfl (lv_at hl 1 rfl) ?_
  refine lv_iconst (v := 4) hx hb dX6_pair_6 (by decide) ?_
  refine lv_icmp_le (tgt := 14) hx hb dX6_pair_7 (by decide) (fun c_2 => ?_) (fun c_2 => absurd c_2 (by decide))
  refine lv_iconst (v := 0) hx hb dX6_pair_14 (by decide) ?_
  refine jw_i (wr := [(q3, .inl (cI, 800, .inl m3)), (q4, .inl (cI, 800, .inl m4)), (q5, .inl (cI, 800, .inl m5)), (q11, .inl (cI, 24, .inl (jl [t0, t1, t2, t3, nI d0, nI d1, nI r0, nI r1, 0, 1, t10, t11, t12, t13, t14, t15, t16, t17, t18, t19, t20, t21, t22, t23])))]) (va_runV (As := [.int 0]) (rest := []) ⟨hx, hb, hml, hown, hts⟩ (gM_refuses_0 l D cI cL cQ mo g q1 q3 q4 q5 q6 q11 z0 1 gr kd mk w10 w13 w14 _) (cwV 1 hts gX6_pair_X6_refuses rfl rfl rfl (by decide +kernel) ⟨Nat.le_of_ble_eq_true rfl, Nat.le_of_ble_eq_true rfl⟩) (jw_V hK hN hP hD [0] (by decide) rfl 6 0 rfl rfl rfl) rfl rfl hl.1 rfl (lv_room (Nat.le_of_ble_eq_true rfl)) dX6_pair_15 ⟨Nat.le_of_ble_eq_true rfl, Nat.le_of_ble_eq_true rfl⟩) hP hD hS hA [0] [1, 2, 3, 4] rfl rfl (by decide) (by decide) (fun r u H locs f_3 hP hD hS => ?_)
  obtain ⟨rfl, rfl⟩ := f_3
  have hP : va_P D vwCl [(q3, .inl (cI, 800, .inl m3)), (q4, .inl (cI, 800, .inl m4)), (q5, .inl (cI, 800, .inl m5)), (q11, .inl (cI, 24, .inl (jl [t0, t1, t2, t3, nI d0, nI d1, nI r0, nI r1, 0, 1, t10, t11, t12, t13, t14, t15, t16, t17, t18, t19, t20, t21, t22, t23]))), (mo, .inr (6, [.int 0, .ref q1, .int (nI g), .ref q3, .ref q4, .ref q5, .ref q6, .int 1, .int gr, .int kd, .long w10, .ref q11, .int mk, .long w13, .long w14]))] H := hP
  have hD : va_D A [(q3, .inl (cI, 800, .inl m3)), (q4, .inl (cI, 800, .inl m4)), (q5, .inl (cI, 800, .inl m5)), (q11, .inl (cI, 24, .inl (jl [t0, t1, t2, t3, nI d0, nI d1, nI r0, nI r1, 0, 1, t10, t11, t12, t13, t14, t15, t16, t17, t18, t19, t20, t21, t22, t23]))), (mo, .inr (6, [.int 0, .ref q1, .int (nI g), .ref q3, .ref q4, .ref q5, .ref q6, .int 1, .int gr, .int kd, .long w10, .ref q11, .int mk, .long w13, .long w14]))] := hD
  refine lv_if_eq (tgt := 23) hx hb dX6_pair_18 (by decide) (fun c_4 => ?_) (fun c_4 => absurd c_4 (by decide))
  refine lv_aload_n hx hb dX6_pair_23 rfl (lv_at hl 0 rfl) ?_
  refine va_get (D := D) (ci := 6) (v := .int 1) (C := RX6) (T := TX6) (N := 15) hx hb hts (by decide +kernel) hown hK hP 4 rfl rfl 7 (by decide) (hts (.fieldLink RX6 43 "JoinDeskModel" "prepared" "Z") (by decide +kernel)) (fun _ h9 => h9) rfl dX6_pair_24 ?_
  refine lv_if_eq (tgt := 45) hx hb dX6_pair_27 (by decide) (fun c_5 => absurd c_5 (by decide)) (fun c_5 => ?_)
  refine lv_aload_n hx hb dX6_pair_30 rfl (lv_at hl 0 rfl) ?_
  refine va_get (D := D) (ci := 6) (v := .ref q11) (C := RX6) (T := TX6) (N := 15) hx hb hts (by decide +kernel) hown hK hP 4 rfl rfl 11 (by decide) (hts (.fieldLink RX6 25 "JoinDeskModel" "at" "[I") (by decide +kernel)) (fun _ h9 => h9) rfl dX6_pair_31 ?_
  refine lv_bipush (v := 9) hx hb dX6_pair_34 (by decide) ?_
  refine va_iald hx hb hK hP 3 0 rfl rfl (by unfold vp_in; decide) dX6_pair_36 ?_
  refine W.eq (g2 := F0 m 37 ls [.int 1]) rfl ?_
  refine lv_iconst (v := 1) hx hb dX6_pair_37 (by decide) ?_
  refine lv_icmp_ne (tgt := 45) hx hb dX6_pair_38 (by decide) (fun c_6 => absurd c_6 (by decide)) (fun c_6 => ?_)
  refine lv_iconst (v := 1) hx hb dX6_pair_41 (by decide) ?_
  refine lv_goto (tgt := 46) hx hb dX6_pair_42 (by decide) ?_
  refine lv_istore_n (lv' := [(2, .int 1), (0, .ref mo), (1, .int 0)]) hx hb dX6_pair_46 rfl hl (by decide) rfl (fun ls hl => ?_)
  refine lv_iload_n hx hb dX6_pair_47 rfl (lv_at hl 2 rfl) ?_
  refine lv_iconst (v := 1) hx hb dX6_pair_48 (by decide) ?_
  refine lv_icmp_eq (tgt := 57) hx hb dX6_pair_49 (by decide) (fun c_7 => absurd c_7 (by decide)) (fun c_7 => ?_)
  refine lv_iload_n hx hb dX6_pair_52 rfl (lv_at hl 2 rfl) ?_
  refine lv_iconst (v := 3) hx hb dX6_pair_53 (by decide) ?_
  refine lv_icmp_ne (tgt := 61) hx hb dX6_pair_54 (by decide) (fun c_8 => ?_) (fun c_8 => absurd c_8 (by decide))
  refine lv_iconst (v := 1) hx hb dX6_pair_61 (by decide) ?_
  refine lv_istore_n (lv' := [(3, .int 1), (2, .int 1), (0, .ref mo), (1, .int 0)]) hx hb dX6_pair_62 rfl hl (by decide) rfl (fun ls hl => ?_)
  refine lv_iload_n hx hb dX6_pair_63 rfl (lv_at hl 3 rfl) ?_
  refine lv_if_ne (tgt := 114) hx hb dX6_pair_64 (by decide) (fun c_9 => absurd c_9 (by decide)) (fun c_9 => ?_)
  refine lv_iload_n hx hb dX6_pair_67 rfl (lv_at hl 1 rfl) ?_
  refine lv_if_ne (tgt := 75) hx hb dX6_pair_68 (by decide) (fun c_10 => ?_) (fun c_10 => absurd c_10 (by decide))
  refine lv_aload_n hx hb dX6_pair_75 rfl (lv_at hl 2 rfl) ?_
  refine va_get (D := D) (ci := 6) (v := .ref q11) (C := RX6) (T := TX6) (N := 15) hx hb hts (by decide +kernel) hown hK hP 4 rfl rfl 11 (by decide) (hts (.fieldLink RX6 25 "JoinDeskModel" "at" "[I") (by decide +kernel)) (fun _ h9 => h9) rfl dX6_pair_76 ?_
  refine lv_bipush (v := 8) hx hb dX6_pair_79 (by decide) ?_
  refine va_iald hx hb hK hP 3 0 rfl rfl (by unfold vp_in; decide) dX6_pair_81 ?_
  refine W.eq (g2 := F0 m 82 ls [.int 0]) rfl ?_
  refine lv_iconst (v := 2) hx hb dX6_pair_82 (by decide) ?_
  refine lv_icmp_ne (tgt := 101) hx hb dX6_pair_83 (by decide) (fun c_11 => ?_) (fun c_11 => absurd c_11 (by decide))
  refine lv_aload_n hx hb dX6_pair_101 rfl (lv_at hl 2 rfl) ?_
  refine lv_iconst (v := 0) hx hb dX6_pair_102 (by decide) ?_
  refine lv_aload_n hx hb dX6_pair_103 rfl (lv_at hl 2 rfl) ?_
  refine va_get (D := D) (ci := 6) (v := .ref q11) (C := RX6) (T := TX6) (N := 15) hx hb hts (by decide +kernel) hown hK hP 4 rfl rfl 11 (by decide) (hts (.fieldLink RX6 25 "JoinDeskModel" "at" "[I") (by decide +kernel)) (fun _ h9 => h9) rfl dX6_pair_104 ?_
  refine lv_bipush (v := 6) hx hb dX6_pair_107 (by decide) ?_
  refine va_iald hx hb hK hP 3 0 rfl rfl (by unfold vp_in; decide) dX6_pair_109 ?_
  refine W.eq (g2 := F0 m 110 ls [.int (nI r0), .int 0, .ref mo]) rfl ?_
  refine vp_callSi (va_Run.run (va_runV (As := [.int 0, .int (nI r0)]) (rest := []) ⟨hx, hb, hml, hown, hts⟩ (gM_key_0 l D cI cL cQ mo g q1 q3 q4 q5 q6 q11 0 1 gr kd mk w10 w13 w14 m3 m5 r0 (by first | assumption | decide | omega) (by omega)) (cwV 2 hts gX6_pair_X6_key rfl rfl rfl (by decide +kernel) ⟨Nat.le_of_ble_eq_true rfl, Nat.le_of_ble_eq_true rfl⟩) (jr_V hK hN hP [4, 0, 2] rfl 6 4 rfl rfl rfl) rfl rfl hl.1 rfl (lv_room (Nat.le_of_ble_eq_true rfl)) dX6_pair_110 ⟨Nat.le_of_ble_eq_true rfl, Nat.le_of_ble_eq_true rfl⟩)) (fun r f_12 => ?_)
  obtain rfl := f_12
  have hP := hP.sub (ws' := [(mo, .inr (6, [.int 0, .ref q1, .int (nI g), .ref q3, .ref q4, .ref q5, .ref q6, .int 1, .int gr, .int kd, .long w10, .ref q11, .int mk, .long w13, .long w14])), (q3, .inl (cI, 800, .inl m3)), (q4, .inl (cI, 800, .inl m4)), (q5, .inl (cI, 800, .inl m5)), (q11, .inl (cI, 24, .inl (jl [t0, t1, t2, t3, nI d0, nI d1, nI r0, nI r1, 0, 1, t10, t11, t12, t13, t14, t15, t16, t17, t18, t19, t20, t21, t22, t23])))]) [4, 0, 1, 2, 3] rfl
  have hD := hD.sub (ws' := [(mo, .inr (6, [.int 0, .ref q1, .int (nI g), .ref q3, .ref q4, .ref q5, .ref q6, .int 1, .int gr, .int kd, .long w10, .ref q11, .int mk, .long w13, .long w14])), (q3, .inl (cI, 800, .inl m3)), (q4, .inl (cI, 800, .inl m4)), (q5, .inl (cI, 800, .inl m5)), (q11, .inl (cI, 24, .inl (jl [t0, t1, t2, t3, nI d0, nI d1, nI r0, nI r1, 0, 1, t10, t11, t12, t13, t14, t15, t16, t17, t18, t19, t20, t21, t22, t23])))]) [4, 0, 1, 2, 3] (by decide) rfl
  refine W.widen (k := 0) (n := 0) (by omega) (by omega) ?_
  exact W.iret (v := jmk 0 m3 m5 r0) hx hb hr (fun t ht hW => ⟨⟨(jmk 0 m3 m5 r0), [(mo, .inr (6, [.int 0, .ref q1, .int (nI g), .ref q3, .ref q4, .ref q5, .ref q6, .int 1, .int gr, .int kd, .long w10, .ref q11, .int mk, .long w13, .long w14])), (q3, .inl (cI, 800, .inl m3)), (q4, .inl (cI, 800, .inl m4)), (q5, .inl (cI, 800, .inl m5)), (q11, .inl (cI, 24, .inl (jl [t0, t1, t2, t3, nI d0, nI d1, nI r0, nI r1, 0, 1, t10, t11, t12, t13, t14, t15, t16, t17, t18, t19, t20, t21, t22, t23])))], rfl, (⟨_, rfl, rfl⟩), by rw [ht]; exact hP, hD⟩, hS.F ht⟩) hS.2.2 dX6_pair_113
set_option maxHeartbeats 1000000 in
set_option maxRecDepth 100000 in
theorem gM_pair_10 (l : Launch) (D : va_G) (cI cL cQ : ClassId) (mo : Nat) (g : Nat) (q1 : Nat) (q3 : Nat) (q4 : Nat) (q5 : Nat) (q6 : Nat) (q11 : Nat) (z0 : Int32) (gr : Int32) (kd : Int32) (mk : Int32) (w10 : Int64) (w13 : Int64) (w14 : Int64) (m3 : Nat → Int32) (m4 : Nat → Int32) (m5 : Nat → Int32) (t0 : Int32) (t1 : Int32) (t2 : Int32) (t3 : Int32) (t5 : Int32) (t7 : Int32) (t10 : Int32) (t11 : Int32) (t12 : Int32) (t13 : Int32) (t14 : Int32) (t15 : Int32) (t16 : Int32) (t17 : Int32) (t18 : Int32) (t19 : Int32) (t20 : Int32) (t21 : Int32) (t22 : Int32) (t23 : Int32) (d0 : Nat) (r0 : Nat) (sz : Nat) (h5 : jo5 m5) (hr0 : r0 < d0) (hd0 : d0 ≤ 400) : Met l yX6_pair wsX6_pair ({ frames := 1, cells := 0, slots := 0, locals := 22 }) (jw_P D vwCl (jT cI cL cQ) cL cQ [.ref mo, .int 0] [(mo, .inr (6, [.int z0, .ref q1, .int (nI g), .ref q3, .ref q4, .ref q5, .ref q6, .int 1, .int gr, .int kd, .long w10, .ref q11, .int mk, .long w13, .long w14])), (q3, .inl (cI, 800, .inl m3)), (q4, .inl (cI, 800, .inl m4)), (q5, .inl (cI, 800, .inl m5)), (q11, .inl (cI, 24, .inl (jl [t0, t1, t2, t3, nI d0, t5, nI r0, t7, 1, 1, t10, t11, t12, t13, t14, t15, t16, t17, t18, t19, t20, t21, t22, t23])))] sz) (va_Qi (fun (r : Int32) (u : va_W) => ∃ (z9 : Int32), r = z9 ∧ u = [(mo, .inr (6, [.int 0, .ref q1, .int (nI g), .ref q3, .ref q4, .ref q5, .ref q6, .int 1, .int gr, .int kd, .long w10, .ref q11, .int mk, .long w13, .long w14])), (q3, .inl (cI, 800, .inl m3)), (q4, .inl (cI, 800, .inl m4)), (q5, .inl (cI, 800, .inl m5)), (q11, .inl (cI, 24, .inl (jl [t0, t1, t2, t3, nI d0, t5, nI r0, t7, 1, 1, t10, t11, t12, t13, t14, t15, t16, t17, t18, t19, t20, t21, t22, t23])))]) (jw_B D vwCl (va_A [(mo, .inr (6, [.int z0, .ref q1, .int (nI g), .ref q3, .ref q4, .ref q5, .ref q6, .int 1, .int gr, .int kd, .long w10, .ref q11, .int mk, .long w13, .long w14])), (q3, .inl (cI, 800, .inl m3)), (q4, .inl (cI, 800, .inl m4)), (q5, .inl (cI, 800, .inl m5)), (q11, .inl (cI, 24, .inl (jl [t0, t1, t2, t3, nI d0, t5, nI r0, t7, 1, 1, t10, t11, t12, t13, t14, t15, t16, t17, t18, t19, t20, t21, t22, t23])))] sz) (fun u : va_W => u)) (va_A [(mo, .inr (6, [.int z0, .ref q1, .int (nI g), .ref q3, .ref q4, .ref q5, .ref q6, .int 1, .int gr, .int kd, .long w10, .ref q11, .int mk, .long w13, .long w14])), (q3, .inl (cI, 800, .inl m3)), (q4, .inl (cI, 800, .inl m4)), (q5, .inl (cI, 800, .inl m5)), (q11, .inl (cI, 24, .inl (jl [t0, t1, t2, t3, nI d0, t5, nI r0, t7, 1, 1, t10, t11, t12, t13, t14, t15, t16, t17, t18, t19, t20, t21, t22, t23])))] sz)) 0 0 (va_A [(mo, .inr (6, [.int z0, .ref q1, .int (nI g), .ref q3, .ref q4, .ref q5, .ref q6, .int 1, .int gr, .int kd, .long w10, .ref q11, .int mk, .long w13, .long w14])), (q3, .inl (cI, 800, .inl m3)), (q4, .inl (cI, 800, .inl m4)), (q5, .inl (cI, 800, .inl m5)), (q11, .inl (cI, 24, .inl (jl [t0, t1, t2, t3, nI d0, t5, nI r0, t7, 1, 1, t10, t11, t12, t13, t14, t15, t16, t17, t18, t19, t20, t21, t22, t23])))] sz) := by
  refine Met.ofW (cc := cX6_pair) (maxL := 5) (ret := (some .int)) (by decide) rfl ?_
  intro p e s m args below meth c s₁ B hml hv
  obtain ⟨rfl, hsz, hP, hK, hN, hD0⟩ := hv
  have hx := B.exec
  have hb := B.bytes
  have hr := B.returns
  have hts := atoms_spec (ws := wsX6_pair) B.pre
  have hown : s.vm.findClass RX6 = some m.cls := findClass_of_methodNamed B.named
  have hlocks := B.notSynchronized
  subst hsz
  have hD := hD0.self (sz := s.heap.size)
  generalize hAe : va_A [(mo, .inr (6, [.int z0, .ref q1, .int (nI g), .ref q3, .ref q4, .ref q5, .ref q6, .int 1, .int gr, .int kd, .long w10, .ref q11, .int mk, .long w13, .long w14])), (q3, .inl (cI, 800, .inl m3)), (q4, .inl (cI, 800, .inl m4)), (q5, .inl (cI, 800, .inl m5)), (q11, .inl (cI, 24, .inl (jl [t0, t1, t2, t3, nI d0, t5, nI r0, t7, 1, 1, t10, t11, t12, t13, t14, t15, t16, t17, t18, t19, t20, t21, t22, t23])))] s.heap.size = A at hD ⊢
  have hA : ∀ q : Nat, s.heap.size ≤ q → A q := fun q h => by rw [← hAe]; exact Or.inr h
  have hS : va_S A s.heap s.heap [] := va_S.rf
  have hl := lv_entry ([.ref mo, .int 0]) (n := 5) (Nat.le_of_ble_eq_true rfl)
  rw [lg_entry_eq]
  generalize (lg_sl ([.ref mo, .int 0]) ++ List.replicate (5 - (lg_sl ([.ref mo, .int 0])).length) Slot.unset).toArray = ls at hl ⊢
  have hl : lv_has ls 5 [(0, .ref mo), (1, .int 0)] := hl
  refine lv_aload_n hx hb dX6_pair_0 rfl (lv_at hl 0 rfl) ?_
  refine lv_iload_n hx hb dX6_pair_1 rfl (lv_at hl 1 rfl) ?_
  refine lv_if_lt (tgt := 10) hx hb dX6_pair_2 (by decide) (fun c_1 => absurd c_1 (by decide)) (fun c_1 => ?_)
  refine lv_iload_n hx hb dX6_pair_5 rfl (lv_at hl 1 rfl) ?_
  refine lv_iconst (v := 4) hx hb dX6_pair_6 (by decide) ?_
  refine lv_icmp_le (tgt := 14) hx hb dX6_pair_7 (by decide) (fun c_2 => ?_) (fun c_2 => absurd c_2 (by decide))
  refine lv_iconst (v := 0) hx hb dX6_pair_14 (by decide) ?_
  refine jw_i (wr := [(q3, .inl (cI, 800, .inl m3)), (q4, .inl (cI, 800, .inl m4)), (q5, .inl (cI, 800, .inl m5)), (q11, .inl (cI, 24, .inl (jl [t0, t1, t2, t3, nI d0, t5, nI r0, t7, 1, 1, t10, t11, t12, t13, t14, t15, t16, t17, t18, t19, t20, t21, t22, t23])))]) (va_runV (As := [.int 0]) (rest := []) ⟨hx, hb, hml, hown, hts⟩ (gM_refuses_0 l D cI cL cQ mo g q1 q3 q4 q5 q6 q11 z0 1 gr kd mk w10 w13 w14 _) (cwV 1 hts gX6_pair_X6_refuses rfl rfl rfl (by decide +kernel) ⟨Nat.le_of_ble_eq_true rfl, Nat.le_of_ble_eq_true rfl⟩) (jw_V hK hN hP hD [0] (by decide) rfl 6 0 rfl rfl rfl) rfl rfl hl.1 rfl (lv_room (Nat.le_of_ble_eq_true rfl)) dX6_pair_15 ⟨Nat.le_of_ble_eq_true rfl, Nat.le_of_ble_eq_true rfl⟩) hP hD hS hA [0] [1, 2, 3, 4] rfl rfl (by decide) (by decide) (fun r u H locs f_3 hP hD hS => ?_)
  obtain ⟨rfl, rfl⟩ := f_3
  have hP : va_P D vwCl [(q3, .inl (cI, 800, .inl m3)), (q4, .inl (cI, 800, .inl m4)), (q5, .inl (cI, 800, .inl m5)), (q11, .inl (cI, 24, .inl (jl [t0, t1, t2, t3, nI d0, t5, nI r0, t7, 1, 1, t10, t11, t12, t13, t14, t15, t16, t17, t18, t19, t20, t21, t22, t23]))), (mo, .inr (6, [.int 0, .ref q1, .int (nI g), .ref q3, .ref q4, .ref q5, .ref q6, .int 1, .int gr, .int kd, .long w10, .ref q11, .int mk, .long w13, .long w14]))] H := hP
  have hD : va_D A [(q3, .inl (cI, 800, .inl m3)), (q4, .inl (cI, 800, .inl m4)), (q5, .inl (cI, 800, .inl m5)), (q11, .inl (cI, 24, .inl (jl [t0, t1, t2, t3, nI d0, t5, nI r0, t7, 1, 1, t10, t11, t12, t13, t14, t15, t16, t17, t18, t19, t20, t21, t22, t23]))), (mo, .inr (6, [.int 0, .ref q1, .int (nI g), .ref q3, .ref q4, .ref q5, .ref q6, .int 1, .int gr, .int kd, .long w10, .ref q11, .int mk, .long w13, .long w14]))] := hD
  refine lv_if_eq (tgt := 23) hx hb dX6_pair_18 (by decide) (fun c_4 => ?_) (fun c_4 => absurd c_4 (by decide))
  refine lv_aload_n hx hb dX6_pair_23 rfl (lv_at hl 0 rfl) ?_
  refine va_get (D := D) (ci := 6) (v := .int 1) (C := RX6) (T := TX6) (N := 15) hx hb hts (by decide +kernel) hown hK hP 4 rfl rfl 7 (by decide) (hts (.fieldLink RX6 43 "JoinDeskModel" "prepared" "Z") (by decide +kernel)) (fun _ h9 => h9) rfl dX6_pair_24 ?_
  refine lv_if_eq (tgt := 45) hx hb dX6_pair_27 (by decide) (fun c_5 => absurd c_5 (by decide)) (fun c_5 => ?_)
  refine lv_aload_n hx hb dX6_pair_30 rfl (lv_at hl 0 rfl) ?_
  refine va_get (D := D) (ci := 6) (v := .ref q11) (C := RX6) (T := TX6) (N := 15) hx hb hts (by decide +kernel) hown hK hP 4 rfl rfl 11 (by decide) (hts (.fieldLink RX6 25 "JoinDeskModel" "at" "[I") (by decide +kernel)) (fun _ h9 => h9) rfl dX6_pair_31 ?_
  refine lv_bipush (v := 9) hx hb dX6_pair_34 (by decide) ?_
  refine va_iald hx hb hK hP 3 0 rfl rfl (by unfold vp_in; decide) dX6_pair_36 ?_
  refine W.eq (g2 := F0 m 37 ls [.int 1]) rfl ?_
  refine lv_iconst (v := 1) hx hb dX6_pair_37 (by decide) ?_
  refine lv_icmp_ne (tgt := 45) hx hb dX6_pair_38 (by decide) (fun c_6 => absurd c_6 (by decide)) (fun c_6 => ?_)
  refine lv_iconst (v := 1) hx hb dX6_pair_41 (by decide) ?_
  refine lv_goto (tgt := 46) hx hb dX6_pair_42 (by decide) ?_
  refine lv_istore_n (lv' := [(2, .int 1), (0, .ref mo), (1, .int 0)]) hx hb dX6_pair_46 rfl hl (by decide) rfl (fun ls hl => ?_)
  refine lv_iload_n hx hb dX6_pair_47 rfl (lv_at hl 2 rfl) ?_
  refine lv_iconst (v := 1) hx hb dX6_pair_48 (by decide) ?_
  refine lv_icmp_eq (tgt := 57) hx hb dX6_pair_49 (by decide) (fun c_7 => absurd c_7 (by decide)) (fun c_7 => ?_)
  refine lv_iload_n hx hb dX6_pair_52 rfl (lv_at hl 2 rfl) ?_
  refine lv_iconst (v := 3) hx hb dX6_pair_53 (by decide) ?_
  refine lv_icmp_ne (tgt := 61) hx hb dX6_pair_54 (by decide) (fun c_8 => ?_) (fun c_8 => absurd c_8 (by decide))
  refine lv_iconst (v := 1) hx hb dX6_pair_61 (by decide) ?_
  refine lv_istore_n (lv' := [(3, .int 1), (2, .int 1), (0, .ref mo), (1, .int 0)]) hx hb dX6_pair_62 rfl hl (by decide) rfl (fun ls hl => ?_)
  refine lv_iload_n hx hb dX6_pair_63 rfl (lv_at hl 3 rfl) ?_
  refine lv_if_ne (tgt := 114) hx hb dX6_pair_64 (by decide) (fun c_9 => absurd c_9 (by decide)) (fun c_9 => ?_)
  refine lv_iload_n hx hb dX6_pair_67 rfl (lv_at hl 1 rfl) ?_
  refine lv_if_ne (tgt := 75) hx hb dX6_pair_68 (by decide) (fun c_10 => ?_) (fun c_10 => absurd c_10 (by decide))
  refine lv_aload_n hx hb dX6_pair_75 rfl (lv_at hl 2 rfl) ?_
  refine va_get (D := D) (ci := 6) (v := .ref q11) (C := RX6) (T := TX6) (N := 15) hx hb hts (by decide +kernel) hown hK hP 4 rfl rfl 11 (by decide) (hts (.fieldLink RX6 25 "JoinDeskModel" "at" "[I") (by decide +kernel)) (fun _ h9 => h9) rfl dX6_pair_76 ?_
  refine lv_bipush (v := 8) hx hb dX6_pair_79 (by decide) ?_
  refine va_iald hx hb hK hP 3 0 rfl rfl (by unfold vp_in; decide) dX6_pair_81 ?_
  refine W.eq (g2 := F0 m 82 ls [.int 1]) rfl ?_
  refine lv_iconst (v := 2) hx hb dX6_pair_82 (by decide) ?_
  refine lv_icmp_ne (tgt := 101) hx hb dX6_pair_83 (by decide) (fun c_11 => ?_) (fun c_11 => absurd c_11 (by decide))
  refine lv_aload_n hx hb dX6_pair_101 rfl (lv_at hl 2 rfl) ?_
  refine lv_iconst (v := 0) hx hb dX6_pair_102 (by decide) ?_
  refine lv_aload_n hx hb dX6_pair_103 rfl (lv_at hl 2 rfl) ?_
  refine va_get (D := D) (ci := 6) (v := .ref q11) (C := RX6) (T := TX6) (N := 15) hx hb hts (by decide +kernel) hown hK hP 4 rfl rfl 11 (by decide) (hts (.fieldLink RX6 25 "JoinDeskModel" "at" "[I") (by decide +kernel)) (fun _ h9 => h9) rfl dX6_pair_104 ?_
  refine lv_bipush (v := 6) hx hb dX6_pair_107 (by decide) ?_
  refine va_iald hx hb hK hP 3 0 rfl rfl (by unfold vp_in; decide) dX6_pair_109 ?_
  refine W.eq (g2 := F0 m 110 ls [.int (nI r0), .int 0, .ref mo]) rfl ?_
  refine vp_callSi (va_Run.run (va_runV (As := [.int 0, .int (nI r0)]) (rest := []) ⟨hx, hb, hml, hown, hts⟩ (gM_key_0 l D cI cL cQ mo g q1 q3 q4 q5 q6 q11 0 1 gr kd mk w10 w13 w14 m3 m5 r0 (by first | assumption | decide | omega) (by omega)) (cwV 2 hts gX6_pair_X6_key rfl rfl rfl (by decide +kernel) ⟨Nat.le_of_ble_eq_true rfl, Nat.le_of_ble_eq_true rfl⟩) (jr_V hK hN hP [4, 0, 2] rfl 6 4 rfl rfl rfl) rfl rfl hl.1 rfl (lv_room (Nat.le_of_ble_eq_true rfl)) dX6_pair_110 ⟨Nat.le_of_ble_eq_true rfl, Nat.le_of_ble_eq_true rfl⟩)) (fun r f_12 => ?_)
  obtain rfl := f_12
  have hP := hP.sub (ws' := [(mo, .inr (6, [.int 0, .ref q1, .int (nI g), .ref q3, .ref q4, .ref q5, .ref q6, .int 1, .int gr, .int kd, .long w10, .ref q11, .int mk, .long w13, .long w14])), (q3, .inl (cI, 800, .inl m3)), (q4, .inl (cI, 800, .inl m4)), (q5, .inl (cI, 800, .inl m5)), (q11, .inl (cI, 24, .inl (jl [t0, t1, t2, t3, nI d0, t5, nI r0, t7, 1, 1, t10, t11, t12, t13, t14, t15, t16, t17, t18, t19, t20, t21, t22, t23])))]) [4, 0, 1, 2, 3] rfl
  have hD := hD.sub (ws' := [(mo, .inr (6, [.int 0, .ref q1, .int (nI g), .ref q3, .ref q4, .ref q5, .ref q6, .int 1, .int gr, .int kd, .long w10, .ref q11, .int mk, .long w13, .long w14])), (q3, .inl (cI, 800, .inl m3)), (q4, .inl (cI, 800, .inl m4)), (q5, .inl (cI, 800, .inl m5)), (q11, .inl (cI, 24, .inl (jl [t0, t1, t2, t3, nI d0, t5, nI r0, t7, 1, 1, t10, t11, t12, t13, t14, t15, t16, t17, t18, t19, t20, t21, t22, t23])))]) [4, 0, 1, 2, 3] (by decide) rfl
  refine W.widen (k := 0) (n := 0) (by omega) (by omega) ?_
  exact W.iret (v := jmk 0 m3 m5 r0) hx hb hr (fun t ht hW => ⟨⟨(jmk 0 m3 m5 r0), [(mo, .inr (6, [.int 0, .ref q1, .int (nI g), .ref q3, .ref q4, .ref q5, .ref q6, .int 1, .int gr, .int kd, .long w10, .ref q11, .int mk, .long w13, .long w14])), (q3, .inl (cI, 800, .inl m3)), (q4, .inl (cI, 800, .inl m4)), (q5, .inl (cI, 800, .inl m5)), (q11, .inl (cI, 24, .inl (jl [t0, t1, t2, t3, nI d0, t5, nI r0, t7, 1, 1, t10, t11, t12, t13, t14, t15, t16, t17, t18, t19, t20, t21, t22, t23])))], rfl, (⟨_, rfl, rfl⟩), by rw [ht]; exact hP, hD⟩, hS.F ht⟩) hS.2.2 dX6_pair_113
set_option maxHeartbeats 1000000 in
set_option maxRecDepth 100000 in
theorem gM_pair_20 (l : Launch) (D : va_G) (cI cL cQ : ClassId) (mo : Nat) (g : Nat) (q1 : Nat) (q3 : Nat) (q4 : Nat) (q5 : Nat) (q6 : Nat) (q11 : Nat) (z0 : Int32) (gr : Int32) (kd : Int32) (mk : Int32) (w10 : Int64) (w13 : Int64) (w14 : Int64) (m3 : Nat → Int32) (m4 : Nat → Int32) (m5 : Nat → Int32) (t0 : Int32) (t1 : Int32) (t2 : Int32) (t3 : Int32) (t4 : Int32) (t6 : Int32) (t10 : Int32) (t11 : Int32) (t12 : Int32) (t13 : Int32) (t14 : Int32) (t15 : Int32) (t16 : Int32) (t17 : Int32) (t18 : Int32) (t19 : Int32) (t20 : Int32) (t21 : Int32) (t22 : Int32) (t23 : Int32) (d1 : Nat) (r1 : Nat) (sz : Nat) (h5 : jo5 m5) (hr1 : r1 < d1) (hd1 : d1 ≤ 400) : Met l yX6_pair wsX6_pair ({ frames := 1, cells := 0, slots := 0, locals := 22 }) (jw_P D vwCl (jT cI cL cQ) cL cQ [.ref mo, .int 0] [(mo, .inr (6, [.int z0, .ref q1, .int (nI g), .ref q3, .ref q4, .ref q5, .ref q6, .int 1, .int gr, .int kd, .long w10, .ref q11, .int mk, .long w13, .long w14])), (q3, .inl (cI, 800, .inl m3)), (q4, .inl (cI, 800, .inl m4)), (q5, .inl (cI, 800, .inl m5)), (q11, .inl (cI, 24, .inl (jl [t0, t1, t2, t3, t4, nI d1, t6, nI r1, 2, 1, t10, t11, t12, t13, t14, t15, t16, t17, t18, t19, t20, t21, t22, t23])))] sz) (va_Qi (fun (r : Int32) (u : va_W) => ∃ (z9 : Int32), r = z9 ∧ u = [(mo, .inr (6, [.int 0, .ref q1, .int (nI g), .ref q3, .ref q4, .ref q5, .ref q6, .int 1, .int gr, .int kd, .long w10, .ref q11, .int mk, .long w13, .long w14])), (q3, .inl (cI, 800, .inl m3)), (q4, .inl (cI, 800, .inl m4)), (q5, .inl (cI, 800, .inl m5)), (q11, .inl (cI, 24, .inl (jl [t0, t1, t2, t3, t4, nI d1, t6, nI r1, 2, 1, t10, t11, t12, t13, t14, t15, t16, t17, t18, t19, t20, t21, t22, t23])))]) (jw_B D vwCl (va_A [(mo, .inr (6, [.int z0, .ref q1, .int (nI g), .ref q3, .ref q4, .ref q5, .ref q6, .int 1, .int gr, .int kd, .long w10, .ref q11, .int mk, .long w13, .long w14])), (q3, .inl (cI, 800, .inl m3)), (q4, .inl (cI, 800, .inl m4)), (q5, .inl (cI, 800, .inl m5)), (q11, .inl (cI, 24, .inl (jl [t0, t1, t2, t3, t4, nI d1, t6, nI r1, 2, 1, t10, t11, t12, t13, t14, t15, t16, t17, t18, t19, t20, t21, t22, t23])))] sz) (fun u : va_W => u)) (va_A [(mo, .inr (6, [.int z0, .ref q1, .int (nI g), .ref q3, .ref q4, .ref q5, .ref q6, .int 1, .int gr, .int kd, .long w10, .ref q11, .int mk, .long w13, .long w14])), (q3, .inl (cI, 800, .inl m3)), (q4, .inl (cI, 800, .inl m4)), (q5, .inl (cI, 800, .inl m5)), (q11, .inl (cI, 24, .inl (jl [t0, t1, t2, t3, t4, nI d1, t6, nI r1, 2, 1, t10, t11, t12, t13, t14, t15, t16, t17, t18, t19, t20, t21, t22, t23])))] sz)) 0 0 (va_A [(mo, .inr (6, [.int z0, .ref q1, .int (nI g), .ref q3, .ref q4, .ref q5, .ref q6, .int 1, .int gr, .int kd, .long w10, .ref q11, .int mk, .long w13, .long w14])), (q3, .inl (cI, 800, .inl m3)), (q4, .inl (cI, 800, .inl m4)), (q5, .inl (cI, 800, .inl m5)), (q11, .inl (cI, 24, .inl (jl [t0, t1, t2, t3, t4, nI d1, t6, nI r1, 2, 1, t10, t11, t12, t13, t14, t15, t16, t17, t18, t19, t20, t21, t22, t23])))] sz) := by
  refine Met.ofW (cc := cX6_pair) (maxL := 5) (ret := (some .int)) (by decide) rfl ?_
  intro p e s m args below meth c s₁ B hml hv
  obtain ⟨rfl, hsz, hP, hK, hN, hD0⟩ := hv
  have hx := B.exec
  have hb := B.bytes
  have hr := B.returns
  have hts := atoms_spec (ws := wsX6_pair) B.pre
  have hown : s.vm.findClass RX6 = some m.cls := findClass_of_methodNamed B.named
  have hlocks := B.notSynchronized
  subst hsz
  have hD := hD0.self (sz := s.heap.size)
  generalize hAe : va_A [(mo, .inr (6, [.int z0, .ref q1, .int (nI g), .ref q3, .ref q4, .ref q5, .ref q6, .int 1, .int gr, .int kd, .long w10, .ref q11, .int mk, .long w13, .long w14])), (q3, .inl (cI, 800, .inl m3)), (q4, .inl (cI, 800, .inl m4)), (q5, .inl (cI, 800, .inl m5)), (q11, .inl (cI, 24, .inl (jl [t0, t1, t2, t3, t4, nI d1, t6, nI r1, 2, 1, t10, t11, t12, t13, t14, t15, t16, t17, t18, t19, t20, t21, t22, t23])))] s.heap.size = A at hD ⊢
  have hA : ∀ q : Nat, s.heap.size ≤ q → A q := fun q h => by rw [← hAe]; exact Or.inr h
  have hS : va_S A s.heap s.heap [] := va_S.rf
  have hl := lv_entry ([.ref mo, .int 0]) (n := 5) (Nat.le_of_ble_eq_true rfl)
  rw [lg_entry_eq]
  generalize (lg_sl ([.ref mo, .int 0]) ++ List.replicate (5 - (lg_sl ([.ref mo, .int 0])).length) Slot.unset).toArray = ls at hl ⊢
  have hl : lv_has ls 5 [(0, .ref mo), (1, .int 0)] := hl
  refine lv_aload_n hx hb dX6_pair_0 rfl (lv_at hl 0 rfl) ?_
  refine lv_iload_n hx hb dX6_pair_1 rfl (lv_at hl 1 rfl) ?_
  refine lv_if_lt (tgt := 10) hx hb dX6_pair_2 (by decide) (fun c_1 => absurd c_1 (by decide)) (fun c_1 => ?_)
  refine lv_iload_n hx hb dX6_pair_5 rfl (lv_at hl 1 rfl) ?_
  refine lv_iconst (v := 4) hx hb dX6_pair_6 (by decide) ?_
  refine lv_icmp_le (tgt := 14) hx hb dX6_pair_7 (by decide) (fun c_2 => ?_) (fun c_2 => absurd c_2 (by decide))
  refine lv_iconst (v := 0) hx hb dX6_pair_14 (by decide) ?_
  refine jw_i (wr := [(q3, .inl (cI, 800, .inl m3)), (q4, .inl (cI, 800, .inl m4)), (q5, .inl (cI, 800, .inl m5)), (q11, .inl (cI, 24, .inl (jl [t0, t1, t2, t3, t4, nI d1, t6, nI r1, 2, 1, t10, t11, t12, t13, t14, t15, t16, t17, t18, t19, t20, t21, t22, t23])))]) (va_runV (As := [.int 0]) (rest := []) ⟨hx, hb, hml, hown, hts⟩ (gM_refuses_0 l D cI cL cQ mo g q1 q3 q4 q5 q6 q11 z0 1 gr kd mk w10 w13 w14 _) (cwV 1 hts gX6_pair_X6_refuses rfl rfl rfl (by decide +kernel) ⟨Nat.le_of_ble_eq_true rfl, Nat.le_of_ble_eq_true rfl⟩) (jw_V hK hN hP hD [0] (by decide) rfl 6 0 rfl rfl rfl) rfl rfl hl.1 rfl (lv_room (Nat.le_of_ble_eq_true rfl)) dX6_pair_15 ⟨Nat.le_of_ble_eq_true rfl, Nat.le_of_ble_eq_true rfl⟩) hP hD hS hA [0] [1, 2, 3, 4] rfl rfl (by decide) (by decide) (fun r u H locs f_3 hP hD hS => ?_)
  obtain ⟨rfl, rfl⟩ := f_3
  have hP : va_P D vwCl [(q3, .inl (cI, 800, .inl m3)), (q4, .inl (cI, 800, .inl m4)), (q5, .inl (cI, 800, .inl m5)), (q11, .inl (cI, 24, .inl (jl [t0, t1, t2, t3, t4, nI d1, t6, nI r1, 2, 1, t10, t11, t12, t13, t14, t15, t16, t17, t18, t19, t20, t21, t22, t23]))), (mo, .inr (6, [.int 0, .ref q1, .int (nI g), .ref q3, .ref q4, .ref q5, .ref q6, .int 1, .int gr, .int kd, .long w10, .ref q11, .int mk, .long w13, .long w14]))] H := hP
  have hD : va_D A [(q3, .inl (cI, 800, .inl m3)), (q4, .inl (cI, 800, .inl m4)), (q5, .inl (cI, 800, .inl m5)), (q11, .inl (cI, 24, .inl (jl [t0, t1, t2, t3, t4, nI d1, t6, nI r1, 2, 1, t10, t11, t12, t13, t14, t15, t16, t17, t18, t19, t20, t21, t22, t23]))), (mo, .inr (6, [.int 0, .ref q1, .int (nI g), .ref q3, .ref q4, .ref q5, .ref q6, .int 1, .int gr, .int kd, .long w10, .ref q11, .int mk, .long w13, .long w14]))] := hD
  refine lv_if_eq (tgt := 23) hx hb dX6_pair_18 (by decide) (fun c_4 => ?_) (fun c_4 => absurd c_4 (by decide))
  refine lv_aload_n hx hb dX6_pair_23 rfl (lv_at hl 0 rfl) ?_
  refine va_get (D := D) (ci := 6) (v := .int 1) (C := RX6) (T := TX6) (N := 15) hx hb hts (by decide +kernel) hown hK hP 4 rfl rfl 7 (by decide) (hts (.fieldLink RX6 43 "JoinDeskModel" "prepared" "Z") (by decide +kernel)) (fun _ h9 => h9) rfl dX6_pair_24 ?_
  refine lv_if_eq (tgt := 45) hx hb dX6_pair_27 (by decide) (fun c_5 => absurd c_5 (by decide)) (fun c_5 => ?_)
  refine lv_aload_n hx hb dX6_pair_30 rfl (lv_at hl 0 rfl) ?_
  refine va_get (D := D) (ci := 6) (v := .ref q11) (C := RX6) (T := TX6) (N := 15) hx hb hts (by decide +kernel) hown hK hP 4 rfl rfl 11 (by decide) (hts (.fieldLink RX6 25 "JoinDeskModel" "at" "[I") (by decide +kernel)) (fun _ h9 => h9) rfl dX6_pair_31 ?_
  refine lv_bipush (v := 9) hx hb dX6_pair_34 (by decide) ?_
  refine va_iald hx hb hK hP 3 0 rfl rfl (by unfold vp_in; decide) dX6_pair_36 ?_
  refine W.eq (g2 := F0 m 37 ls [.int 1]) rfl ?_
  refine lv_iconst (v := 1) hx hb dX6_pair_37 (by decide) ?_
  refine lv_icmp_ne (tgt := 45) hx hb dX6_pair_38 (by decide) (fun c_6 => absurd c_6 (by decide)) (fun c_6 => ?_)
  refine lv_iconst (v := 1) hx hb dX6_pair_41 (by decide) ?_
  refine lv_goto (tgt := 46) hx hb dX6_pair_42 (by decide) ?_
  refine lv_istore_n (lv' := [(2, .int 1), (0, .ref mo), (1, .int 0)]) hx hb dX6_pair_46 rfl hl (by decide) rfl (fun ls hl => ?_)
  refine lv_iload_n hx hb dX6_pair_47 rfl (lv_at hl 2 rfl) ?_
  refine lv_iconst (v := 1) hx hb dX6_pair_48 (by decide) ?_
  refine lv_icmp_eq (tgt := 57) hx hb dX6_pair_49 (by decide) (fun c_7 => absurd c_7 (by decide)) (fun c_7 => ?_)
  refine lv_iload_n hx hb dX6_pair_52 rfl (lv_at hl 2 rfl) ?_
  refine lv_iconst (v := 3) hx hb dX6_pair_53 (by decide) ?_
  refine lv_icmp_ne (tgt := 61) hx hb dX6_pair_54 (by decide) (fun c_8 => ?_) (fun c_8 => absurd c_8 (by decide))
  refine lv_iconst (v := 1) hx hb dX6_pair_61 (by decide) ?_
  refine lv_istore_n (lv' := [(3, .int 1), (2, .int 1), (0, .ref mo), (1, .int 0)]) hx hb dX6_pair_62 rfl hl (by decide) rfl (fun ls hl => ?_)
  refine lv_iload_n hx hb dX6_pair_63 rfl (lv_at hl 3 rfl) ?_
  refine lv_if_ne (tgt := 114) hx hb dX6_pair_64 (by decide) (fun c_9 => absurd c_9 (by decide)) (fun c_9 => ?_)
  refine lv_iload_n hx hb dX6_pair_67 rfl (lv_at hl 1 rfl) ?_
  refine lv_if_ne (tgt := 75) hx hb dX6_pair_68 (by decide) (fun c_10 => ?_) (fun c_10 => absurd c_10 (by decide))
  refine lv_aload_n hx hb dX6_pair_75 rfl (lv_at hl 2 rfl) ?_
  refine va_get (D := D) (ci := 6) (v := .ref q11) (C := RX6) (T := TX6) (N := 15) hx hb hts (by decide +kernel) hown hK hP 4 rfl rfl 11 (by decide) (hts (.fieldLink RX6 25 "JoinDeskModel" "at" "[I") (by decide +kernel)) (fun _ h9 => h9) rfl dX6_pair_76 ?_
  refine lv_bipush (v := 8) hx hb dX6_pair_79 (by decide) ?_
  refine va_iald hx hb hK hP 3 0 rfl rfl (by unfold vp_in; decide) dX6_pair_81 ?_
  refine W.eq (g2 := F0 m 82 ls [.int 2]) rfl ?_
  refine lv_iconst (v := 2) hx hb dX6_pair_82 (by decide) ?_
  refine lv_icmp_ne (tgt := 101) hx hb dX6_pair_83 (by decide) (fun c_11 => absurd c_11 (by decide)) (fun c_11 => ?_)
  refine lv_aload_n hx hb dX6_pair_86 rfl (lv_at hl 2 rfl) ?_
  refine lv_iconst (v := 1) hx hb dX6_pair_87 (by decide) ?_
  refine lv_aload_n hx hb dX6_pair_88 rfl (lv_at hl 2 rfl) ?_
  refine va_get (D := D) (ci := 6) (v := .ref q11) (C := RX6) (T := TX6) (N := 15) hx hb hts (by decide +kernel) hown hK hP 4 rfl rfl 11 (by decide) (hts (.fieldLink RX6 25 "JoinDeskModel" "at" "[I") (by decide +kernel)) (fun _ h9 => h9) rfl dX6_pair_89 ?_
  refine lv_bipush (v := 7) hx hb dX6_pair_92 (by decide) ?_
  refine va_iald hx hb hK hP 3 0 rfl rfl (by unfold vp_in; decide) dX6_pair_94 ?_
  refine W.eq (g2 := F0 m 95 ls [.int (nI r1), .int 1, .ref mo]) rfl ?_
  refine vp_callSi (va_Run.run (va_runV (As := [.int 1, .int (nI r1)]) (rest := []) ⟨hx, hb, hml, hown, hts⟩ (gM_key_1 l D cI cL cQ mo g q1 q3 q4 q5 q6 q11 0 1 gr kd mk w10 w13 w14 m3 m5 r1 (by first | assumption | decide | omega) (by omega)) (cwV 2 hts gX6_pair_X6_key rfl rfl rfl (by decide +kernel) ⟨Nat.le_of_ble_eq_true rfl, Nat.le_of_ble_eq_true rfl⟩) (jr_V hK hN hP [4, 0, 2] rfl 6 4 rfl rfl rfl) rfl rfl hl.1 rfl (lv_room (Nat.le_of_ble_eq_true rfl)) dX6_pair_95 ⟨Nat.le_of_ble_eq_true rfl, Nat.le_of_ble_eq_true rfl⟩)) (fun r f_12 => ?_)
  obtain rfl := f_12
  refine lv_goto (tgt := 113) hx hb dX6_pair_98 (by decide) ?_
  have hP := hP.sub (ws' := [(mo, .inr (6, [.int 0, .ref q1, .int (nI g), .ref q3, .ref q4, .ref q5, .ref q6, .int 1, .int gr, .int kd, .long w10, .ref q11, .int mk, .long w13, .long w14])), (q3, .inl (cI, 800, .inl m3)), (q4, .inl (cI, 800, .inl m4)), (q5, .inl (cI, 800, .inl m5)), (q11, .inl (cI, 24, .inl (jl [t0, t1, t2, t3, t4, nI d1, t6, nI r1, 2, 1, t10, t11, t12, t13, t14, t15, t16, t17, t18, t19, t20, t21, t22, t23])))]) [4, 0, 1, 2, 3] rfl
  have hD := hD.sub (ws' := [(mo, .inr (6, [.int 0, .ref q1, .int (nI g), .ref q3, .ref q4, .ref q5, .ref q6, .int 1, .int gr, .int kd, .long w10, .ref q11, .int mk, .long w13, .long w14])), (q3, .inl (cI, 800, .inl m3)), (q4, .inl (cI, 800, .inl m4)), (q5, .inl (cI, 800, .inl m5)), (q11, .inl (cI, 24, .inl (jl [t0, t1, t2, t3, t4, nI d1, t6, nI r1, 2, 1, t10, t11, t12, t13, t14, t15, t16, t17, t18, t19, t20, t21, t22, t23])))]) [4, 0, 1, 2, 3] (by decide) rfl
  refine W.widen (k := 0) (n := 0) (by omega) (by omega) ?_
  exact W.iret (v := jmk 400 m3 m5 r1) hx hb hr (fun t ht hW => ⟨⟨(jmk 400 m3 m5 r1), [(mo, .inr (6, [.int 0, .ref q1, .int (nI g), .ref q3, .ref q4, .ref q5, .ref q6, .int 1, .int gr, .int kd, .long w10, .ref q11, .int mk, .long w13, .long w14])), (q3, .inl (cI, 800, .inl m3)), (q4, .inl (cI, 800, .inl m4)), (q5, .inl (cI, 800, .inl m5)), (q11, .inl (cI, 24, .inl (jl [t0, t1, t2, t3, t4, nI d1, t6, nI r1, 2, 1, t10, t11, t12, t13, t14, t15, t16, t17, t18, t19, t20, t21, t22, t23])))], rfl, (⟨_, rfl, rfl⟩), by rw [ht]; exact hP, hD⟩, hS.F ht⟩) hS.2.2 dX6_pair_113
set_option maxHeartbeats 1000000 in
set_option maxRecDepth 100000 in
theorem gM_pair_p1 (l : Launch) (D : va_G) (cI cL cQ : ClassId) (mo : Nat) (g : Nat) (q1 : Nat) (q3 : Nat) (q4 : Nat) (q5 : Nat) (q6 : Nat) (q11 : Nat) (z0 : Int32) (gr : Int32) (kd : Int32) (mk : Int32) (w10 : Int64) (w13 : Int64) (w14 : Int64) (sz : Nat) : Met l yX6_pair wsX6_pair ({ frames := 1, cells := 0, slots := 0, locals := 21 }) (jw_P D vwCl (jT cI cL cQ) cL cQ [.ref mo, .int 1] [(mo, .inr (6, [.int z0, .ref q1, .int (nI g), .ref q3, .ref q4, .ref q5, .ref q6, .int 0, .int gr, .int kd, .long w10, .ref q11, .int mk, .long w13, .long w14]))] sz) (va_Qi (fun (r : Int32) (u : va_W) => r = 0 ∧ u = [(mo, .inr (6, [.int 0, .ref q1, .int (nI g), .ref q3, .ref q4, .ref q5, .ref q6, .int 0, .int gr, .int kd, .long w10, .ref q11, .int mk, .long w13, .long w14]))]) (jw_B D vwCl (va_A [(mo, .inr (6, [.int z0, .ref q1, .int (nI g), .ref q3, .ref q4, .ref q5, .ref q6, .int 0, .int gr, .int kd, .long w10, .ref q11, .int mk, .long w13, .long w14]))] sz) (fun u : va_W => u)) (va_A [(mo, .inr (6, [.int z0, .ref q1, .int (nI g), .ref q3, .ref q4, .ref q5, .ref q6, .int 0, .int gr, .int kd, .long w10, .ref q11, .int mk, .long w13, .long w14]))] sz)) 0 0 (va_A [(mo, .inr (6, [.int z0, .ref q1, .int (nI g), .ref q3, .ref q4, .ref q5, .ref q6, .int 0, .int gr, .int kd, .long w10, .ref q11, .int mk, .long w13, .long w14]))] sz) := by
  refine Met.ofW (cc := cX6_pair) (maxL := 5) (ret := (some .int)) (by decide) rfl ?_
  intro p e s m args below meth c s₁ B hml hv
  obtain ⟨rfl, hsz, hP, hK, hN, hD0⟩ := hv
  have hx := B.exec
  have hb := B.bytes
  have hr := B.returns
  have hts := atoms_spec (ws := wsX6_pair) B.pre
  have hown : s.vm.findClass RX6 = some m.cls := findClass_of_methodNamed B.named
  have hlocks := B.notSynchronized
  subst hsz
  have hD := hD0.self (sz := s.heap.size)
  generalize hAe : va_A [(mo, .inr (6, [.int z0, .ref q1, .int (nI g), .ref q3, .ref q4, .ref q5, .ref q6, .int 0, .int gr, .int kd, .long w10, .ref q11, .int mk, .long w13, .long w14]))] s.heap.size = A at hD ⊢
  have hA : ∀ q : Nat, s.heap.size ≤ q → A q := fun q h => by rw [← hAe]; exact Or.inr h
  have hS : va_S A s.heap s.heap [] := va_S.rf
  have hl := lv_entry ([.ref mo, .int 1]) (n := 5) (Nat.le_of_ble_eq_true rfl)
  rw [lg_entry_eq]
  generalize (lg_sl ([.ref mo, .int 1]) ++ List.replicate (5 - (lg_sl ([.ref mo, .int 1])).length) Slot.unset).toArray = ls at hl ⊢
  have hl : lv_has ls 5 [(0, .ref mo), (1, .int 1)] := hl
  refine lv_aload_n hx hb dX6_pair_0 rfl (lv_at hl 0 rfl) ?_
  refine lv_iload_n hx hb dX6_pair_1 rfl (lv_at hl 1 rfl) ?_
  refine lv_if_lt (tgt := 10) hx hb dX6_pair_2 (by decide) (fun c_1 => absurd c_1 (by decide)) (fun c_1 => ?_)
  refine lv_iload_n hx hb dX6_pair_5 rfl (lv_at hl 1 rfl) ?_
  refine lv_iconst (v := 4) hx hb dX6_pair_6 (by decide) ?_
  refine lv_icmp_le (tgt := 14) hx hb dX6_pair_7 (by decide) (fun c_2 => ?_) (fun c_2 => absurd c_2 (by decide))
  refine lv_iconst (v := 0) hx hb dX6_pair_14 (by decide) ?_
  refine jw_i (wr := []) (va_runV (As := [.int 0]) (rest := []) ⟨hx, hb, hml, hown, hts⟩ (gM_refuses_0 l D cI cL cQ mo g q1 q3 q4 q5 q6 q11 z0 0 gr kd mk w10 w13 w14 _) (cwV 1 hts gX6_pair_X6_refuses rfl rfl rfl (by decide +kernel) ⟨Nat.le_of_ble_eq_true rfl, Nat.le_of_ble_eq_true rfl⟩) (jw_V hK hN hP hD [0] (by decide) rfl 6 0 rfl rfl rfl) rfl rfl hl.1 rfl (lv_room (Nat.le_of_ble_eq_true rfl)) dX6_pair_15 ⟨Nat.le_of_ble_eq_true rfl, Nat.le_of_ble_eq_true rfl⟩) hP hD hS hA [0] [] rfl rfl (by decide) (by decide) (fun r u H locs f_3 hP hD hS => ?_)
  obtain ⟨rfl, rfl⟩ := f_3
  have hP : va_P D vwCl [(mo, .inr (6, [.int 0, .ref q1, .int (nI g), .ref q3, .ref q4, .ref q5, .ref q6, .int 0, .int gr, .int kd, .long w10, .ref q11, .int mk, .long w13, .long w14]))] H := hP
  have hD : va_D A [(mo, .inr (6, [.int 0, .ref q1, .int (nI g), .ref q3, .ref q4, .ref q5, .ref q6, .int 0, .int gr, .int kd, .long w10, .ref q11, .int mk, .long w13, .long w14]))] := hD
  refine lv_if_eq (tgt := 23) hx hb dX6_pair_18 (by decide) (fun c_4 => ?_) (fun c_4 => absurd c_4 (by decide))
  refine lv_aload_n hx hb dX6_pair_23 rfl (lv_at hl 0 rfl) ?_
  refine va_get (D := D) (ci := 6) (v := .int 0) (C := RX6) (T := TX6) (N := 15) hx hb hts (by decide +kernel) hown hK hP 0 rfl rfl 7 (by decide) (hts (.fieldLink RX6 43 "JoinDeskModel" "prepared" "Z") (by decide +kernel)) (fun _ h9 => h9) rfl dX6_pair_24 ?_
  refine lv_if_eq (tgt := 45) hx hb dX6_pair_27 (by decide) (fun c_5 => ?_) (fun c_5 => absurd c_5 (by decide))
  refine lv_iconst (v := 0) hx hb dX6_pair_45 (by decide) ?_
  refine lv_istore_n (lv' := [(2, .int 0), (0, .ref mo), (1, .int 1)]) hx hb dX6_pair_46 rfl hl (by decide) rfl (fun ls hl => ?_)
  refine lv_iload_n hx hb dX6_pair_47 rfl (lv_at hl 2 rfl) ?_
  refine lv_iconst (v := 1) hx hb dX6_pair_48 (by decide) ?_
  refine lv_icmp_eq (tgt := 57) hx hb dX6_pair_49 (by decide) (fun c_6 => ?_) (fun c_6 => absurd c_6 (by decide))
  refine lv_iconst (v := 0) hx hb dX6_pair_57 (by decide) ?_
  refine lv_goto (tgt := 62) hx hb dX6_pair_58 (by decide) ?_
  refine lv_istore_n (lv' := [(3, .int 0), (2, .int 0), (0, .ref mo), (1, .int 1)]) hx hb dX6_pair_62 rfl hl (by decide) rfl (fun ls hl => ?_)
  refine lv_iload_n hx hb dX6_pair_63 rfl (lv_at hl 3 rfl) ?_
  refine lv_if_ne (tgt := 114) hx hb dX6_pair_64 (by decide) (fun c_7 => ?_) (fun c_7 => absurd c_7 (by decide))
  refine lv_iload_n hx hb dX6_pair_114 rfl (lv_at hl 1 rfl) ?_
  refine lv_if_eq (tgt := 135) hx hb dX6_pair_115 (by decide) (fun c_8 => ?_) (fun c_8 => absurd c_8 (by decide))
  refine lv_iconst (v := 0) hx hb dX6_pair_135 (by decide) ?_
  refine lv_istore (lv' := [(4, .int 0), (3, .int 0), (2, .int 0), (0, .ref mo), (1, .int 1)]) hx hb dX6_pair_136 hl (by decide) rfl (fun ls hl => ?_)
  refine lv_iload_n hx hb dX6_pair_138 rfl (lv_at hl 4 rfl) ?_
  refine lv_iconst (v := 3) hx hb dX6_pair_139 (by decide) ?_
  refine lv_icmp_ge (tgt := 169) hx hb dX6_pair_140 (by decide) (fun c_9 => absurd c_9 (by decide)) (fun c_9 => ?_)
  refine lv_iload hx hb dX6_pair_143 (lv_at hl 0 rfl) ?_
  refine lv_if_eq (tgt := 165) hx hb dX6_pair_145 (by decide) (fun c_10 => ?_) (fun c_10 => absurd c_10 (by decide))
  refine lv_iconst (v := 0) hx hb dX6_pair_165 (by decide) ?_
  refine lv_goto (tgt := 198) hx hb dX6_pair_166 (by decide) ?_
  refine W.widen (k := 0) (n := 0) (by omega) (by omega) ?_
  exact W.iret (v := 0) hx hb hr (fun t ht hW => ⟨⟨0, [(mo, .inr (6, [.int 0, .ref q1, .int (nI g), .ref q3, .ref q4, .ref q5, .ref q6, .int 0, .int gr, .int kd, .long w10, .ref q11, .int mk, .long w13, .long w14]))], rfl, (by exact ⟨rfl, rfl⟩), by rw [ht]; exact hP, hD⟩, hS.F ht⟩) hS.2.2 dX6_pair_198
set_option maxHeartbeats 1000000 in
set_option maxRecDepth 100000 in
theorem gM_pair_n1 (l : Launch) (D : va_G) (cI cL cQ : ClassId) (mo : Nat) (g : Nat) (q1 : Nat) (q3 : Nat) (q4 : Nat) (q5 : Nat) (q6 : Nat) (q11 : Nat) (z0 : Int32) (gr : Int32) (kd : Int32) (mk : Int32) (w10 : Int64) (w13 : Int64) (w14 : Int64) (m3 : Nat → Int32) (m4 : Nat → Int32) (m5 : Nat → Int32) (t0 : Int32) (t1 : Int32) (t2 : Int32) (t3 : Int32) (t4 : Int32) (t5 : Int32) (t6 : Int32) (t7 : Int32) (t8 : Int32) (t10 : Int32) (t11 : Int32) (t12 : Int32) (t13 : Int32) (t14 : Int32) (t15 : Int32) (t16 : Int32) (t17 : Int32) (t18 : Int32) (t19 : Int32) (t20 : Int32) (t21 : Int32) (t22 : Int32) (t23 : Int32) (sz : Nat) (h5 : jo5 m5) : Met l yX6_pair wsX6_pair ({ frames := 1, cells := 0, slots := 0, locals := 21 }) (jw_P D vwCl (jT cI cL cQ) cL cQ [.ref mo, .int 1] [(mo, .inr (6, [.int z0, .ref q1, .int (nI g), .ref q3, .ref q4, .ref q5, .ref q6, .int 1, .int gr, .int kd, .long w10, .ref q11, .int mk, .long w13, .long w14])), (q3, .inl (cI, 800, .inl m3)), (q4, .inl (cI, 800, .inl m4)), (q5, .inl (cI, 800, .inl m5)), (q11, .inl (cI, 24, .inl (jl [t0, t1, t2, t3, t4, t5, t6, t7, t8, 0, t10, t11, t12, t13, t14, t15, t16, t17, t18, t19, t20, t21, t22, t23])))] sz) (va_Qi (fun (r : Int32) (u : va_W) => ∃ (z9 : Int32), r = z9 ∧ u = [(mo, .inr (6, [.int 0, .ref q1, .int (nI g), .ref q3, .ref q4, .ref q5, .ref q6, .int 1, .int gr, .int kd, .long w10, .ref q11, .int mk, .long w13, .long w14])), (q3, .inl (cI, 800, .inl m3)), (q4, .inl (cI, 800, .inl m4)), (q5, .inl (cI, 800, .inl m5)), (q11, .inl (cI, 24, .inl (jl [t0, t1, t2, t3, t4, t5, t6, t7, t8, 0, t10, t11, t12, t13, t14, t15, t16, t17, t18, t19, t20, t21, t22, t23])))]) (jw_B D vwCl (va_A [(mo, .inr (6, [.int z0, .ref q1, .int (nI g), .ref q3, .ref q4, .ref q5, .ref q6, .int 1, .int gr, .int kd, .long w10, .ref q11, .int mk, .long w13, .long w14])), (q3, .inl (cI, 800, .inl m3)), (q4, .inl (cI, 800, .inl m4)), (q5, .inl (cI, 800, .inl m5)), (q11, .inl (cI, 24, .inl (jl [t0, t1, t2, t3, t4, t5, t6, t7, t8, 0, t10, t11, t12, t13, t14, t15, t16, t17, t18, t19, t20, t21, t22, t23])))] sz) (fun u : va_W => u)) (va_A [(mo, .inr (6, [.int z0, .ref q1, .int (nI g), .ref q3, .ref q4, .ref q5, .ref q6, .int 1, .int gr, .int kd, .long w10, .ref q11, .int mk, .long w13, .long w14])), (q3, .inl (cI, 800, .inl m3)), (q4, .inl (cI, 800, .inl m4)), (q5, .inl (cI, 800, .inl m5)), (q11, .inl (cI, 24, .inl (jl [t0, t1, t2, t3, t4, t5, t6, t7, t8, 0, t10, t11, t12, t13, t14, t15, t16, t17, t18, t19, t20, t21, t22, t23])))] sz)) 0 0 (va_A [(mo, .inr (6, [.int z0, .ref q1, .int (nI g), .ref q3, .ref q4, .ref q5, .ref q6, .int 1, .int gr, .int kd, .long w10, .ref q11, .int mk, .long w13, .long w14])), (q3, .inl (cI, 800, .inl m3)), (q4, .inl (cI, 800, .inl m4)), (q5, .inl (cI, 800, .inl m5)), (q11, .inl (cI, 24, .inl (jl [t0, t1, t2, t3, t4, t5, t6, t7, t8, 0, t10, t11, t12, t13, t14, t15, t16, t17, t18, t19, t20, t21, t22, t23])))] sz) := by
  refine Met.ofW (cc := cX6_pair) (maxL := 5) (ret := (some .int)) (by decide) rfl ?_
  intro p e s m args below meth c s₁ B hml hv
  obtain ⟨rfl, hsz, hP, hK, hN, hD0⟩ := hv
  have hx := B.exec
  have hb := B.bytes
  have hr := B.returns
  have hts := atoms_spec (ws := wsX6_pair) B.pre
  have hown : s.vm.findClass RX6 = some m.cls := findClass_of_methodNamed B.named
  have hlocks := B.notSynchronized
  subst hsz
  have hD := hD0.self (sz := s.heap.size)
  generalize hAe : va_A [(mo, .inr (6, [.int z0, .ref q1, .int (nI g), .ref q3, .ref q4, .ref q5, .ref q6, .int 1, .int gr, .int kd, .long w10, .ref q11, .int mk, .long w13, .long w14])), (q3, .inl (cI, 800, .inl m3)), (q4, .inl (cI, 800, .inl m4)), (q5, .inl (cI, 800, .inl m5)), (q11, .inl (cI, 24, .inl (jl [t0, t1, t2, t3, t4, t5, t6, t7, t8, 0, t10, t11, t12, t13, t14, t15, t16, t17, t18, t19, t20, t21, t22, t23])))] s.heap.size = A at hD ⊢
  have hA : ∀ q : Nat, s.heap.size ≤ q → A q := fun q h => by rw [← hAe]; exact Or.inr h
  have hS : va_S A s.heap s.heap [] := va_S.rf
  have hl := lv_entry ([.ref mo, .int 1]) (n := 5) (Nat.le_of_ble_eq_true rfl)
  rw [lg_entry_eq]
  generalize (lg_sl ([.ref mo, .int 1]) ++ List.replicate (5 - (lg_sl ([.ref mo, .int 1])).length) Slot.unset).toArray = ls at hl ⊢
  have hl : lv_has ls 5 [(0, .ref mo), (1, .int 1)] := hl
  refine lv_aload_n hx hb dX6_pair_0 rfl (lv_at hl 0 rfl) ?_
  refine lv_iload_n hx hb dX6_pair_1 rfl (lv_at hl 1 rfl) ?_
  refine lv_if_lt (tgt := 10) hx hb dX6_pair_2 (by decide) (fun c_1 => absurd c_1 (by decide)) (fun c_1 => ?_)
  refine lv_iload_n hx hb dX6_pair_5 rfl (lv_at hl 1 rfl) ?_
  refine lv_iconst (v := 4) hx hb dX6_pair_6 (by decide) ?_
  refine lv_icmp_le (tgt := 14) hx hb dX6_pair_7 (by decide) (fun c_2 => ?_) (fun c_2 => absurd c_2 (by decide))
  refine lv_iconst (v := 0) hx hb dX6_pair_14 (by decide) ?_
  refine jw_i (wr := [(q3, .inl (cI, 800, .inl m3)), (q4, .inl (cI, 800, .inl m4)), (q5, .inl (cI, 800, .inl m5)), (q11, .inl (cI, 24, .inl (jl [t0, t1, t2, t3, t4, t5, t6, t7, t8, 0, t10, t11, t12, t13, t14, t15, t16, t17, t18, t19, t20, t21, t22, t23])))]) (va_runV (As := [.int 0]) (rest := []) ⟨hx, hb, hml, hown, hts⟩ (gM_refuses_0 l D cI cL cQ mo g q1 q3 q4 q5 q6 q11 z0 1 gr kd mk w10 w13 w14 _) (cwV 1 hts gX6_pair_X6_refuses rfl rfl rfl (by decide +kernel) ⟨Nat.le_of_ble_eq_true rfl, Nat.le_of_ble_eq_true rfl⟩) (jw_V hK hN hP hD [0] (by decide) rfl 6 0 rfl rfl rfl) rfl rfl hl.1 rfl (lv_room (Nat.le_of_ble_eq_true rfl)) dX6_pair_15 ⟨Nat.le_of_ble_eq_true rfl, Nat.le_of_ble_eq_true rfl⟩) hP hD hS hA [0] [1, 2, 3, 4] rfl rfl (by decide) (by decide) (fun r u H locs f_3 hP hD hS => ?_)
  obtain ⟨rfl, rfl⟩ := f_3
  have hP : va_P D vwCl [(q3, .inl (cI, 800, .inl m3)), (q4, .inl (cI, 800, .inl m4)), (q5, .inl (cI, 800, .inl m5)), (q11, .inl (cI, 24, .inl (jl [t0, t1, t2, t3, t4, t5, t6, t7, t8, 0, t10, t11, t12, t13, t14, t15, t16, t17, t18, t19, t20, t21, t22, t23]))), (mo, .inr (6, [.int 0, .ref q1, .int (nI g), .ref q3, .ref q4, .ref q5, .ref q6, .int 1, .int gr, .int kd, .long w10, .ref q11, .int mk, .long w13, .long w14]))] H := hP
  have hD : va_D A [(q3, .inl (cI, 800, .inl m3)), (q4, .inl (cI, 800, .inl m4)), (q5, .inl (cI, 800, .inl m5)), (q11, .inl (cI, 24, .inl (jl [t0, t1, t2, t3, t4, t5, t6, t7, t8, 0, t10, t11, t12, t13, t14, t15, t16, t17, t18, t19, t20, t21, t22, t23]))), (mo, .inr (6, [.int 0, .ref q1, .int (nI g), .ref q3, .ref q4, .ref q5, .ref q6, .int 1, .int gr, .int kd, .long w10, .ref q11, .int mk, .long w13, .long w14]))] := hD
  refine lv_if_eq (tgt := 23) hx hb dX6_pair_18 (by decide) (fun c_4 => ?_) (fun c_4 => absurd c_4 (by decide))
  refine lv_aload_n hx hb dX6_pair_23 rfl (lv_at hl 0 rfl) ?_
  refine va_get (D := D) (ci := 6) (v := .int 1) (C := RX6) (T := TX6) (N := 15) hx hb hts (by decide +kernel) hown hK hP 4 rfl rfl 7 (by decide) (hts (.fieldLink RX6 43 "JoinDeskModel" "prepared" "Z") (by decide +kernel)) (fun _ h9 => h9) rfl dX6_pair_24 ?_
  refine lv_if_eq (tgt := 45) hx hb dX6_pair_27 (by decide) (fun c_5 => absurd c_5 (by decide)) (fun c_5 => ?_)
  refine lv_aload_n hx hb dX6_pair_30 rfl (lv_at hl 0 rfl) ?_
  refine va_get (D := D) (ci := 6) (v := .ref q11) (C := RX6) (T := TX6) (N := 15) hx hb hts (by decide +kernel) hown hK hP 4 rfl rfl 11 (by decide) (hts (.fieldLink RX6 25 "JoinDeskModel" "at" "[I") (by decide +kernel)) (fun _ h9 => h9) rfl dX6_pair_31 ?_
  refine lv_bipush (v := 9) hx hb dX6_pair_34 (by decide) ?_
  refine va_iald hx hb hK hP 3 0 rfl rfl (by unfold vp_in; decide) dX6_pair_36 ?_
  refine W.eq (g2 := F0 m 37 ls [.int 0]) rfl ?_
  refine lv_iconst (v := 1) hx hb dX6_pair_37 (by decide) ?_
  refine lv_icmp_ne (tgt := 45) hx hb dX6_pair_38 (by decide) (fun c_6 => ?_) (fun c_6 => absurd c_6 (by decide))
  refine lv_iconst (v := 0) hx hb dX6_pair_45 (by decide) ?_
  refine lv_istore_n (lv' := [(2, .int 0), (0, .ref mo), (1, .int 1)]) hx hb dX6_pair_46 rfl hl (by decide) rfl (fun ls hl => ?_)
  refine lv_iload_n hx hb dX6_pair_47 rfl (lv_at hl 2 rfl) ?_
  refine lv_iconst (v := 1) hx hb dX6_pair_48 (by decide) ?_
  refine lv_icmp_eq (tgt := 57) hx hb dX6_pair_49 (by decide) (fun c_7 => ?_) (fun c_7 => absurd c_7 (by decide))
  refine lv_iconst (v := 0) hx hb dX6_pair_57 (by decide) ?_
  refine lv_goto (tgt := 62) hx hb dX6_pair_58 (by decide) ?_
  refine lv_istore_n (lv' := [(3, .int 0), (2, .int 0), (0, .ref mo), (1, .int 1)]) hx hb dX6_pair_62 rfl hl (by decide) rfl (fun ls hl => ?_)
  refine lv_iload_n hx hb dX6_pair_63 rfl (lv_at hl 3 rfl) ?_
  refine lv_if_ne (tgt := 114) hx hb dX6_pair_64 (by decide) (fun c_8 => ?_) (fun c_8 => absurd c_8 (by decide))
  refine lv_iload_n hx hb dX6_pair_114 rfl (lv_at hl 1 rfl) ?_
  refine lv_if_eq (tgt := 135) hx hb dX6_pair_115 (by decide) (fun c_9 => ?_) (fun c_9 => absurd c_9 (by decide))
  refine lv_iconst (v := 0) hx hb dX6_pair_135 (by decide) ?_
  refine lv_istore (lv' := [(4, .int 0), (3, .int 0), (2, .int 0), (0, .ref mo), (1, .int 1)]) hx hb dX6_pair_136 hl (by decide) rfl (fun ls hl => ?_)
  refine lv_iload_n hx hb dX6_pair_138 rfl (lv_at hl 4 rfl) ?_
  refine lv_iconst (v := 3) hx hb dX6_pair_139 (by decide) ?_
  refine lv_icmp_ge (tgt := 169) hx hb dX6_pair_140 (by decide) (fun c_10 => absurd c_10 (by decide)) (fun c_10 => ?_)
  refine lv_iload hx hb dX6_pair_143 (lv_at hl 0 rfl) ?_
  refine lv_if_eq (tgt := 165) hx hb dX6_pair_145 (by decide) (fun c_11 => ?_) (fun c_11 => absurd c_11 (by decide))
  refine lv_iconst (v := 0) hx hb dX6_pair_165 (by decide) ?_
  refine lv_goto (tgt := 198) hx hb dX6_pair_166 (by decide) ?_
  have hP := hP.sub (ws' := [(mo, .inr (6, [.int 0, .ref q1, .int (nI g), .ref q3, .ref q4, .ref q5, .ref q6, .int 1, .int gr, .int kd, .long w10, .ref q11, .int mk, .long w13, .long w14])), (q3, .inl (cI, 800, .inl m3)), (q4, .inl (cI, 800, .inl m4)), (q5, .inl (cI, 800, .inl m5)), (q11, .inl (cI, 24, .inl (jl [t0, t1, t2, t3, t4, t5, t6, t7, t8, 0, t10, t11, t12, t13, t14, t15, t16, t17, t18, t19, t20, t21, t22, t23])))]) [4, 0, 1, 2, 3] rfl
  have hD := hD.sub (ws' := [(mo, .inr (6, [.int 0, .ref q1, .int (nI g), .ref q3, .ref q4, .ref q5, .ref q6, .int 1, .int gr, .int kd, .long w10, .ref q11, .int mk, .long w13, .long w14])), (q3, .inl (cI, 800, .inl m3)), (q4, .inl (cI, 800, .inl m4)), (q5, .inl (cI, 800, .inl m5)), (q11, .inl (cI, 24, .inl (jl [t0, t1, t2, t3, t4, t5, t6, t7, t8, 0, t10, t11, t12, t13, t14, t15, t16, t17, t18, t19, t20, t21, t22, t23])))]) [4, 0, 1, 2, 3] (by decide) rfl
  refine W.widen (k := 0) (n := 0) (by omega) (by omega) ?_
  exact W.iret (v := 0) hx hb hr (fun t ht hW => ⟨⟨0, [(mo, .inr (6, [.int 0, .ref q1, .int (nI g), .ref q3, .ref q4, .ref q5, .ref q6, .int 1, .int gr, .int kd, .long w10, .ref q11, .int mk, .long w13, .long w14])), (q3, .inl (cI, 800, .inl m3)), (q4, .inl (cI, 800, .inl m4)), (q5, .inl (cI, 800, .inl m5)), (q11, .inl (cI, 24, .inl (jl [t0, t1, t2, t3, t4, t5, t6, t7, t8, 0, t10, t11, t12, t13, t14, t15, t16, t17, t18, t19, t20, t21, t22, t23])))], rfl, (⟨_, rfl, rfl⟩), by rw [ht]; exact hP, hD⟩, hS.F ht⟩) hS.2.2 dX6_pair_198
set_option maxHeartbeats 1000000 in
set_option maxRecDepth 100000 in
theorem gM_pair_01 (l : Launch) (D : va_G) (cI cL cQ : ClassId) (mo : Nat) (g : Nat) (q1 : Nat) (q3 : Nat) (q4 : Nat) (q5 : Nat) (q6 : Nat) (q11 : Nat) (z0 : Int32) (gr : Int32) (kd : Int32) (mk : Int32) (w10 : Int64) (w13 : Int64) (w14 : Int64) (m3 : Nat → Int32) (m4 : Nat → Int32) (m5 : Nat → Int32) (t0 : Int32) (t1 : Int32) (t2 : Int32) (t3 : Int32) (t10 : Int32) (t11 : Int32) (t12 : Int32) (t13 : Int32) (t14 : Int32) (t15 : Int32) (t16 : Int32) (t17 : Int32) (t18 : Int32) (t19 : Int32) (t20 : Int32) (t21 : Int32) (t22 : Int32) (t23 : Int32) (d0 : Nat) (d1 : Nat) (r0 : Nat) (r1 : Nat) (sz : Nat) (h5 : jo5 m5) (hr0 : r0 < d0) (hr1 : r1 < d1) (hd0 : d0 ≤ 400) (hd1 : d1 ≤ 400) : Met l yX6_pair wsX6_pair ({ frames := 1, cells := 0, slots := 0, locals := 22 }) (jw_P D vwCl (jT cI cL cQ) cL cQ [.ref mo, .int 1] [(mo, .inr (6, [.int z0, .ref q1, .int (nI g), .ref q3, .ref q4, .ref q5, .ref q6, .int 1, .int gr, .int kd, .long w10, .ref q11, .int mk, .long w13, .long w14])), (q3, .inl (cI, 800, .inl m3)), (q4, .inl (cI, 800, .inl m4)), (q5, .inl (cI, 800, .inl m5)), (q11, .inl (cI, 24, .inl (jl [t0, t1, t2, t3, nI d0, nI d1, nI r0, nI r1, 0, 1, t10, t11, t12, t13, t14, t15, t16, t17, t18, t19, t20, t21, t22, t23])))] sz) (va_Qi (fun (r : Int32) (u : va_W) => ∃ (z9 : Int32), r = z9 ∧ u = [(mo, .inr (6, [.int 0, .ref q1, .int (nI g), .ref q3, .ref q4, .ref q5, .ref q6, .int 1, .int gr, .int kd, .long w10, .ref q11, .int mk, .long w13, .long w14])), (q3, .inl (cI, 800, .inl m3)), (q4, .inl (cI, 800, .inl m4)), (q5, .inl (cI, 800, .inl m5)), (q11, .inl (cI, 24, .inl (jl [t0, t1, t2, t3, nI d0, nI d1, nI r0, nI r1, 0, 1, t10, t11, t12, t13, t14, t15, t16, t17, t18, t19, t20, t21, t22, t23])))]) (jw_B D vwCl (va_A [(mo, .inr (6, [.int z0, .ref q1, .int (nI g), .ref q3, .ref q4, .ref q5, .ref q6, .int 1, .int gr, .int kd, .long w10, .ref q11, .int mk, .long w13, .long w14])), (q3, .inl (cI, 800, .inl m3)), (q4, .inl (cI, 800, .inl m4)), (q5, .inl (cI, 800, .inl m5)), (q11, .inl (cI, 24, .inl (jl [t0, t1, t2, t3, nI d0, nI d1, nI r0, nI r1, 0, 1, t10, t11, t12, t13, t14, t15, t16, t17, t18, t19, t20, t21, t22, t23])))] sz) (fun u : va_W => u)) (va_A [(mo, .inr (6, [.int z0, .ref q1, .int (nI g), .ref q3, .ref q4, .ref q5, .ref q6, .int 1, .int gr, .int kd, .long w10, .ref q11, .int mk, .long w13, .long w14])), (q3, .inl (cI, 800, .inl m3)), (q4, .inl (cI, 800, .inl m4)), (q5, .inl (cI, 800, .inl m5)), (q11, .inl (cI, 24, .inl (jl [t0, t1, t2, t3, nI d0, nI d1, nI r0, nI r1, 0, 1, t10, t11, t12, t13, t14, t15, t16, t17, t18, t19, t20, t21, t22, t23])))] sz)) 0 0 (va_A [(mo, .inr (6, [.int z0, .ref q1, .int (nI g), .ref q3, .ref q4, .ref q5, .ref q6, .int 1, .int gr, .int kd, .long w10, .ref q11, .int mk, .long w13, .long w14])), (q3, .inl (cI, 800, .inl m3)), (q4, .inl (cI, 800, .inl m4)), (q5, .inl (cI, 800, .inl m5)), (q11, .inl (cI, 24, .inl (jl [t0, t1, t2, t3, nI d0, nI d1, nI r0, nI r1, 0, 1, t10, t11, t12, t13, t14, t15, t16, t17, t18, t19, t20, t21, t22, t23])))] sz) := by
  refine Met.ofW (cc := cX6_pair) (maxL := 5) (ret := (some .int)) (by decide) rfl ?_
  intro p e s m args below meth c s₁ B hml hv
  obtain ⟨rfl, hsz, hP, hK, hN, hD0⟩ := hv
  have hx := B.exec
  have hb := B.bytes
  have hr := B.returns
  have hts := atoms_spec (ws := wsX6_pair) B.pre
  have hown : s.vm.findClass RX6 = some m.cls := findClass_of_methodNamed B.named
  have hlocks := B.notSynchronized
  subst hsz
  have hD := hD0.self (sz := s.heap.size)
  generalize hAe : va_A [(mo, .inr (6, [.int z0, .ref q1, .int (nI g), .ref q3, .ref q4, .ref q5, .ref q6, .int 1, .int gr, .int kd, .long w10, .ref q11, .int mk, .long w13, .long w14])), (q3, .inl (cI, 800, .inl m3)), (q4, .inl (cI, 800, .inl m4)), (q5, .inl (cI, 800, .inl m5)), (q11, .inl (cI, 24, .inl (jl [t0, t1, t2, t3, nI d0, nI d1, nI r0, nI r1, 0, 1, t10, t11, t12, t13, t14, t15, t16, t17, t18, t19, t20, t21, t22, t23])))] s.heap.size = A at hD ⊢
  have hA : ∀ q : Nat, s.heap.size ≤ q → A q := fun q h => by rw [← hAe]; exact Or.inr h
  have hS : va_S A s.heap s.heap [] := va_S.rf
  have hl := lv_entry ([.ref mo, .int 1]) (n := 5) (Nat.le_of_ble_eq_true rfl)
  rw [lg_entry_eq]
  generalize (lg_sl ([.ref mo, .int 1]) ++ List.replicate (5 - (lg_sl ([.ref mo, .int 1])).length) Slot.unset).toArray = ls at hl ⊢
  have hl : lv_has ls 5 [(0, .ref mo), (1, .int 1)] := hl
  refine lv_aload_n hx hb dX6_pair_0 rfl (lv_at hl 0 rfl) ?_
  refine lv_iload_n hx hb dX6_pair_1 rfl (lv_at hl 1 rfl) ?_
  refine lv_if_lt (tgt := 10) hx hb dX6_pair_2 (by decide) (fun c_1 => absurd c_1 (by decide)) (fun c_1 => ?_)
  refine lv_iload_n hx hb dX6_pair_5 rfl (lv_at hl 1 rfl) ?_
  refine lv_iconst (v := 4) hx hb dX6_pair_6 (by decide) ?_
  refine lv_icmp_le (tgt := 14) hx hb dX6_pair_7 (by decide) (fun c_2 => ?_) (fun c_2 => absurd c_2 (by decide))
  refine lv_iconst (v := 0) hx hb dX6_pair_14 (by decide) ?_
  refine jw_i (wr := [(q3, .inl (cI, 800, .inl m3)), (q4, .inl (cI, 800, .inl m4)), (q5, .inl (cI, 800, .inl m5)), (q11, .inl (cI, 24, .inl (jl [t0, t1, t2, t3, nI d0, nI d1, nI r0, nI r1, 0, 1, t10, t11, t12, t13, t14, t15, t16, t17, t18, t19, t20, t21, t22, t23])))]) (va_runV (As := [.int 0]) (rest := []) ⟨hx, hb, hml, hown, hts⟩ (gM_refuses_0 l D cI cL cQ mo g q1 q3 q4 q5 q6 q11 z0 1 gr kd mk w10 w13 w14 _) (cwV 1 hts gX6_pair_X6_refuses rfl rfl rfl (by decide +kernel) ⟨Nat.le_of_ble_eq_true rfl, Nat.le_of_ble_eq_true rfl⟩) (jw_V hK hN hP hD [0] (by decide) rfl 6 0 rfl rfl rfl) rfl rfl hl.1 rfl (lv_room (Nat.le_of_ble_eq_true rfl)) dX6_pair_15 ⟨Nat.le_of_ble_eq_true rfl, Nat.le_of_ble_eq_true rfl⟩) hP hD hS hA [0] [1, 2, 3, 4] rfl rfl (by decide) (by decide) (fun r u H locs f_3 hP hD hS => ?_)
  obtain ⟨rfl, rfl⟩ := f_3
  have hP : va_P D vwCl [(q3, .inl (cI, 800, .inl m3)), (q4, .inl (cI, 800, .inl m4)), (q5, .inl (cI, 800, .inl m5)), (q11, .inl (cI, 24, .inl (jl [t0, t1, t2, t3, nI d0, nI d1, nI r0, nI r1, 0, 1, t10, t11, t12, t13, t14, t15, t16, t17, t18, t19, t20, t21, t22, t23]))), (mo, .inr (6, [.int 0, .ref q1, .int (nI g), .ref q3, .ref q4, .ref q5, .ref q6, .int 1, .int gr, .int kd, .long w10, .ref q11, .int mk, .long w13, .long w14]))] H := hP
  have hD : va_D A [(q3, .inl (cI, 800, .inl m3)), (q4, .inl (cI, 800, .inl m4)), (q5, .inl (cI, 800, .inl m5)), (q11, .inl (cI, 24, .inl (jl [t0, t1, t2, t3, nI d0, nI d1, nI r0, nI r1, 0, 1, t10, t11, t12, t13, t14, t15, t16, t17, t18, t19, t20, t21, t22, t23]))), (mo, .inr (6, [.int 0, .ref q1, .int (nI g), .ref q3, .ref q4, .ref q5, .ref q6, .int 1, .int gr, .int kd, .long w10, .ref q11, .int mk, .long w13, .long w14]))] := hD
  refine lv_if_eq (tgt := 23) hx hb dX6_pair_18 (by decide) (fun c_4 => ?_) (fun c_4 => absurd c_4 (by decide))
  refine lv_aload_n hx hb dX6_pair_23 rfl (lv_at hl 0 rfl) ?_
  refine va_get (D := D) (ci := 6) (v := .int 1) (C := RX6) (T := TX6) (N := 15) hx hb hts (by decide +kernel) hown hK hP 4 rfl rfl 7 (by decide) (hts (.fieldLink RX6 43 "JoinDeskModel" "prepared" "Z") (by decide +kernel)) (fun _ h9 => h9) rfl dX6_pair_24 ?_
  refine lv_if_eq (tgt := 45) hx hb dX6_pair_27 (by decide) (fun c_5 => absurd c_5 (by decide)) (fun c_5 => ?_)
  refine lv_aload_n hx hb dX6_pair_30 rfl (lv_at hl 0 rfl) ?_
  refine va_get (D := D) (ci := 6) (v := .ref q11) (C := RX6) (T := TX6) (N := 15) hx hb hts (by decide +kernel) hown hK hP 4 rfl rfl 11 (by decide) (hts (.fieldLink RX6 25 "JoinDeskModel" "at" "[I") (by decide +kernel)) (fun _ h9 => h9) rfl dX6_pair_31 ?_
  refine lv_bipush (v := 9) hx hb dX6_pair_34 (by decide) ?_
  refine va_iald hx hb hK hP 3 0 rfl rfl (by unfold vp_in; decide) dX6_pair_36 ?_
  refine W.eq (g2 := F0 m 37 ls [.int 1]) rfl ?_
  refine lv_iconst (v := 1) hx hb dX6_pair_37 (by decide) ?_
  refine lv_icmp_ne (tgt := 45) hx hb dX6_pair_38 (by decide) (fun c_6 => absurd c_6 (by decide)) (fun c_6 => ?_)
  refine lv_iconst (v := 1) hx hb dX6_pair_41 (by decide) ?_
  refine lv_goto (tgt := 46) hx hb dX6_pair_42 (by decide) ?_
  refine lv_istore_n (lv' := [(2, .int 1), (0, .ref mo), (1, .int 1)]) hx hb dX6_pair_46 rfl hl (by decide) rfl (fun ls hl => ?_)
  refine lv_iload_n hx hb dX6_pair_47 rfl (lv_at hl 2 rfl) ?_
  refine lv_iconst (v := 1) hx hb dX6_pair_48 (by decide) ?_
  refine lv_icmp_eq (tgt := 57) hx hb dX6_pair_49 (by decide) (fun c_7 => ?_) (fun c_7 => absurd c_7 (by decide))
  refine lv_iconst (v := 0) hx hb dX6_pair_57 (by decide) ?_
  refine lv_goto (tgt := 62) hx hb dX6_pair_58 (by decide) ?_
  refine lv_istore_n (lv' := [(3, .int 0), (2, .int 1), (0, .ref mo), (1, .int 1)]) hx hb dX6_pair_62 rfl hl (by decide) rfl (fun ls hl => ?_)
  refine lv_iload_n hx hb dX6_pair_63 rfl (lv_at hl 3 rfl) ?_
  refine lv_if_ne (tgt := 114) hx hb dX6_pair_64 (by decide) (fun c_8 => ?_) (fun c_8 => absurd c_8 (by decide))
  refine lv_iload_n hx hb dX6_pair_114 rfl (lv_at hl 1 rfl) ?_
  refine lv_if_eq (tgt := 135) hx hb dX6_pair_115 (by decide) (fun c_9 => absurd c_9 (by decide)) (fun c_9 => ?_)
  refine lv_aload_n hx hb dX6_pair_118 rfl (lv_at hl 2 rfl) ?_
  refine va_get (D := D) (ci := 6) (v := .ref q11) (C := RX6) (T := TX6) (N := 15) hx hb hts (by decide +kernel) hown hK hP 4 rfl rfl 11 (by decide) (hts (.fieldLink RX6 25 "JoinDeskModel" "at" "[I") (by decide +kernel)) (fun _ h9 => h9) rfl dX6_pair_119 ?_
  refine lv_bipush (v := 8) hx hb dX6_pair_122 (by decide) ?_
  refine va_iald hx hb hK hP 3 0 rfl rfl (by unfold vp_in; decide) dX6_pair_124 ?_
  refine W.eq (g2 := F0 m 125 ls [.int 0]) rfl ?_
  refine lv_iconst (v := 2) hx hb dX6_pair_125 (by decide) ?_
  refine lv_iload_n hx hb dX6_pair_126 rfl (lv_at hl 0 rfl) ?_
  refine lv_isub hx hb dX6_pair_127 ?_
  refine lv_topi (fun z_10 e_z_10 => ?_)
  obtain rfl : z_10 = 2 := e_z_10.trans (by decide)
  refine lv_icmp_eq (tgt := 135) hx hb dX6_pair_128 (by decide) (fun c_11 => absurd c_11 (by decide)) (fun c_11 => ?_)
  refine lv_iconst (v := 1) hx hb dX6_pair_131 (by decide) ?_
  refine lv_goto (tgt := 136) hx hb dX6_pair_132 (by decide) ?_
  refine lv_istore (lv' := [(4, .int 1), (3, .int 0), (2, .int 1), (0, .ref mo), (1, .int 1)]) hx hb dX6_pair_136 hl (by decide) rfl (fun ls hl => ?_)
  refine lv_iload_n hx hb dX6_pair_138 rfl (lv_at hl 4 rfl) ?_
  refine lv_iconst (v := 3) hx hb dX6_pair_139 (by decide) ?_
  refine lv_icmp_ge (tgt := 169) hx hb dX6_pair_140 (by decide) (fun c_12 => absurd c_12 (by decide)) (fun c_12 => ?_)
  refine lv_iload hx hb dX6_pair_143 (lv_at hl 0 rfl) ?_
  refine lv_if_eq (tgt := 165) hx hb dX6_pair_145 (by decide) (fun c_13 => absurd c_13 (by decide)) (fun c_13 => ?_)
  refine lv_aload_n hx hb dX6_pair_148 rfl (lv_at hl 3 rfl) ?_
  refine lv_iload_n hx hb dX6_pair_149 rfl (lv_at hl 1 rfl) ?_
  refine lv_aload_n hx hb dX6_pair_150 rfl (lv_at hl 3 rfl) ?_
  refine va_get (D := D) (ci := 6) (v := .ref q11) (C := RX6) (T := TX6) (N := 15) hx hb hts (by decide +kernel) hown hK hP 4 rfl rfl 11 (by decide) (hts (.fieldLink RX6 25 "JoinDeskModel" "at" "[I") (by decide +kernel)) (fun _ h9 => h9) rfl dX6_pair_151 ?_
  refine lv_bipush (v := 6) hx hb dX6_pair_154 (by decide) ?_
  refine lv_iload_n hx hb dX6_pair_156 rfl (lv_at hl 1 rfl) ?_
  refine lv_iadd hx hb dX6_pair_157 ?_
  refine lv_topi (fun z_14 e_z_14 => ?_)
  obtain rfl : z_14 = 6 := e_z_14.trans (by decide)
  refine va_iald hx hb hK hP 3 0 rfl rfl (by unfold vp_in; decide) dX6_pair_158 ?_
  refine W.eq (g2 := F0 m 159 ls [.int (nI r0), .int 0, .ref mo]) rfl ?_
  refine vp_callSi (va_Run.run (va_runV (As := [.int 0, .int (nI r0)]) (rest := []) ⟨hx, hb, hml, hown, hts⟩ (gM_value_0 l D cI cL cQ mo g q1 q3 q4 q5 q6 q11 0 1 gr kd mk w10 w13 w14 m4 m5 r0 (by first | assumption | decide | omega) (by omega)) (cwV 2 hts gX6_pair_X6_value rfl rfl rfl (by decide +kernel) ⟨Nat.le_of_ble_eq_true rfl, Nat.le_of_ble_eq_true rfl⟩) (jr_V hK hN hP [4, 1, 2] rfl 6 4 rfl rfl rfl) rfl rfl hl.1 rfl (lv_room (Nat.le_of_ble_eq_true rfl)) dX6_pair_159 ⟨Nat.le_of_ble_eq_true rfl, Nat.le_of_ble_eq_true rfl⟩)) (fun r f_15 => ?_)
  obtain rfl := f_15
  refine lv_goto (tgt := 198) hx hb dX6_pair_162 (by decide) ?_
  have hP := hP.sub (ws' := [(mo, .inr (6, [.int 0, .ref q1, .int (nI g), .ref q3, .ref q4, .ref q5, .ref q6, .int 1, .int gr, .int kd, .long w10, .ref q11, .int mk, .long w13, .long w14])), (q3, .inl (cI, 800, .inl m3)), (q4, .inl (cI, 800, .inl m4)), (q5, .inl (cI, 800, .inl m5)), (q11, .inl (cI, 24, .inl (jl [t0, t1, t2, t3, nI d0, nI d1, nI r0, nI r1, 0, 1, t10, t11, t12, t13, t14, t15, t16, t17, t18, t19, t20, t21, t22, t23])))]) [4, 0, 1, 2, 3] rfl
  have hD := hD.sub (ws' := [(mo, .inr (6, [.int 0, .ref q1, .int (nI g), .ref q3, .ref q4, .ref q5, .ref q6, .int 1, .int gr, .int kd, .long w10, .ref q11, .int mk, .long w13, .long w14])), (q3, .inl (cI, 800, .inl m3)), (q4, .inl (cI, 800, .inl m4)), (q5, .inl (cI, 800, .inl m5)), (q11, .inl (cI, 24, .inl (jl [t0, t1, t2, t3, nI d0, nI d1, nI r0, nI r1, 0, 1, t10, t11, t12, t13, t14, t15, t16, t17, t18, t19, t20, t21, t22, t23])))]) [4, 0, 1, 2, 3] (by decide) rfl
  refine W.widen (k := 0) (n := 0) (by omega) (by omega) ?_
  exact W.iret (v := jmk 0 m4 m5 r0) hx hb hr (fun t ht hW => ⟨⟨(jmk 0 m4 m5 r0), [(mo, .inr (6, [.int 0, .ref q1, .int (nI g), .ref q3, .ref q4, .ref q5, .ref q6, .int 1, .int gr, .int kd, .long w10, .ref q11, .int mk, .long w13, .long w14])), (q3, .inl (cI, 800, .inl m3)), (q4, .inl (cI, 800, .inl m4)), (q5, .inl (cI, 800, .inl m5)), (q11, .inl (cI, 24, .inl (jl [t0, t1, t2, t3, nI d0, nI d1, nI r0, nI r1, 0, 1, t10, t11, t12, t13, t14, t15, t16, t17, t18, t19, t20, t21, t22, t23])))], rfl, (⟨_, rfl, rfl⟩), by rw [ht]; exact hP, hD⟩, hS.F ht⟩) hS.2.2 dX6_pair_198
set_option maxHeartbeats 1000000 in
set_option maxRecDepth 100000 in
theorem gM_pair_11 (l : Launch) (D : va_G) (cI cL cQ : ClassId) (mo : Nat) (g : Nat) (q1 : Nat) (q3 : Nat) (q4 : Nat) (q5 : Nat) (q6 : Nat) (q11 : Nat) (z0 : Int32) (gr : Int32) (kd : Int32) (mk : Int32) (w10 : Int64) (w13 : Int64) (w14 : Int64) (m3 : Nat → Int32) (m4 : Nat → Int32) (m5 : Nat → Int32) (t0 : Int32) (t1 : Int32) (t2 : Int32) (t3 : Int32) (t5 : Int32) (t7 : Int32) (t10 : Int32) (t11 : Int32) (t12 : Int32) (t13 : Int32) (t14 : Int32) (t15 : Int32) (t16 : Int32) (t17 : Int32) (t18 : Int32) (t19 : Int32) (t20 : Int32) (t21 : Int32) (t22 : Int32) (t23 : Int32) (d0 : Nat) (r0 : Nat) (sz : Nat) (h5 : jo5 m5) (hr0 : r0 < d0) (hd0 : d0 ≤ 400) : Met l yX6_pair wsX6_pair ({ frames := 1, cells := 0, slots := 0, locals := 22 }) (jw_P D vwCl (jT cI cL cQ) cL cQ [.ref mo, .int 1] [(mo, .inr (6, [.int z0, .ref q1, .int (nI g), .ref q3, .ref q4, .ref q5, .ref q6, .int 1, .int gr, .int kd, .long w10, .ref q11, .int mk, .long w13, .long w14])), (q3, .inl (cI, 800, .inl m3)), (q4, .inl (cI, 800, .inl m4)), (q5, .inl (cI, 800, .inl m5)), (q11, .inl (cI, 24, .inl (jl [t0, t1, t2, t3, nI d0, t5, nI r0, t7, 1, 1, t10, t11, t12, t13, t14, t15, t16, t17, t18, t19, t20, t21, t22, t23])))] sz) (va_Qi (fun (r : Int32) (u : va_W) => ∃ (z9 : Int32), r = z9 ∧ u = [(mo, .inr (6, [.int 0, .ref q1, .int (nI g), .ref q3, .ref q4, .ref q5, .ref q6, .int 1, .int gr, .int kd, .long w10, .ref q11, .int mk, .long w13, .long w14])), (q3, .inl (cI, 800, .inl m3)), (q4, .inl (cI, 800, .inl m4)), (q5, .inl (cI, 800, .inl m5)), (q11, .inl (cI, 24, .inl (jl [t0, t1, t2, t3, nI d0, t5, nI r0, t7, 1, 1, t10, t11, t12, t13, t14, t15, t16, t17, t18, t19, t20, t21, t22, t23])))]) (jw_B D vwCl (va_A [(mo, .inr (6, [.int z0, .ref q1, .int (nI g), .ref q3, .ref q4, .ref q5, .ref q6, .int 1, .int gr, .int kd, .long w10, .ref q11, .int mk, .long w13, .long w14])), (q3, .inl (cI, 800, .inl m3)), (q4, .inl (cI, 800, .inl m4)), (q5, .inl (cI, 800, .inl m5)), (q11, .inl (cI, 24, .inl (jl [t0, t1, t2, t3, nI d0, t5, nI r0, t7, 1, 1, t10, t11, t12, t13, t14, t15, t16, t17, t18, t19, t20, t21, t22, t23])))] sz) (fun u : va_W => u)) (va_A [(mo, .inr (6, [.int z0, .ref q1, .int (nI g), .ref q3, .ref q4, .ref q5, .ref q6, .int 1, .int gr, .int kd, .long w10, .ref q11, .int mk, .long w13, .long w14])), (q3, .inl (cI, 800, .inl m3)), (q4, .inl (cI, 800, .inl m4)), (q5, .inl (cI, 800, .inl m5)), (q11, .inl (cI, 24, .inl (jl [t0, t1, t2, t3, nI d0, t5, nI r0, t7, 1, 1, t10, t11, t12, t13, t14, t15, t16, t17, t18, t19, t20, t21, t22, t23])))] sz)) 0 0 (va_A [(mo, .inr (6, [.int z0, .ref q1, .int (nI g), .ref q3, .ref q4, .ref q5, .ref q6, .int 1, .int gr, .int kd, .long w10, .ref q11, .int mk, .long w13, .long w14])), (q3, .inl (cI, 800, .inl m3)), (q4, .inl (cI, 800, .inl m4)), (q5, .inl (cI, 800, .inl m5)), (q11, .inl (cI, 24, .inl (jl [t0, t1, t2, t3, nI d0, t5, nI r0, t7, 1, 1, t10, t11, t12, t13, t14, t15, t16, t17, t18, t19, t20, t21, t22, t23])))] sz) := by
  refine Met.ofW (cc := cX6_pair) (maxL := 5) (ret := (some .int)) (by decide) rfl ?_
  intro p e s m args below meth c s₁ B hml hv
  obtain ⟨rfl, hsz, hP, hK, hN, hD0⟩ := hv
  have hx := B.exec
  have hb := B.bytes
  have hr := B.returns
  have hts := atoms_spec (ws := wsX6_pair) B.pre
  have hown : s.vm.findClass RX6 = some m.cls := findClass_of_methodNamed B.named
  have hlocks := B.notSynchronized
  subst hsz
  have hD := hD0.self (sz := s.heap.size)
  generalize hAe : va_A [(mo, .inr (6, [.int z0, .ref q1, .int (nI g), .ref q3, .ref q4, .ref q5, .ref q6, .int 1, .int gr, .int kd, .long w10, .ref q11, .int mk, .long w13, .long w14])), (q3, .inl (cI, 800, .inl m3)), (q4, .inl (cI, 800, .inl m4)), (q5, .inl (cI, 800, .inl m5)), (q11, .inl (cI, 24, .inl (jl [t0, t1, t2, t3, nI d0, t5, nI r0, t7, 1, 1, t10, t11, t12, t13, t14, t15, t16, t17, t18, t19, t20, t21, t22, t23])))] s.heap.size = A at hD ⊢
  have hA : ∀ q : Nat, s.heap.size ≤ q → A q := fun q h => by rw [← hAe]; exact Or.inr h
  have hS : va_S A s.heap s.heap [] := va_S.rf
  have hl := lv_entry ([.ref mo, .int 1]) (n := 5) (Nat.le_of_ble_eq_true rfl)
  rw [lg_entry_eq]
  generalize (lg_sl ([.ref mo, .int 1]) ++ List.replicate (5 - (lg_sl ([.ref mo, .int 1])).length) Slot.unset).toArray = ls at hl ⊢
  have hl : lv_has ls 5 [(0, .ref mo), (1, .int 1)] := hl
  refine lv_aload_n hx hb dX6_pair_0 rfl (lv_at hl 0 rfl) ?_
  refine lv_iload_n hx hb dX6_pair_1 rfl (lv_at hl 1 rfl) ?_
  refine lv_if_lt (tgt := 10) hx hb dX6_pair_2 (by decide) (fun c_1 => absurd c_1 (by decide)) (fun c_1 => ?_)
  refine lv_iload_n hx hb dX6_pair_5 rfl (lv_at hl 1 rfl) ?_
  refine lv_iconst (v := 4) hx hb dX6_pair_6 (by decide) ?_
  refine lv_icmp_le (tgt := 14) hx hb dX6_pair_7 (by decide) (fun c_2 => ?_) (fun c_2 => absurd c_2 (by decide))
  refine lv_iconst (v := 0) hx hb dX6_pair_14 (by decide) ?_
  refine jw_i (wr := [(q3, .inl (cI, 800, .inl m3)), (q4, .inl (cI, 800, .inl m4)), (q5, .inl (cI, 800, .inl m5)), (q11, .inl (cI, 24, .inl (jl [t0, t1, t2, t3, nI d0, t5, nI r0, t7, 1, 1, t10, t11, t12, t13, t14, t15, t16, t17, t18, t19, t20, t21, t22, t23])))]) (va_runV (As := [.int 0]) (rest := []) ⟨hx, hb, hml, hown, hts⟩ (gM_refuses_0 l D cI cL cQ mo g q1 q3 q4 q5 q6 q11 z0 1 gr kd mk w10 w13 w14 _) (cwV 1 hts gX6_pair_X6_refuses rfl rfl rfl (by decide +kernel) ⟨Nat.le_of_ble_eq_true rfl, Nat.le_of_ble_eq_true rfl⟩) (jw_V hK hN hP hD [0] (by decide) rfl 6 0 rfl rfl rfl) rfl rfl hl.1 rfl (lv_room (Nat.le_of_ble_eq_true rfl)) dX6_pair_15 ⟨Nat.le_of_ble_eq_true rfl, Nat.le_of_ble_eq_true rfl⟩) hP hD hS hA [0] [1, 2, 3, 4] rfl rfl (by decide) (by decide) (fun r u H locs f_3 hP hD hS => ?_)
  obtain ⟨rfl, rfl⟩ := f_3
  have hP : va_P D vwCl [(q3, .inl (cI, 800, .inl m3)), (q4, .inl (cI, 800, .inl m4)), (q5, .inl (cI, 800, .inl m5)), (q11, .inl (cI, 24, .inl (jl [t0, t1, t2, t3, nI d0, t5, nI r0, t7, 1, 1, t10, t11, t12, t13, t14, t15, t16, t17, t18, t19, t20, t21, t22, t23]))), (mo, .inr (6, [.int 0, .ref q1, .int (nI g), .ref q3, .ref q4, .ref q5, .ref q6, .int 1, .int gr, .int kd, .long w10, .ref q11, .int mk, .long w13, .long w14]))] H := hP
  have hD : va_D A [(q3, .inl (cI, 800, .inl m3)), (q4, .inl (cI, 800, .inl m4)), (q5, .inl (cI, 800, .inl m5)), (q11, .inl (cI, 24, .inl (jl [t0, t1, t2, t3, nI d0, t5, nI r0, t7, 1, 1, t10, t11, t12, t13, t14, t15, t16, t17, t18, t19, t20, t21, t22, t23]))), (mo, .inr (6, [.int 0, .ref q1, .int (nI g), .ref q3, .ref q4, .ref q5, .ref q6, .int 1, .int gr, .int kd, .long w10, .ref q11, .int mk, .long w13, .long w14]))] := hD
  refine lv_if_eq (tgt := 23) hx hb dX6_pair_18 (by decide) (fun c_4 => ?_) (fun c_4 => absurd c_4 (by decide))
  refine lv_aload_n hx hb dX6_pair_23 rfl (lv_at hl 0 rfl) ?_
  refine va_get (D := D) (ci := 6) (v := .int 1) (C := RX6) (T := TX6) (N := 15) hx hb hts (by decide +kernel) hown hK hP 4 rfl rfl 7 (by decide) (hts (.fieldLink RX6 43 "JoinDeskModel" "prepared" "Z") (by decide +kernel)) (fun _ h9 => h9) rfl dX6_pair_24 ?_
  refine lv_if_eq (tgt := 45) hx hb dX6_pair_27 (by decide) (fun c_5 => absurd c_5 (by decide)) (fun c_5 => ?_)
  refine lv_aload_n hx hb dX6_pair_30 rfl (lv_at hl 0 rfl) ?_
  refine va_get (D := D) (ci := 6) (v := .ref q11) (C := RX6) (T := TX6) (N := 15) hx hb hts (by decide +kernel) hown hK hP 4 rfl rfl 11 (by decide) (hts (.fieldLink RX6 25 "JoinDeskModel" "at" "[I") (by decide +kernel)) (fun _ h9 => h9) rfl dX6_pair_31 ?_
  refine lv_bipush (v := 9) hx hb dX6_pair_34 (by decide) ?_
  refine va_iald hx hb hK hP 3 0 rfl rfl (by unfold vp_in; decide) dX6_pair_36 ?_
  refine W.eq (g2 := F0 m 37 ls [.int 1]) rfl ?_
  refine lv_iconst (v := 1) hx hb dX6_pair_37 (by decide) ?_
  refine lv_icmp_ne (tgt := 45) hx hb dX6_pair_38 (by decide) (fun c_6 => absurd c_6 (by decide)) (fun c_6 => ?_)
  refine lv_iconst (v := 1) hx hb dX6_pair_41 (by decide) ?_
  refine lv_goto (tgt := 46) hx hb dX6_pair_42 (by decide) ?_
  refine lv_istore_n (lv' := [(2, .int 1), (0, .ref mo), (1, .int 1)]) hx hb dX6_pair_46 rfl hl (by decide) rfl (fun ls hl => ?_)
  refine lv_iload_n hx hb dX6_pair_47 rfl (lv_at hl 2 rfl) ?_
  refine lv_iconst (v := 1) hx hb dX6_pair_48 (by decide) ?_
  refine lv_icmp_eq (tgt := 57) hx hb dX6_pair_49 (by decide) (fun c_7 => ?_) (fun c_7 => absurd c_7 (by decide))
  refine lv_iconst (v := 0) hx hb dX6_pair_57 (by decide) ?_
  refine lv_goto (tgt := 62) hx hb dX6_pair_58 (by decide) ?_
  refine lv_istore_n (lv' := [(3, .int 0), (2, .int 1), (0, .ref mo), (1, .int 1)]) hx hb dX6_pair_62 rfl hl (by decide) rfl (fun ls hl => ?_)
  refine lv_iload_n hx hb dX6_pair_63 rfl (lv_at hl 3 rfl) ?_
  refine lv_if_ne (tgt := 114) hx hb dX6_pair_64 (by decide) (fun c_8 => ?_) (fun c_8 => absurd c_8 (by decide))
  refine lv_iload_n hx hb dX6_pair_114 rfl (lv_at hl 1 rfl) ?_
  refine lv_if_eq (tgt := 135) hx hb dX6_pair_115 (by decide) (fun c_9 => absurd c_9 (by decide)) (fun c_9 => ?_)
  refine lv_aload_n hx hb dX6_pair_118 rfl (lv_at hl 2 rfl) ?_
  refine va_get (D := D) (ci := 6) (v := .ref q11) (C := RX6) (T := TX6) (N := 15) hx hb hts (by decide +kernel) hown hK hP 4 rfl rfl 11 (by decide) (hts (.fieldLink RX6 25 "JoinDeskModel" "at" "[I") (by decide +kernel)) (fun _ h9 => h9) rfl dX6_pair_119 ?_
  refine lv_bipush (v := 8) hx hb dX6_pair_122 (by decide) ?_
  refine va_iald hx hb hK hP 3 0 rfl rfl (by unfold vp_in; decide) dX6_pair_124 ?_
  refine W.eq (g2 := F0 m 125 ls [.int 1]) rfl ?_
  refine lv_iconst (v := 2) hx hb dX6_pair_125 (by decide) ?_
  refine lv_iload_n hx hb dX6_pair_126 rfl (lv_at hl 0 rfl) ?_
  refine lv_isub hx hb dX6_pair_127 ?_
  refine lv_topi (fun z_10 e_z_10 => ?_)
  obtain rfl : z_10 = 2 := e_z_10.trans (by decide)
  refine lv_icmp_eq (tgt := 135) hx hb dX6_pair_128 (by decide) (fun c_11 => absurd c_11 (by decide)) (fun c_11 => ?_)
  refine lv_iconst (v := 1) hx hb dX6_pair_131 (by decide) ?_
  refine lv_goto (tgt := 136) hx hb dX6_pair_132 (by decide) ?_
  refine lv_istore (lv' := [(4, .int 1), (3, .int 0), (2, .int 1), (0, .ref mo), (1, .int 1)]) hx hb dX6_pair_136 hl (by decide) rfl (fun ls hl => ?_)
  refine lv_iload_n hx hb dX6_pair_138 rfl (lv_at hl 4 rfl) ?_
  refine lv_iconst (v := 3) hx hb dX6_pair_139 (by decide) ?_
  refine lv_icmp_ge (tgt := 169) hx hb dX6_pair_140 (by decide) (fun c_12 => absurd c_12 (by decide)) (fun c_12 => ?_)
  refine lv_iload hx hb dX6_pair_143 (lv_at hl 0 rfl) ?_
  refine lv_if_eq (tgt := 165) hx hb dX6_pair_145 (by decide) (fun c_13 => absurd c_13 (by decide)) (fun c_13 => ?_)
  refine lv_aload_n hx hb dX6_pair_148 rfl (lv_at hl 3 rfl) ?_
  refine lv_iload_n hx hb dX6_pair_149 rfl (lv_at hl 1 rfl) ?_
  refine lv_aload_n hx hb dX6_pair_150 rfl (lv_at hl 3 rfl) ?_
  refine va_get (D := D) (ci := 6) (v := .ref q11) (C := RX6) (T := TX6) (N := 15) hx hb hts (by decide +kernel) hown hK hP 4 rfl rfl 11 (by decide) (hts (.fieldLink RX6 25 "JoinDeskModel" "at" "[I") (by decide +kernel)) (fun _ h9 => h9) rfl dX6_pair_151 ?_
  refine lv_bipush (v := 6) hx hb dX6_pair_154 (by decide) ?_
  refine lv_iload_n hx hb dX6_pair_156 rfl (lv_at hl 1 rfl) ?_
  refine lv_iadd hx hb dX6_pair_157 ?_
  refine lv_topi (fun z_14 e_z_14 => ?_)
  obtain rfl : z_14 = 6 := e_z_14.trans (by decide)
  refine va_iald hx hb hK hP 3 0 rfl rfl (by unfold vp_in; decide) dX6_pair_158 ?_
  refine W.eq (g2 := F0 m 159 ls [.int (nI r0), .int 0, .ref mo]) rfl ?_
  refine vp_callSi (va_Run.run (va_runV (As := [.int 0, .int (nI r0)]) (rest := []) ⟨hx, hb, hml, hown, hts⟩ (gM_value_0 l D cI cL cQ mo g q1 q3 q4 q5 q6 q11 0 1 gr kd mk w10 w13 w14 m4 m5 r0 (by first | assumption | decide | omega) (by omega)) (cwV 2 hts gX6_pair_X6_value rfl rfl rfl (by decide +kernel) ⟨Nat.le_of_ble_eq_true rfl, Nat.le_of_ble_eq_true rfl⟩) (jr_V hK hN hP [4, 1, 2] rfl 6 4 rfl rfl rfl) rfl rfl hl.1 rfl (lv_room (Nat.le_of_ble_eq_true rfl)) dX6_pair_159 ⟨Nat.le_of_ble_eq_true rfl, Nat.le_of_ble_eq_true rfl⟩)) (fun r f_15 => ?_)
  obtain rfl := f_15
  refine lv_goto (tgt := 198) hx hb dX6_pair_162 (by decide) ?_
  have hP := hP.sub (ws' := [(mo, .inr (6, [.int 0, .ref q1, .int (nI g), .ref q3, .ref q4, .ref q5, .ref q6, .int 1, .int gr, .int kd, .long w10, .ref q11, .int mk, .long w13, .long w14])), (q3, .inl (cI, 800, .inl m3)), (q4, .inl (cI, 800, .inl m4)), (q5, .inl (cI, 800, .inl m5)), (q11, .inl (cI, 24, .inl (jl [t0, t1, t2, t3, nI d0, t5, nI r0, t7, 1, 1, t10, t11, t12, t13, t14, t15, t16, t17, t18, t19, t20, t21, t22, t23])))]) [4, 0, 1, 2, 3] rfl
  have hD := hD.sub (ws' := [(mo, .inr (6, [.int 0, .ref q1, .int (nI g), .ref q3, .ref q4, .ref q5, .ref q6, .int 1, .int gr, .int kd, .long w10, .ref q11, .int mk, .long w13, .long w14])), (q3, .inl (cI, 800, .inl m3)), (q4, .inl (cI, 800, .inl m4)), (q5, .inl (cI, 800, .inl m5)), (q11, .inl (cI, 24, .inl (jl [t0, t1, t2, t3, nI d0, t5, nI r0, t7, 1, 1, t10, t11, t12, t13, t14, t15, t16, t17, t18, t19, t20, t21, t22, t23])))]) [4, 0, 1, 2, 3] (by decide) rfl
  refine W.widen (k := 0) (n := 0) (by omega) (by omega) ?_
  exact W.iret (v := jmk 0 m4 m5 r0) hx hb hr (fun t ht hW => ⟨⟨(jmk 0 m4 m5 r0), [(mo, .inr (6, [.int 0, .ref q1, .int (nI g), .ref q3, .ref q4, .ref q5, .ref q6, .int 1, .int gr, .int kd, .long w10, .ref q11, .int mk, .long w13, .long w14])), (q3, .inl (cI, 800, .inl m3)), (q4, .inl (cI, 800, .inl m4)), (q5, .inl (cI, 800, .inl m5)), (q11, .inl (cI, 24, .inl (jl [t0, t1, t2, t3, nI d0, t5, nI r0, t7, 1, 1, t10, t11, t12, t13, t14, t15, t16, t17, t18, t19, t20, t21, t22, t23])))], rfl, (⟨_, rfl, rfl⟩), by rw [ht]; exact hP, hD⟩, hS.F ht⟩) hS.2.2 dX6_pair_198
set_option maxHeartbeats 1000000 in
set_option maxRecDepth 100000 in
theorem gM_pair_21 (l : Launch) (D : va_G) (cI cL cQ : ClassId) (mo : Nat) (g : Nat) (q1 : Nat) (q3 : Nat) (q4 : Nat) (q5 : Nat) (q6 : Nat) (q11 : Nat) (z0 : Int32) (gr : Int32) (kd : Int32) (mk : Int32) (w10 : Int64) (w13 : Int64) (w14 : Int64) (m3 : Nat → Int32) (m4 : Nat → Int32) (m5 : Nat → Int32) (t0 : Int32) (t1 : Int32) (t2 : Int32) (t3 : Int32) (t4 : Int32) (t6 : Int32) (t10 : Int32) (t11 : Int32) (t12 : Int32) (t13 : Int32) (t14 : Int32) (t15 : Int32) (t16 : Int32) (t17 : Int32) (t18 : Int32) (t19 : Int32) (t20 : Int32) (t21 : Int32) (t22 : Int32) (t23 : Int32) (d1 : Nat) (r1 : Nat) (sz : Nat) (h5 : jo5 m5) (hr1 : r1 < d1) (hd1 : d1 ≤ 400) : Met l yX6_pair wsX6_pair ({ frames := 1, cells := 0, slots := 0, locals := 21 }) (jw_P D vwCl (jT cI cL cQ) cL cQ [.ref mo, .int 1] [(mo, .inr (6, [.int z0, .ref q1, .int (nI g), .ref q3, .ref q4, .ref q5, .ref q6, .int 1, .int gr, .int kd, .long w10, .ref q11, .int mk, .long w13, .long w14])), (q3, .inl (cI, 800, .inl m3)), (q4, .inl (cI, 800, .inl m4)), (q5, .inl (cI, 800, .inl m5)), (q11, .inl (cI, 24, .inl (jl [t0, t1, t2, t3, t4, nI d1, t6, nI r1, 2, 1, t10, t11, t12, t13, t14, t15, t16, t17, t18, t19, t20, t21, t22, t23])))] sz) (va_Qi (fun (r : Int32) (u : va_W) => ∃ (z9 : Int32), r = z9 ∧ u = [(mo, .inr (6, [.int 0, .ref q1, .int (nI g), .ref q3, .ref q4, .ref q5, .ref q6, .int 1, .int gr, .int kd, .long w10, .ref q11, .int mk, .long w13, .long w14])), (q3, .inl (cI, 800, .inl m3)), (q4, .inl (cI, 800, .inl m4)), (q5, .inl (cI, 800, .inl m5)), (q11, .inl (cI, 24, .inl (jl [t0, t1, t2, t3, t4, nI d1, t6, nI r1, 2, 1, t10, t11, t12, t13, t14, t15, t16, t17, t18, t19, t20, t21, t22, t23])))]) (jw_B D vwCl (va_A [(mo, .inr (6, [.int z0, .ref q1, .int (nI g), .ref q3, .ref q4, .ref q5, .ref q6, .int 1, .int gr, .int kd, .long w10, .ref q11, .int mk, .long w13, .long w14])), (q3, .inl (cI, 800, .inl m3)), (q4, .inl (cI, 800, .inl m4)), (q5, .inl (cI, 800, .inl m5)), (q11, .inl (cI, 24, .inl (jl [t0, t1, t2, t3, t4, nI d1, t6, nI r1, 2, 1, t10, t11, t12, t13, t14, t15, t16, t17, t18, t19, t20, t21, t22, t23])))] sz) (fun u : va_W => u)) (va_A [(mo, .inr (6, [.int z0, .ref q1, .int (nI g), .ref q3, .ref q4, .ref q5, .ref q6, .int 1, .int gr, .int kd, .long w10, .ref q11, .int mk, .long w13, .long w14])), (q3, .inl (cI, 800, .inl m3)), (q4, .inl (cI, 800, .inl m4)), (q5, .inl (cI, 800, .inl m5)), (q11, .inl (cI, 24, .inl (jl [t0, t1, t2, t3, t4, nI d1, t6, nI r1, 2, 1, t10, t11, t12, t13, t14, t15, t16, t17, t18, t19, t20, t21, t22, t23])))] sz)) 0 0 (va_A [(mo, .inr (6, [.int z0, .ref q1, .int (nI g), .ref q3, .ref q4, .ref q5, .ref q6, .int 1, .int gr, .int kd, .long w10, .ref q11, .int mk, .long w13, .long w14])), (q3, .inl (cI, 800, .inl m3)), (q4, .inl (cI, 800, .inl m4)), (q5, .inl (cI, 800, .inl m5)), (q11, .inl (cI, 24, .inl (jl [t0, t1, t2, t3, t4, nI d1, t6, nI r1, 2, 1, t10, t11, t12, t13, t14, t15, t16, t17, t18, t19, t20, t21, t22, t23])))] sz) := by
  refine Met.ofW (cc := cX6_pair) (maxL := 5) (ret := (some .int)) (by decide) rfl ?_
  intro p e s m args below meth c s₁ B hml hv
  obtain ⟨rfl, hsz, hP, hK, hN, hD0⟩ := hv
  have hx := B.exec
  have hb := B.bytes
  have hr := B.returns
  have hts := atoms_spec (ws := wsX6_pair) B.pre
  have hown : s.vm.findClass RX6 = some m.cls := findClass_of_methodNamed B.named
  have hlocks := B.notSynchronized
  subst hsz
  have hD := hD0.self (sz := s.heap.size)
  generalize hAe : va_A [(mo, .inr (6, [.int z0, .ref q1, .int (nI g), .ref q3, .ref q4, .ref q5, .ref q6, .int 1, .int gr, .int kd, .long w10, .ref q11, .int mk, .long w13, .long w14])), (q3, .inl (cI, 800, .inl m3)), (q4, .inl (cI, 800, .inl m4)), (q5, .inl (cI, 800, .inl m5)), (q11, .inl (cI, 24, .inl (jl [t0, t1, t2, t3, t4, nI d1, t6, nI r1, 2, 1, t10, t11, t12, t13, t14, t15, t16, t17, t18, t19, t20, t21, t22, t23])))] s.heap.size = A at hD ⊢
  have hA : ∀ q : Nat, s.heap.size ≤ q → A q := fun q h => by rw [← hAe]; exact Or.inr h
  have hS : va_S A s.heap s.heap [] := va_S.rf
  have hl := lv_entry ([.ref mo, .int 1]) (n := 5) (Nat.le_of_ble_eq_true rfl)
  rw [lg_entry_eq]
  generalize (lg_sl ([.ref mo, .int 1]) ++ List.replicate (5 - (lg_sl ([.ref mo, .int 1])).length) Slot.unset).toArray = ls at hl ⊢
  have hl : lv_has ls 5 [(0, .ref mo), (1, .int 1)] := hl
  refine lv_aload_n hx hb dX6_pair_0 rfl (lv_at hl 0 rfl) ?_
  refine lv_iload_n hx hb dX6_pair_1 rfl (lv_at hl 1 rfl) ?_
  refine lv_if_lt (tgt := 10) hx hb dX6_pair_2 (by decide) (fun c_1 => absurd c_1 (by decide)) (fun c_1 => ?_)
  refine lv_iload_n hx hb dX6_pair_5 rfl (lv_at hl 1 rfl) ?_
  refine lv_iconst (v := 4) hx hb dX6_pair_6 (by decide) ?_
  refine lv_icmp_le (tgt := 14) hx hb dX6_pair_7 (by decide) (fun c_2 => ?_) (fun c_2 => absurd c_2 (by decide))
  refine lv_iconst (v := 0) hx hb dX6_pair_14 (by decide) ?_
  refine jw_i (wr := [(q3, .inl (cI, 800, .inl m3)), (q4, .inl (cI, 800, .inl m4)), (q5, .inl (cI, 800, .inl m5)), (q11, .inl (cI, 24, .inl (jl [t0, t1, t2, t3, t4, nI d1, t6, nI r1, 2, 1, t10, t11, t12, t13, t14, t15, t16, t17, t18, t19, t20, t21, t22, t23])))]) (va_runV (As := [.int 0]) (rest := []) ⟨hx, hb, hml, hown, hts⟩ (gM_refuses_0 l D cI cL cQ mo g q1 q3 q4 q5 q6 q11 z0 1 gr kd mk w10 w13 w14 _) (cwV 1 hts gX6_pair_X6_refuses rfl rfl rfl (by decide +kernel) ⟨Nat.le_of_ble_eq_true rfl, Nat.le_of_ble_eq_true rfl⟩) (jw_V hK hN hP hD [0] (by decide) rfl 6 0 rfl rfl rfl) rfl rfl hl.1 rfl (lv_room (Nat.le_of_ble_eq_true rfl)) dX6_pair_15 ⟨Nat.le_of_ble_eq_true rfl, Nat.le_of_ble_eq_true rfl⟩) hP hD hS hA [0] [1, 2, 3, 4] rfl rfl (by decide) (by decide) (fun r u H locs f_3 hP hD hS => ?_)
  obtain ⟨rfl, rfl⟩ := f_3
  have hP : va_P D vwCl [(q3, .inl (cI, 800, .inl m3)), (q4, .inl (cI, 800, .inl m4)), (q5, .inl (cI, 800, .inl m5)), (q11, .inl (cI, 24, .inl (jl [t0, t1, t2, t3, t4, nI d1, t6, nI r1, 2, 1, t10, t11, t12, t13, t14, t15, t16, t17, t18, t19, t20, t21, t22, t23]))), (mo, .inr (6, [.int 0, .ref q1, .int (nI g), .ref q3, .ref q4, .ref q5, .ref q6, .int 1, .int gr, .int kd, .long w10, .ref q11, .int mk, .long w13, .long w14]))] H := hP
  have hD : va_D A [(q3, .inl (cI, 800, .inl m3)), (q4, .inl (cI, 800, .inl m4)), (q5, .inl (cI, 800, .inl m5)), (q11, .inl (cI, 24, .inl (jl [t0, t1, t2, t3, t4, nI d1, t6, nI r1, 2, 1, t10, t11, t12, t13, t14, t15, t16, t17, t18, t19, t20, t21, t22, t23]))), (mo, .inr (6, [.int 0, .ref q1, .int (nI g), .ref q3, .ref q4, .ref q5, .ref q6, .int 1, .int gr, .int kd, .long w10, .ref q11, .int mk, .long w13, .long w14]))] := hD
  refine lv_if_eq (tgt := 23) hx hb dX6_pair_18 (by decide) (fun c_4 => ?_) (fun c_4 => absurd c_4 (by decide))
  refine lv_aload_n hx hb dX6_pair_23 rfl (lv_at hl 0 rfl) ?_
  refine va_get (D := D) (ci := 6) (v := .int 1) (C := RX6) (T := TX6) (N := 15) hx hb hts (by decide +kernel) hown hK hP 4 rfl rfl 7 (by decide) (hts (.fieldLink RX6 43 "JoinDeskModel" "prepared" "Z") (by decide +kernel)) (fun _ h9 => h9) rfl dX6_pair_24 ?_
  refine lv_if_eq (tgt := 45) hx hb dX6_pair_27 (by decide) (fun c_5 => absurd c_5 (by decide)) (fun c_5 => ?_)
  refine lv_aload_n hx hb dX6_pair_30 rfl (lv_at hl 0 rfl) ?_
  refine va_get (D := D) (ci := 6) (v := .ref q11) (C := RX6) (T := TX6) (N := 15) hx hb hts (by decide +kernel) hown hK hP 4 rfl rfl 11 (by decide) (hts (.fieldLink RX6 25 "JoinDeskModel" "at" "[I") (by decide +kernel)) (fun _ h9 => h9) rfl dX6_pair_31 ?_
  refine lv_bipush (v := 9) hx hb dX6_pair_34 (by decide) ?_
  refine va_iald hx hb hK hP 3 0 rfl rfl (by unfold vp_in; decide) dX6_pair_36 ?_
  refine W.eq (g2 := F0 m 37 ls [.int 1]) rfl ?_
  refine lv_iconst (v := 1) hx hb dX6_pair_37 (by decide) ?_
  refine lv_icmp_ne (tgt := 45) hx hb dX6_pair_38 (by decide) (fun c_6 => absurd c_6 (by decide)) (fun c_6 => ?_)
  refine lv_iconst (v := 1) hx hb dX6_pair_41 (by decide) ?_
  refine lv_goto (tgt := 46) hx hb dX6_pair_42 (by decide) ?_
  refine lv_istore_n (lv' := [(2, .int 1), (0, .ref mo), (1, .int 1)]) hx hb dX6_pair_46 rfl hl (by decide) rfl (fun ls hl => ?_)
  refine lv_iload_n hx hb dX6_pair_47 rfl (lv_at hl 2 rfl) ?_
  refine lv_iconst (v := 1) hx hb dX6_pair_48 (by decide) ?_
  refine lv_icmp_eq (tgt := 57) hx hb dX6_pair_49 (by decide) (fun c_7 => ?_) (fun c_7 => absurd c_7 (by decide))
  refine lv_iconst (v := 0) hx hb dX6_pair_57 (by decide) ?_
  refine lv_goto (tgt := 62) hx hb dX6_pair_58 (by decide) ?_
  refine lv_istore_n (lv' := [(3, .int 0), (2, .int 1), (0, .ref mo), (1, .int 1)]) hx hb dX6_pair_62 rfl hl (by decide) rfl (fun ls hl => ?_)
  refine lv_iload_n hx hb dX6_pair_63 rfl (lv_at hl 3 rfl) ?_
  refine lv_if_ne (tgt := 114) hx hb dX6_pair_64 (by decide) (fun c_8 => ?_) (fun c_8 => absurd c_8 (by decide))
  refine lv_iload_n hx hb dX6_pair_114 rfl (lv_at hl 1 rfl) ?_
  refine lv_if_eq (tgt := 135) hx hb dX6_pair_115 (by decide) (fun c_9 => absurd c_9 (by decide)) (fun c_9 => ?_)
  refine lv_aload_n hx hb dX6_pair_118 rfl (lv_at hl 2 rfl) ?_
  refine va_get (D := D) (ci := 6) (v := .ref q11) (C := RX6) (T := TX6) (N := 15) hx hb hts (by decide +kernel) hown hK hP 4 rfl rfl 11 (by decide) (hts (.fieldLink RX6 25 "JoinDeskModel" "at" "[I") (by decide +kernel)) (fun _ h9 => h9) rfl dX6_pair_119 ?_
  refine lv_bipush (v := 8) hx hb dX6_pair_122 (by decide) ?_
  refine va_iald hx hb hK hP 3 0 rfl rfl (by unfold vp_in; decide) dX6_pair_124 ?_
  refine W.eq (g2 := F0 m 125 ls [.int 2]) rfl ?_
  refine lv_iconst (v := 2) hx hb dX6_pair_125 (by decide) ?_
  refine lv_iload_n hx hb dX6_pair_126 rfl (lv_at hl 0 rfl) ?_
  refine lv_isub hx hb dX6_pair_127 ?_
  refine lv_topi (fun z_10 e_z_10 => ?_)
  obtain rfl : z_10 = 2 := e_z_10.trans (by decide)
  refine lv_icmp_eq (tgt := 135) hx hb dX6_pair_128 (by decide) (fun c_11 => ?_) (fun c_11 => absurd c_11 (by decide))
  refine lv_iconst (v := 0) hx hb dX6_pair_135 (by decide) ?_
  refine lv_istore (lv' := [(4, .int 0), (3, .int 0), (2, .int 1), (0, .ref mo), (1, .int 1)]) hx hb dX6_pair_136 hl (by decide) rfl (fun ls hl => ?_)
  refine lv_iload_n hx hb dX6_pair_138 rfl (lv_at hl 4 rfl) ?_
  refine lv_iconst (v := 3) hx hb dX6_pair_139 (by decide) ?_
  refine lv_icmp_ge (tgt := 169) hx hb dX6_pair_140 (by decide) (fun c_12 => absurd c_12 (by decide)) (fun c_12 => ?_)
  refine lv_iload hx hb dX6_pair_143 (lv_at hl 0 rfl) ?_
  refine lv_if_eq (tgt := 165) hx hb dX6_pair_145 (by decide) (fun c_13 => ?_) (fun c_13 => absurd c_13 (by decide))
  refine lv_iconst (v := 0) hx hb dX6_pair_165 (by decide) ?_
  refine lv_goto (tgt := 198) hx hb dX6_pair_166 (by decide) ?_
  have hP := hP.sub (ws' := [(mo, .inr (6, [.int 0, .ref q1, .int (nI g), .ref q3, .ref q4, .ref q5, .ref q6, .int 1, .int gr, .int kd, .long w10, .ref q11, .int mk, .long w13, .long w14])), (q3, .inl (cI, 800, .inl m3)), (q4, .inl (cI, 800, .inl m4)), (q5, .inl (cI, 800, .inl m5)), (q11, .inl (cI, 24, .inl (jl [t0, t1, t2, t3, t4, nI d1, t6, nI r1, 2, 1, t10, t11, t12, t13, t14, t15, t16, t17, t18, t19, t20, t21, t22, t23])))]) [4, 0, 1, 2, 3] rfl
  have hD := hD.sub (ws' := [(mo, .inr (6, [.int 0, .ref q1, .int (nI g), .ref q3, .ref q4, .ref q5, .ref q6, .int 1, .int gr, .int kd, .long w10, .ref q11, .int mk, .long w13, .long w14])), (q3, .inl (cI, 800, .inl m3)), (q4, .inl (cI, 800, .inl m4)), (q5, .inl (cI, 800, .inl m5)), (q11, .inl (cI, 24, .inl (jl [t0, t1, t2, t3, t4, nI d1, t6, nI r1, 2, 1, t10, t11, t12, t13, t14, t15, t16, t17, t18, t19, t20, t21, t22, t23])))]) [4, 0, 1, 2, 3] (by decide) rfl
  refine W.widen (k := 0) (n := 0) (by omega) (by omega) ?_
  exact W.iret (v := 0) hx hb hr (fun t ht hW => ⟨⟨0, [(mo, .inr (6, [.int 0, .ref q1, .int (nI g), .ref q3, .ref q4, .ref q5, .ref q6, .int 1, .int gr, .int kd, .long w10, .ref q11, .int mk, .long w13, .long w14])), (q3, .inl (cI, 800, .inl m3)), (q4, .inl (cI, 800, .inl m4)), (q5, .inl (cI, 800, .inl m5)), (q11, .inl (cI, 24, .inl (jl [t0, t1, t2, t3, t4, nI d1, t6, nI r1, 2, 1, t10, t11, t12, t13, t14, t15, t16, t17, t18, t19, t20, t21, t22, t23])))], rfl, (⟨_, rfl, rfl⟩), by rw [ht]; exact hP, hD⟩, hS.F ht⟩) hS.2.2 dX6_pair_198
set_option maxHeartbeats 1000000 in
set_option maxRecDepth 100000 in
theorem gM_pair_p2 (l : Launch) (D : va_G) (cI cL cQ : ClassId) (mo : Nat) (g : Nat) (q1 : Nat) (q3 : Nat) (q4 : Nat) (q5 : Nat) (q6 : Nat) (q11 : Nat) (z0 : Int32) (gr : Int32) (kd : Int32) (mk : Int32) (w10 : Int64) (w13 : Int64) (w14 : Int64) (sz : Nat) : Met l yX6_pair wsX6_pair ({ frames := 1, cells := 0, slots := 0, locals := 21 }) (jw_P D vwCl (jT cI cL cQ) cL cQ [.ref mo, .int 2] [(mo, .inr (6, [.int z0, .ref q1, .int (nI g), .ref q3, .ref q4, .ref q5, .ref q6, .int 0, .int gr, .int kd, .long w10, .ref q11, .int mk, .long w13, .long w14]))] sz) (va_Qi (fun (r : Int32) (u : va_W) => r = 0 ∧ u = [(mo, .inr (6, [.int 0, .ref q1, .int (nI g), .ref q3, .ref q4, .ref q5, .ref q6, .int 0, .int gr, .int kd, .long w10, .ref q11, .int mk, .long w13, .long w14]))]) (jw_B D vwCl (va_A [(mo, .inr (6, [.int z0, .ref q1, .int (nI g), .ref q3, .ref q4, .ref q5, .ref q6, .int 0, .int gr, .int kd, .long w10, .ref q11, .int mk, .long w13, .long w14]))] sz) (fun u : va_W => u)) (va_A [(mo, .inr (6, [.int z0, .ref q1, .int (nI g), .ref q3, .ref q4, .ref q5, .ref q6, .int 0, .int gr, .int kd, .long w10, .ref q11, .int mk, .long w13, .long w14]))] sz)) 0 0 (va_A [(mo, .inr (6, [.int z0, .ref q1, .int (nI g), .ref q3, .ref q4, .ref q5, .ref q6, .int 0, .int gr, .int kd, .long w10, .ref q11, .int mk, .long w13, .long w14]))] sz) := by
  refine Met.ofW (cc := cX6_pair) (maxL := 5) (ret := (some .int)) (by decide) rfl ?_
  intro p e s m args below meth c s₁ B hml hv
  obtain ⟨rfl, hsz, hP, hK, hN, hD0⟩ := hv
  have hx := B.exec
  have hb := B.bytes
  have hr := B.returns
  have hts := atoms_spec (ws := wsX6_pair) B.pre
  have hown : s.vm.findClass RX6 = some m.cls := findClass_of_methodNamed B.named
  have hlocks := B.notSynchronized
  subst hsz
  have hD := hD0.self (sz := s.heap.size)
  generalize hAe : va_A [(mo, .inr (6, [.int z0, .ref q1, .int (nI g), .ref q3, .ref q4, .ref q5, .ref q6, .int 0, .int gr, .int kd, .long w10, .ref q11, .int mk, .long w13, .long w14]))] s.heap.size = A at hD ⊢
  have hA : ∀ q : Nat, s.heap.size ≤ q → A q := fun q h => by rw [← hAe]; exact Or.inr h
  have hS : va_S A s.heap s.heap [] := va_S.rf
  have hl := lv_entry ([.ref mo, .int 2]) (n := 5) (Nat.le_of_ble_eq_true rfl)
  rw [lg_entry_eq]
  generalize (lg_sl ([.ref mo, .int 2]) ++ List.replicate (5 - (lg_sl ([.ref mo, .int 2])).length) Slot.unset).toArray = ls at hl ⊢
  have hl : lv_has ls 5 [(0, .ref mo), (1, .int 2)] := hl
  refine lv_aload_n hx hb dX6_pair_0 rfl (lv_at hl 0 rfl) ?_
  refine lv_iload_n hx hb dX6_pair_1 rfl (lv_at hl 1 rfl) ?_
  refine lv_if_lt (tgt := 10) hx hb dX6_pair_2 (by decide) (fun c_1 => absurd c_1 (by decide)) (fun c_1 => ?_)
  refine lv_iload_n hx hb dX6_pair_5 rfl (lv_at hl 1 rfl) ?_
  refine lv_iconst (v := 4) hx hb dX6_pair_6 (by decide) ?_
  refine lv_icmp_le (tgt := 14) hx hb dX6_pair_7 (by decide) (fun c_2 => ?_) (fun c_2 => absurd c_2 (by decide))
  refine lv_iconst (v := 0) hx hb dX6_pair_14 (by decide) ?_
  refine jw_i (wr := []) (va_runV (As := [.int 0]) (rest := []) ⟨hx, hb, hml, hown, hts⟩ (gM_refuses_0 l D cI cL cQ mo g q1 q3 q4 q5 q6 q11 z0 0 gr kd mk w10 w13 w14 _) (cwV 1 hts gX6_pair_X6_refuses rfl rfl rfl (by decide +kernel) ⟨Nat.le_of_ble_eq_true rfl, Nat.le_of_ble_eq_true rfl⟩) (jw_V hK hN hP hD [0] (by decide) rfl 6 0 rfl rfl rfl) rfl rfl hl.1 rfl (lv_room (Nat.le_of_ble_eq_true rfl)) dX6_pair_15 ⟨Nat.le_of_ble_eq_true rfl, Nat.le_of_ble_eq_true rfl⟩) hP hD hS hA [0] [] rfl rfl (by decide) (by decide) (fun r u H locs f_3 hP hD hS => ?_)
  obtain ⟨rfl, rfl⟩ := f_3
  have hP : va_P D vwCl [(mo, .inr (6, [.int 0, .ref q1, .int (nI g), .ref q3, .ref q4, .ref q5, .ref q6, .int 0, .int gr, .int kd, .long w10, .ref q11, .int mk, .long w13, .long w14]))] H := hP
  have hD : va_D A [(mo, .inr (6, [.int 0, .ref q1, .int (nI g), .ref q3, .ref q4, .ref q5, .ref q6, .int 0, .int gr, .int kd, .long w10, .ref q11, .int mk, .long w13, .long w14]))] := hD
  refine lv_if_eq (tgt := 23) hx hb dX6_pair_18 (by decide) (fun c_4 => ?_) (fun c_4 => absurd c_4 (by decide))
  refine lv_aload_n hx hb dX6_pair_23 rfl (lv_at hl 0 rfl) ?_
  refine va_get (D := D) (ci := 6) (v := .int 0) (C := RX6) (T := TX6) (N := 15) hx hb hts (by decide +kernel) hown hK hP 0 rfl rfl 7 (by decide) (hts (.fieldLink RX6 43 "JoinDeskModel" "prepared" "Z") (by decide +kernel)) (fun _ h9 => h9) rfl dX6_pair_24 ?_
  refine lv_if_eq (tgt := 45) hx hb dX6_pair_27 (by decide) (fun c_5 => ?_) (fun c_5 => absurd c_5 (by decide))
  refine lv_iconst (v := 0) hx hb dX6_pair_45 (by decide) ?_
  refine lv_istore_n (lv' := [(2, .int 0), (0, .ref mo), (1, .int 2)]) hx hb dX6_pair_46 rfl hl (by decide) rfl (fun ls hl => ?_)
  refine lv_iload_n hx hb dX6_pair_47 rfl (lv_at hl 2 rfl) ?_
  refine lv_iconst (v := 1) hx hb dX6_pair_48 (by decide) ?_
  refine lv_icmp_eq (tgt := 57) hx hb dX6_pair_49 (by decide) (fun c_6 => absurd c_6 (by decide)) (fun c_6 => ?_)
  refine lv_iload_n hx hb dX6_pair_52 rfl (lv_at hl 2 rfl) ?_
  refine lv_iconst (v := 3) hx hb dX6_pair_53 (by decide) ?_
  refine lv_icmp_ne (tgt := 61) hx hb dX6_pair_54 (by decide) (fun c_7 => ?_) (fun c_7 => absurd c_7 (by decide))
  refine lv_iconst (v := 1) hx hb dX6_pair_61 (by decide) ?_
  refine lv_istore_n (lv' := [(3, .int 1), (2, .int 0), (0, .ref mo), (1, .int 2)]) hx hb dX6_pair_62 rfl hl (by decide) rfl (fun ls hl => ?_)
  refine lv_iload_n hx hb dX6_pair_63 rfl (lv_at hl 3 rfl) ?_
  refine lv_if_ne (tgt := 114) hx hb dX6_pair_64 (by decide) (fun c_8 => ?_) (fun c_8 => absurd c_8 (by decide))
  refine lv_iload_n hx hb dX6_pair_114 rfl (lv_at hl 1 rfl) ?_
  refine lv_if_eq (tgt := 135) hx hb dX6_pair_115 (by decide) (fun c_9 => ?_) (fun c_9 => absurd c_9 (by decide))
  refine lv_iconst (v := 0) hx hb dX6_pair_135 (by decide) ?_
  refine lv_istore (lv' := [(4, .int 0), (3, .int 1), (2, .int 0), (0, .ref mo), (1, .int 2)]) hx hb dX6_pair_136 hl (by decide) rfl (fun ls hl => ?_)
  refine lv_iload_n hx hb dX6_pair_138 rfl (lv_at hl 4 rfl) ?_
  refine lv_iconst (v := 3) hx hb dX6_pair_139 (by decide) ?_
  refine lv_icmp_ge (tgt := 169) hx hb dX6_pair_140 (by decide) (fun c_10 => absurd c_10 (by decide)) (fun c_10 => ?_)
  refine lv_iload hx hb dX6_pair_143 (lv_at hl 0 rfl) ?_
  refine lv_if_eq (tgt := 165) hx hb dX6_pair_145 (by decide) (fun c_11 => ?_) (fun c_11 => absurd c_11 (by decide))
  refine lv_iconst (v := 0) hx hb dX6_pair_165 (by decide) ?_
  refine lv_goto (tgt := 198) hx hb dX6_pair_166 (by decide) ?_
  refine W.widen (k := 0) (n := 0) (by omega) (by omega) ?_
  exact W.iret (v := 0) hx hb hr (fun t ht hW => ⟨⟨0, [(mo, .inr (6, [.int 0, .ref q1, .int (nI g), .ref q3, .ref q4, .ref q5, .ref q6, .int 0, .int gr, .int kd, .long w10, .ref q11, .int mk, .long w13, .long w14]))], rfl, (by exact ⟨rfl, rfl⟩), by rw [ht]; exact hP, hD⟩, hS.F ht⟩) hS.2.2 dX6_pair_198
set_option maxHeartbeats 1000000 in
set_option maxRecDepth 100000 in
theorem gM_pair_n2 (l : Launch) (D : va_G) (cI cL cQ : ClassId) (mo : Nat) (g : Nat) (q1 : Nat) (q3 : Nat) (q4 : Nat) (q5 : Nat) (q6 : Nat) (q11 : Nat) (z0 : Int32) (gr : Int32) (kd : Int32) (mk : Int32) (w10 : Int64) (w13 : Int64) (w14 : Int64) (m3 : Nat → Int32) (m4 : Nat → Int32) (m5 : Nat → Int32) (t0 : Int32) (t1 : Int32) (t2 : Int32) (t3 : Int32) (t4 : Int32) (t5 : Int32) (t6 : Int32) (t7 : Int32) (t8 : Int32) (t10 : Int32) (t11 : Int32) (t12 : Int32) (t13 : Int32) (t14 : Int32) (t15 : Int32) (t16 : Int32) (t17 : Int32) (t18 : Int32) (t19 : Int32) (t20 : Int32) (t21 : Int32) (t22 : Int32) (t23 : Int32) (sz : Nat) (h5 : jo5 m5) : Met l yX6_pair wsX6_pair ({ frames := 1, cells := 0, slots := 0, locals := 21 }) (jw_P D vwCl (jT cI cL cQ) cL cQ [.ref mo, .int 2] [(mo, .inr (6, [.int z0, .ref q1, .int (nI g), .ref q3, .ref q4, .ref q5, .ref q6, .int 1, .int gr, .int kd, .long w10, .ref q11, .int mk, .long w13, .long w14])), (q3, .inl (cI, 800, .inl m3)), (q4, .inl (cI, 800, .inl m4)), (q5, .inl (cI, 800, .inl m5)), (q11, .inl (cI, 24, .inl (jl [t0, t1, t2, t3, t4, t5, t6, t7, t8, 0, t10, t11, t12, t13, t14, t15, t16, t17, t18, t19, t20, t21, t22, t23])))] sz) (va_Qi (fun (r : Int32) (u : va_W) => ∃ (z9 : Int32), r = z9 ∧ u = [(mo, .inr (6, [.int 0, .ref q1, .int (nI g), .ref q3, .ref q4, .ref q5, .ref q6, .int 1, .int gr, .int kd, .long w10, .ref q11, .int mk, .long w13, .long w14])), (q3, .inl (cI, 800, .inl m3)), (q4, .inl (cI, 800, .inl m4)), (q5, .inl (cI, 800, .inl m5)), (q11, .inl (cI, 24, .inl (jl [t0, t1, t2, t3, t4, t5, t6, t7, t8, 0, t10, t11, t12, t13, t14, t15, t16, t17, t18, t19, t20, t21, t22, t23])))]) (jw_B D vwCl (va_A [(mo, .inr (6, [.int z0, .ref q1, .int (nI g), .ref q3, .ref q4, .ref q5, .ref q6, .int 1, .int gr, .int kd, .long w10, .ref q11, .int mk, .long w13, .long w14])), (q3, .inl (cI, 800, .inl m3)), (q4, .inl (cI, 800, .inl m4)), (q5, .inl (cI, 800, .inl m5)), (q11, .inl (cI, 24, .inl (jl [t0, t1, t2, t3, t4, t5, t6, t7, t8, 0, t10, t11, t12, t13, t14, t15, t16, t17, t18, t19, t20, t21, t22, t23])))] sz) (fun u : va_W => u)) (va_A [(mo, .inr (6, [.int z0, .ref q1, .int (nI g), .ref q3, .ref q4, .ref q5, .ref q6, .int 1, .int gr, .int kd, .long w10, .ref q11, .int mk, .long w13, .long w14])), (q3, .inl (cI, 800, .inl m3)), (q4, .inl (cI, 800, .inl m4)), (q5, .inl (cI, 800, .inl m5)), (q11, .inl (cI, 24, .inl (jl [t0, t1, t2, t3, t4, t5, t6, t7, t8, 0, t10, t11, t12, t13, t14, t15, t16, t17, t18, t19, t20, t21, t22, t23])))] sz)) 0 0 (va_A [(mo, .inr (6, [.int z0, .ref q1, .int (nI g), .ref q3, .ref q4, .ref q5, .ref q6, .int 1, .int gr, .int kd, .long w10, .ref q11, .int mk, .long w13, .long w14])), (q3, .inl (cI, 800, .inl m3)), (q4, .inl (cI, 800, .inl m4)), (q5, .inl (cI, 800, .inl m5)), (q11, .inl (cI, 24, .inl (jl [t0, t1, t2, t3, t4, t5, t6, t7, t8, 0, t10, t11, t12, t13, t14, t15, t16, t17, t18, t19, t20, t21, t22, t23])))] sz) := by
  refine Met.ofW (cc := cX6_pair) (maxL := 5) (ret := (some .int)) (by decide) rfl ?_
  intro p e s m args below meth c s₁ B hml hv
  obtain ⟨rfl, hsz, hP, hK, hN, hD0⟩ := hv
  have hx := B.exec
  have hb := B.bytes
  have hr := B.returns
  have hts := atoms_spec (ws := wsX6_pair) B.pre
  have hown : s.vm.findClass RX6 = some m.cls := findClass_of_methodNamed B.named
  have hlocks := B.notSynchronized
  subst hsz
  have hD := hD0.self (sz := s.heap.size)
  generalize hAe : va_A [(mo, .inr (6, [.int z0, .ref q1, .int (nI g), .ref q3, .ref q4, .ref q5, .ref q6, .int 1, .int gr, .int kd, .long w10, .ref q11, .int mk, .long w13, .long w14])), (q3, .inl (cI, 800, .inl m3)), (q4, .inl (cI, 800, .inl m4)), (q5, .inl (cI, 800, .inl m5)), (q11, .inl (cI, 24, .inl (jl [t0, t1, t2, t3, t4, t5, t6, t7, t8, 0, t10, t11, t12, t13, t14, t15, t16, t17, t18, t19, t20, t21, t22, t23])))] s.heap.size = A at hD ⊢
  have hA : ∀ q : Nat, s.heap.size ≤ q → A q := fun q h => by rw [← hAe]; exact Or.inr h
  have hS : va_S A s.heap s.heap [] := va_S.rf
  have hl := lv_entry ([.ref mo, .int 2]) (n := 5) (Nat.le_of_ble_eq_true rfl)
  rw [lg_entry_eq]
  generalize (lg_sl ([.ref mo, .int 2]) ++ List.replicate (5 - (lg_sl ([.ref mo, .int 2])).length) Slot.unset).toArray = ls at hl ⊢
  have hl : lv_has ls 5 [(0, .ref mo), (1, .int 2)] := hl
  refine lv_aload_n hx hb dX6_pair_0 rfl (lv_at hl 0 rfl) ?_
  refine lv_iload_n hx hb dX6_pair_1 rfl (lv_at hl 1 rfl) ?_
  refine lv_if_lt (tgt := 10) hx hb dX6_pair_2 (by decide) (fun c_1 => absurd c_1 (by decide)) (fun c_1 => ?_)
  refine lv_iload_n hx hb dX6_pair_5 rfl (lv_at hl 1 rfl) ?_
  refine lv_iconst (v := 4) hx hb dX6_pair_6 (by decide) ?_
  refine lv_icmp_le (tgt := 14) hx hb dX6_pair_7 (by decide) (fun c_2 => ?_) (fun c_2 => absurd c_2 (by decide))
  refine lv_iconst (v := 0) hx hb dX6_pair_14 (by decide) ?_
  refine jw_i (wr := [(q3, .inl (cI, 800, .inl m3)), (q4, .inl (cI, 800, .inl m4)), (q5, .inl (cI, 800, .inl m5)), (q11, .inl (cI, 24, .inl (jl [t0, t1, t2, t3, t4, t5, t6, t7, t8, 0, t10, t11, t12, t13, t14, t15, t16, t17, t18, t19, t20, t21, t22, t23])))]) (va_runV (As := [.int 0]) (rest := []) ⟨hx, hb, hml, hown, hts⟩ (gM_refuses_0 l D cI cL cQ mo g q1 q3 q4 q5 q6 q11 z0 1 gr kd mk w10 w13 w14 _) (cwV 1 hts gX6_pair_X6_refuses rfl rfl rfl (by decide +kernel) ⟨Nat.le_of_ble_eq_true rfl, Nat.le_of_ble_eq_true rfl⟩) (jw_V hK hN hP hD [0] (by decide) rfl 6 0 rfl rfl rfl) rfl rfl hl.1 rfl (lv_room (Nat.le_of_ble_eq_true rfl)) dX6_pair_15 ⟨Nat.le_of_ble_eq_true rfl, Nat.le_of_ble_eq_true rfl⟩) hP hD hS hA [0] [1, 2, 3, 4] rfl rfl (by decide) (by decide) (fun r u H locs f_3 hP hD hS => ?_)
  obtain ⟨rfl, rfl⟩ := f_3
  have hP : va_P D vwCl [(q3, .inl (cI, 800, .inl m3)), (q4, .inl (cI, 800, .inl m4)), (q5, .inl (cI, 800, .inl m5)), (q11, .inl (cI, 24, .inl (jl [t0, t1, t2, t3, t4, t5, t6, t7, t8, 0, t10, t11, t12, t13, t14, t15, t16, t17, t18, t19, t20, t21, t22, t23]))), (mo, .inr (6, [.int 0, .ref q1, .int (nI g), .ref q3, .ref q4, .ref q5, .ref q6, .int 1, .int gr, .int kd, .long w10, .ref q11, .int mk, .long w13, .long w14]))] H := hP
  have hD : va_D A [(q3, .inl (cI, 800, .inl m3)), (q4, .inl (cI, 800, .inl m4)), (q5, .inl (cI, 800, .inl m5)), (q11, .inl (cI, 24, .inl (jl [t0, t1, t2, t3, t4, t5, t6, t7, t8, 0, t10, t11, t12, t13, t14, t15, t16, t17, t18, t19, t20, t21, t22, t23]))), (mo, .inr (6, [.int 0, .ref q1, .int (nI g), .ref q3, .ref q4, .ref q5, .ref q6, .int 1, .int gr, .int kd, .long w10, .ref q11, .int mk, .long w13, .long w14]))] := hD
  refine lv_if_eq (tgt := 23) hx hb dX6_pair_18 (by decide) (fun c_4 => ?_) (fun c_4 => absurd c_4 (by decide))
  refine lv_aload_n hx hb dX6_pair_23 rfl (lv_at hl 0 rfl) ?_
  refine va_get (D := D) (ci := 6) (v := .int 1) (C := RX6) (T := TX6) (N := 15) hx hb hts (by decide +kernel) hown hK hP 4 rfl rfl 7 (by decide) (hts (.fieldLink RX6 43 "JoinDeskModel" "prepared" "Z") (by decide +kernel)) (fun _ h9 => h9) rfl dX6_pair_24 ?_
  refine lv_if_eq (tgt := 45) hx hb dX6_pair_27 (by decide) (fun c_5 => absurd c_5 (by decide)) (fun c_5 => ?_)
  refine lv_aload_n hx hb dX6_pair_30 rfl (lv_at hl 0 rfl) ?_
  refine va_get (D := D) (ci := 6) (v := .ref q11) (C := RX6) (T := TX6) (N := 15) hx hb hts (by decide +kernel) hown hK hP 4 rfl rfl 11 (by decide) (hts (.fieldLink RX6 25 "JoinDeskModel" "at" "[I") (by decide +kernel)) (fun _ h9 => h9) rfl dX6_pair_31 ?_
  refine lv_bipush (v := 9) hx hb dX6_pair_34 (by decide) ?_
  refine va_iald hx hb hK hP 3 0 rfl rfl (by unfold vp_in; decide) dX6_pair_36 ?_
  refine W.eq (g2 := F0 m 37 ls [.int 0]) rfl ?_
  refine lv_iconst (v := 1) hx hb dX6_pair_37 (by decide) ?_
  refine lv_icmp_ne (tgt := 45) hx hb dX6_pair_38 (by decide) (fun c_6 => ?_) (fun c_6 => absurd c_6 (by decide))
  refine lv_iconst (v := 0) hx hb dX6_pair_45 (by decide) ?_
  refine lv_istore_n (lv' := [(2, .int 0), (0, .ref mo), (1, .int 2)]) hx hb dX6_pair_46 rfl hl (by decide) rfl (fun ls hl => ?_)
  refine lv_iload_n hx hb dX6_pair_47 rfl (lv_at hl 2 rfl) ?_
  refine lv_iconst (v := 1) hx hb dX6_pair_48 (by decide) ?_
  refine lv_icmp_eq (tgt := 57) hx hb dX6_pair_49 (by decide) (fun c_7 => absurd c_7 (by decide)) (fun c_7 => ?_)
  refine lv_iload_n hx hb dX6_pair_52 rfl (lv_at hl 2 rfl) ?_
  refine lv_iconst (v := 3) hx hb dX6_pair_53 (by decide) ?_
  refine lv_icmp_ne (tgt := 61) hx hb dX6_pair_54 (by decide) (fun c_8 => ?_) (fun c_8 => absurd c_8 (by decide))
  refine lv_iconst (v := 1) hx hb dX6_pair_61 (by decide) ?_
  refine lv_istore_n (lv' := [(3, .int 1), (2, .int 0), (0, .ref mo), (1, .int 2)]) hx hb dX6_pair_62 rfl hl (by decide) rfl (fun ls hl => ?_)
  refine lv_iload_n hx hb dX6_pair_63 rfl (lv_at hl 3 rfl) ?_
  refine lv_if_ne (tgt := 114) hx hb dX6_pair_64 (by decide) (fun c_9 => ?_) (fun c_9 => absurd c_9 (by decide))
  refine lv_iload_n hx hb dX6_pair_114 rfl (lv_at hl 1 rfl) ?_
  refine lv_if_eq (tgt := 135) hx hb dX6_pair_115 (by decide) (fun c_10 => ?_) (fun c_10 => absurd c_10 (by decide))
  refine lv_iconst (v := 0) hx hb dX6_pair_135 (by decide) ?_
  refine lv_istore (lv' := [(4, .int 0), (3, .int 1), (2, .int 0), (0, .ref mo), (1, .int 2)]) hx hb dX6_pair_136 hl (by decide) rfl (fun ls hl => ?_)
  refine lv_iload_n hx hb dX6_pair_138 rfl (lv_at hl 4 rfl) ?_
  refine lv_iconst (v := 3) hx hb dX6_pair_139 (by decide) ?_
  refine lv_icmp_ge (tgt := 169) hx hb dX6_pair_140 (by decide) (fun c_11 => absurd c_11 (by decide)) (fun c_11 => ?_)
  refine lv_iload hx hb dX6_pair_143 (lv_at hl 0 rfl) ?_
  refine lv_if_eq (tgt := 165) hx hb dX6_pair_145 (by decide) (fun c_12 => ?_) (fun c_12 => absurd c_12 (by decide))
  refine lv_iconst (v := 0) hx hb dX6_pair_165 (by decide) ?_
  refine lv_goto (tgt := 198) hx hb dX6_pair_166 (by decide) ?_
  have hP := hP.sub (ws' := [(mo, .inr (6, [.int 0, .ref q1, .int (nI g), .ref q3, .ref q4, .ref q5, .ref q6, .int 1, .int gr, .int kd, .long w10, .ref q11, .int mk, .long w13, .long w14])), (q3, .inl (cI, 800, .inl m3)), (q4, .inl (cI, 800, .inl m4)), (q5, .inl (cI, 800, .inl m5)), (q11, .inl (cI, 24, .inl (jl [t0, t1, t2, t3, t4, t5, t6, t7, t8, 0, t10, t11, t12, t13, t14, t15, t16, t17, t18, t19, t20, t21, t22, t23])))]) [4, 0, 1, 2, 3] rfl
  have hD := hD.sub (ws' := [(mo, .inr (6, [.int 0, .ref q1, .int (nI g), .ref q3, .ref q4, .ref q5, .ref q6, .int 1, .int gr, .int kd, .long w10, .ref q11, .int mk, .long w13, .long w14])), (q3, .inl (cI, 800, .inl m3)), (q4, .inl (cI, 800, .inl m4)), (q5, .inl (cI, 800, .inl m5)), (q11, .inl (cI, 24, .inl (jl [t0, t1, t2, t3, t4, t5, t6, t7, t8, 0, t10, t11, t12, t13, t14, t15, t16, t17, t18, t19, t20, t21, t22, t23])))]) [4, 0, 1, 2, 3] (by decide) rfl
  refine W.widen (k := 0) (n := 0) (by omega) (by omega) ?_
  exact W.iret (v := 0) hx hb hr (fun t ht hW => ⟨⟨0, [(mo, .inr (6, [.int 0, .ref q1, .int (nI g), .ref q3, .ref q4, .ref q5, .ref q6, .int 1, .int gr, .int kd, .long w10, .ref q11, .int mk, .long w13, .long w14])), (q3, .inl (cI, 800, .inl m3)), (q4, .inl (cI, 800, .inl m4)), (q5, .inl (cI, 800, .inl m5)), (q11, .inl (cI, 24, .inl (jl [t0, t1, t2, t3, t4, t5, t6, t7, t8, 0, t10, t11, t12, t13, t14, t15, t16, t17, t18, t19, t20, t21, t22, t23])))], rfl, (⟨_, rfl, rfl⟩), by rw [ht]; exact hP, hD⟩, hS.F ht⟩) hS.2.2 dX6_pair_198
set_option maxHeartbeats 1000000 in
set_option maxRecDepth 100000 in
theorem gM_pair_02 (l : Launch) (D : va_G) (cI cL cQ : ClassId) (mo : Nat) (g : Nat) (q1 : Nat) (q3 : Nat) (q4 : Nat) (q5 : Nat) (q6 : Nat) (q11 : Nat) (z0 : Int32) (gr : Int32) (kd : Int32) (mk : Int32) (w10 : Int64) (w13 : Int64) (w14 : Int64) (m3 : Nat → Int32) (m4 : Nat → Int32) (m5 : Nat → Int32) (t0 : Int32) (t1 : Int32) (t2 : Int32) (t3 : Int32) (t10 : Int32) (t11 : Int32) (t12 : Int32) (t13 : Int32) (t14 : Int32) (t15 : Int32) (t16 : Int32) (t17 : Int32) (t18 : Int32) (t19 : Int32) (t20 : Int32) (t21 : Int32) (t22 : Int32) (t23 : Int32) (d0 : Nat) (d1 : Nat) (r0 : Nat) (r1 : Nat) (sz : Nat) (h5 : jo5 m5) (hr0 : r0 < d0) (hr1 : r1 < d1) (hd0 : d0 ≤ 400) (hd1 : d1 ≤ 400) : Met l yX6_pair wsX6_pair ({ frames := 1, cells := 0, slots := 0, locals := 22 }) (jw_P D vwCl (jT cI cL cQ) cL cQ [.ref mo, .int 2] [(mo, .inr (6, [.int z0, .ref q1, .int (nI g), .ref q3, .ref q4, .ref q5, .ref q6, .int 1, .int gr, .int kd, .long w10, .ref q11, .int mk, .long w13, .long w14])), (q3, .inl (cI, 800, .inl m3)), (q4, .inl (cI, 800, .inl m4)), (q5, .inl (cI, 800, .inl m5)), (q11, .inl (cI, 24, .inl (jl [t0, t1, t2, t3, nI d0, nI d1, nI r0, nI r1, 0, 1, t10, t11, t12, t13, t14, t15, t16, t17, t18, t19, t20, t21, t22, t23])))] sz) (va_Qi (fun (r : Int32) (u : va_W) => ∃ (z9 : Int32), r = z9 ∧ u = [(mo, .inr (6, [.int 0, .ref q1, .int (nI g), .ref q3, .ref q4, .ref q5, .ref q6, .int 1, .int gr, .int kd, .long w10, .ref q11, .int mk, .long w13, .long w14])), (q3, .inl (cI, 800, .inl m3)), (q4, .inl (cI, 800, .inl m4)), (q5, .inl (cI, 800, .inl m5)), (q11, .inl (cI, 24, .inl (jl [t0, t1, t2, t3, nI d0, nI d1, nI r0, nI r1, 0, 1, t10, t11, t12, t13, t14, t15, t16, t17, t18, t19, t20, t21, t22, t23])))]) (jw_B D vwCl (va_A [(mo, .inr (6, [.int z0, .ref q1, .int (nI g), .ref q3, .ref q4, .ref q5, .ref q6, .int 1, .int gr, .int kd, .long w10, .ref q11, .int mk, .long w13, .long w14])), (q3, .inl (cI, 800, .inl m3)), (q4, .inl (cI, 800, .inl m4)), (q5, .inl (cI, 800, .inl m5)), (q11, .inl (cI, 24, .inl (jl [t0, t1, t2, t3, nI d0, nI d1, nI r0, nI r1, 0, 1, t10, t11, t12, t13, t14, t15, t16, t17, t18, t19, t20, t21, t22, t23])))] sz) (fun u : va_W => u)) (va_A [(mo, .inr (6, [.int z0, .ref q1, .int (nI g), .ref q3, .ref q4, .ref q5, .ref q6, .int 1, .int gr, .int kd, .long w10, .ref q11, .int mk, .long w13, .long w14])), (q3, .inl (cI, 800, .inl m3)), (q4, .inl (cI, 800, .inl m4)), (q5, .inl (cI, 800, .inl m5)), (q11, .inl (cI, 24, .inl (jl [t0, t1, t2, t3, nI d0, nI d1, nI r0, nI r1, 0, 1, t10, t11, t12, t13, t14, t15, t16, t17, t18, t19, t20, t21, t22, t23])))] sz)) 0 0 (va_A [(mo, .inr (6, [.int z0, .ref q1, .int (nI g), .ref q3, .ref q4, .ref q5, .ref q6, .int 1, .int gr, .int kd, .long w10, .ref q11, .int mk, .long w13, .long w14])), (q3, .inl (cI, 800, .inl m3)), (q4, .inl (cI, 800, .inl m4)), (q5, .inl (cI, 800, .inl m5)), (q11, .inl (cI, 24, .inl (jl [t0, t1, t2, t3, nI d0, nI d1, nI r0, nI r1, 0, 1, t10, t11, t12, t13, t14, t15, t16, t17, t18, t19, t20, t21, t22, t23])))] sz) := by
  refine Met.ofW (cc := cX6_pair) (maxL := 5) (ret := (some .int)) (by decide) rfl ?_
  intro p e s m args below meth c s₁ B hml hv
  obtain ⟨rfl, hsz, hP, hK, hN, hD0⟩ := hv
  have hx := B.exec
  have hb := B.bytes
  have hr := B.returns
  have hts := atoms_spec (ws := wsX6_pair) B.pre
  have hown : s.vm.findClass RX6 = some m.cls := findClass_of_methodNamed B.named
  have hlocks := B.notSynchronized
  subst hsz
  have hD := hD0.self (sz := s.heap.size)
  generalize hAe : va_A [(mo, .inr (6, [.int z0, .ref q1, .int (nI g), .ref q3, .ref q4, .ref q5, .ref q6, .int 1, .int gr, .int kd, .long w10, .ref q11, .int mk, .long w13, .long w14])), (q3, .inl (cI, 800, .inl m3)), (q4, .inl (cI, 800, .inl m4)), (q5, .inl (cI, 800, .inl m5)), (q11, .inl (cI, 24, .inl (jl [t0, t1, t2, t3, nI d0, nI d1, nI r0, nI r1, 0, 1, t10, t11, t12, t13, t14, t15, t16, t17, t18, t19, t20, t21, t22, t23])))] s.heap.size = A at hD ⊢
  have hA : ∀ q : Nat, s.heap.size ≤ q → A q := fun q h => by rw [← hAe]; exact Or.inr h
  have hS : va_S A s.heap s.heap [] := va_S.rf
  have hl := lv_entry ([.ref mo, .int 2]) (n := 5) (Nat.le_of_ble_eq_true rfl)
  rw [lg_entry_eq]
  generalize (lg_sl ([.ref mo, .int 2]) ++ List.replicate (5 - (lg_sl ([.ref mo, .int 2])).length) Slot.unset).toArray = ls at hl ⊢
  have hl : lv_has ls 5 [(0, .ref mo), (1, .int 2)] := hl
  refine lv_aload_n hx hb dX6_pair_0 rfl (lv_at hl 0 rfl) ?_
  refine lv_iload_n hx hb dX6_pair_1 rfl (lv_at hl 1 rfl) ?_
  refine lv_if_lt (tgt := 10) hx hb dX6_pair_2 (by decide) (fun c_1 => absurd c_1 (by decide)) (fun c_1 => ?_)
  refine lv_iload_n hx hb dX6_pair_5 rfl (lv_at hl 1 rfl) ?_
  refine lv_iconst (v := 4) hx hb dX6_pair_6 (by decide) ?_
  refine lv_icmp_le (tgt := 14) hx hb dX6_pair_7 (by decide) (fun c_2 => ?_) (fun c_2 => absurd c_2 (by decide))
  refine lv_iconst (v := 0) hx hb dX6_pair_14 (by decide) ?_
  refine jw_i (wr := [(q3, .inl (cI, 800, .inl m3)), (q4, .inl (cI, 800, .inl m4)), (q5, .inl (cI, 800, .inl m5)), (q11, .inl (cI, 24, .inl (jl [t0, t1, t2, t3, nI d0, nI d1, nI r0, nI r1, 0, 1, t10, t11, t12, t13, t14, t15, t16, t17, t18, t19, t20, t21, t22, t23])))]) (va_runV (As := [.int 0]) (rest := []) ⟨hx, hb, hml, hown, hts⟩ (gM_refuses_0 l D cI cL cQ mo g q1 q3 q4 q5 q6 q11 z0 1 gr kd mk w10 w13 w14 _) (cwV 1 hts gX6_pair_X6_refuses rfl rfl rfl (by decide +kernel) ⟨Nat.le_of_ble_eq_true rfl, Nat.le_of_ble_eq_true rfl⟩) (jw_V hK hN hP hD [0] (by decide) rfl 6 0 rfl rfl rfl) rfl rfl hl.1 rfl (lv_room (Nat.le_of_ble_eq_true rfl)) dX6_pair_15 ⟨Nat.le_of_ble_eq_true rfl, Nat.le_of_ble_eq_true rfl⟩) hP hD hS hA [0] [1, 2, 3, 4] rfl rfl (by decide) (by decide) (fun r u H locs f_3 hP hD hS => ?_)
  obtain ⟨rfl, rfl⟩ := f_3
  have hP : va_P D vwCl [(q3, .inl (cI, 800, .inl m3)), (q4, .inl (cI, 800, .inl m4)), (q5, .inl (cI, 800, .inl m5)), (q11, .inl (cI, 24, .inl (jl [t0, t1, t2, t3, nI d0, nI d1, nI r0, nI r1, 0, 1, t10, t11, t12, t13, t14, t15, t16, t17, t18, t19, t20, t21, t22, t23]))), (mo, .inr (6, [.int 0, .ref q1, .int (nI g), .ref q3, .ref q4, .ref q5, .ref q6, .int 1, .int gr, .int kd, .long w10, .ref q11, .int mk, .long w13, .long w14]))] H := hP
  have hD : va_D A [(q3, .inl (cI, 800, .inl m3)), (q4, .inl (cI, 800, .inl m4)), (q5, .inl (cI, 800, .inl m5)), (q11, .inl (cI, 24, .inl (jl [t0, t1, t2, t3, nI d0, nI d1, nI r0, nI r1, 0, 1, t10, t11, t12, t13, t14, t15, t16, t17, t18, t19, t20, t21, t22, t23]))), (mo, .inr (6, [.int 0, .ref q1, .int (nI g), .ref q3, .ref q4, .ref q5, .ref q6, .int 1, .int gr, .int kd, .long w10, .ref q11, .int mk, .long w13, .long w14]))] := hD
  refine lv_if_eq (tgt := 23) hx hb dX6_pair_18 (by decide) (fun c_4 => ?_) (fun c_4 => absurd c_4 (by decide))
  refine lv_aload_n hx hb dX6_pair_23 rfl (lv_at hl 0 rfl) ?_
  refine va_get (D := D) (ci := 6) (v := .int 1) (C := RX6) (T := TX6) (N := 15) hx hb hts (by decide +kernel) hown hK hP 4 rfl rfl 7 (by decide) (hts (.fieldLink RX6 43 "JoinDeskModel" "prepared" "Z") (by decide +kernel)) (fun _ h9 => h9) rfl dX6_pair_24 ?_
  refine lv_if_eq (tgt := 45) hx hb dX6_pair_27 (by decide) (fun c_5 => absurd c_5 (by decide)) (fun c_5 => ?_)
  refine lv_aload_n hx hb dX6_pair_30 rfl (lv_at hl 0 rfl) ?_
  refine va_get (D := D) (ci := 6) (v := .ref q11) (C := RX6) (T := TX6) (N := 15) hx hb hts (by decide +kernel) hown hK hP 4 rfl rfl 11 (by decide) (hts (.fieldLink RX6 25 "JoinDeskModel" "at" "[I") (by decide +kernel)) (fun _ h9 => h9) rfl dX6_pair_31 ?_
  refine lv_bipush (v := 9) hx hb dX6_pair_34 (by decide) ?_
  refine va_iald hx hb hK hP 3 0 rfl rfl (by unfold vp_in; decide) dX6_pair_36 ?_
  refine W.eq (g2 := F0 m 37 ls [.int 1]) rfl ?_
  refine lv_iconst (v := 1) hx hb dX6_pair_37 (by decide) ?_
  refine lv_icmp_ne (tgt := 45) hx hb dX6_pair_38 (by decide) (fun c_6 => absurd c_6 (by decide)) (fun c_6 => ?_)
  refine lv_iconst (v := 1) hx hb dX6_pair_41 (by decide) ?_
  refine lv_goto (tgt := 46) hx hb dX6_pair_42 (by decide) ?_
  refine lv_istore_n (lv' := [(2, .int 1), (0, .ref mo), (1, .int 2)]) hx hb dX6_pair_46 rfl hl (by decide) rfl (fun ls hl => ?_)
  refine lv_iload_n hx hb dX6_pair_47 rfl (lv_at hl 2 rfl) ?_
  refine lv_iconst (v := 1) hx hb dX6_pair_48 (by decide) ?_
  refine lv_icmp_eq (tgt := 57) hx hb dX6_pair_49 (by decide) (fun c_7 => absurd c_7 (by decide)) (fun c_7 => ?_)
  refine lv_iload_n hx hb dX6_pair_52 rfl (lv_at hl 2 rfl) ?_
  refine lv_iconst (v := 3) hx hb dX6_pair_53 (by decide) ?_
  refine lv_icmp_ne (tgt := 61) hx hb dX6_pair_54 (by decide) (fun c_8 => ?_) (fun c_8 => absurd c_8 (by decide))
  refine lv_iconst (v := 1) hx hb dX6_pair_61 (by decide) ?_
  refine lv_istore_n (lv' := [(3, .int 1), (2, .int 1), (0, .ref mo), (1, .int 2)]) hx hb dX6_pair_62 rfl hl (by decide) rfl (fun ls hl => ?_)
  refine lv_iload_n hx hb dX6_pair_63 rfl (lv_at hl 3 rfl) ?_
  refine lv_if_ne (tgt := 114) hx hb dX6_pair_64 (by decide) (fun c_9 => ?_) (fun c_9 => absurd c_9 (by decide))
  refine lv_iload_n hx hb dX6_pair_114 rfl (lv_at hl 1 rfl) ?_
  refine lv_if_eq (tgt := 135) hx hb dX6_pair_115 (by decide) (fun c_10 => absurd c_10 (by decide)) (fun c_10 => ?_)
  refine lv_aload_n hx hb dX6_pair_118 rfl (lv_at hl 2 rfl) ?_
  refine va_get (D := D) (ci := 6) (v := .ref q11) (C := RX6) (T := TX6) (N := 15) hx hb hts (by decide +kernel) hown hK hP 4 rfl rfl 11 (by decide) (hts (.fieldLink RX6 25 "JoinDeskModel" "at" "[I") (by decide +kernel)) (fun _ h9 => h9) rfl dX6_pair_119 ?_
  refine lv_bipush (v := 8) hx hb dX6_pair_122 (by decide) ?_
  refine va_iald hx hb hK hP 3 0 rfl rfl (by unfold vp_in; decide) dX6_pair_124 ?_
  refine W.eq (g2 := F0 m 125 ls [.int 0]) rfl ?_
  refine lv_iconst (v := 2) hx hb dX6_pair_125 (by decide) ?_
  refine lv_iload_n hx hb dX6_pair_126 rfl (lv_at hl 0 rfl) ?_
  refine lv_isub hx hb dX6_pair_127 ?_
  refine lv_topi (fun z_11 e_z_11 => ?_)
  obtain rfl : z_11 = 1 := e_z_11.trans (by decide)
  refine lv_icmp_eq (tgt := 135) hx hb dX6_pair_128 (by decide) (fun c_12 => absurd c_12 (by decide)) (fun c_12 => ?_)
  refine lv_iconst (v := 1) hx hb dX6_pair_131 (by decide) ?_
  refine lv_goto (tgt := 136) hx hb dX6_pair_132 (by decide) ?_
  refine lv_istore (lv' := [(4, .int 1), (3, .int 1), (2, .int 1), (0, .ref mo), (1, .int 2)]) hx hb dX6_pair_136 hl (by decide) rfl (fun ls hl => ?_)
  refine lv_iload_n hx hb dX6_pair_138 rfl (lv_at hl 4 rfl) ?_
  refine lv_iconst (v := 3) hx hb dX6_pair_139 (by decide) ?_
  refine lv_icmp_ge (tgt := 169) hx hb dX6_pair_140 (by decide) (fun c_13 => absurd c_13 (by decide)) (fun c_13 => ?_)
  refine lv_iload hx hb dX6_pair_143 (lv_at hl 0 rfl) ?_
  refine lv_if_eq (tgt := 165) hx hb dX6_pair_145 (by decide) (fun c_14 => absurd c_14 (by decide)) (fun c_14 => ?_)
  refine lv_aload_n hx hb dX6_pair_148 rfl (lv_at hl 3 rfl) ?_
  refine lv_iload_n hx hb dX6_pair_149 rfl (lv_at hl 1 rfl) ?_
  refine lv_aload_n hx hb dX6_pair_150 rfl (lv_at hl 3 rfl) ?_
  refine va_get (D := D) (ci := 6) (v := .ref q11) (C := RX6) (T := TX6) (N := 15) hx hb hts (by decide +kernel) hown hK hP 4 rfl rfl 11 (by decide) (hts (.fieldLink RX6 25 "JoinDeskModel" "at" "[I") (by decide +kernel)) (fun _ h9 => h9) rfl dX6_pair_151 ?_
  refine lv_bipush (v := 6) hx hb dX6_pair_154 (by decide) ?_
  refine lv_iload_n hx hb dX6_pair_156 rfl (lv_at hl 1 rfl) ?_
  refine lv_iadd hx hb dX6_pair_157 ?_
  refine lv_topi (fun z_15 e_z_15 => ?_)
  obtain rfl : z_15 = 7 := e_z_15.trans (by decide)
  refine va_iald hx hb hK hP 3 0 rfl rfl (by unfold vp_in; decide) dX6_pair_158 ?_
  refine W.eq (g2 := F0 m 159 ls [.int (nI r1), .int 1, .ref mo]) rfl ?_
  refine vp_callSi (va_Run.run (va_runV (As := [.int 1, .int (nI r1)]) (rest := []) ⟨hx, hb, hml, hown, hts⟩ (gM_value_1 l D cI cL cQ mo g q1 q3 q4 q5 q6 q11 0 1 gr kd mk w10 w13 w14 m4 m5 r1 (by first | assumption | decide | omega) (by omega)) (cwV 2 hts gX6_pair_X6_value rfl rfl rfl (by decide +kernel) ⟨Nat.le_of_ble_eq_true rfl, Nat.le_of_ble_eq_true rfl⟩) (jr_V hK hN hP [4, 1, 2] rfl 6 4 rfl rfl rfl) rfl rfl hl.1 rfl (lv_room (Nat.le_of_ble_eq_true rfl)) dX6_pair_159 ⟨Nat.le_of_ble_eq_true rfl, Nat.le_of_ble_eq_true rfl⟩)) (fun r f_16 => ?_)
  obtain rfl := f_16
  refine lv_goto (tgt := 198) hx hb dX6_pair_162 (by decide) ?_
  have hP := hP.sub (ws' := [(mo, .inr (6, [.int 0, .ref q1, .int (nI g), .ref q3, .ref q4, .ref q5, .ref q6, .int 1, .int gr, .int kd, .long w10, .ref q11, .int mk, .long w13, .long w14])), (q3, .inl (cI, 800, .inl m3)), (q4, .inl (cI, 800, .inl m4)), (q5, .inl (cI, 800, .inl m5)), (q11, .inl (cI, 24, .inl (jl [t0, t1, t2, t3, nI d0, nI d1, nI r0, nI r1, 0, 1, t10, t11, t12, t13, t14, t15, t16, t17, t18, t19, t20, t21, t22, t23])))]) [4, 0, 1, 2, 3] rfl
  have hD := hD.sub (ws' := [(mo, .inr (6, [.int 0, .ref q1, .int (nI g), .ref q3, .ref q4, .ref q5, .ref q6, .int 1, .int gr, .int kd, .long w10, .ref q11, .int mk, .long w13, .long w14])), (q3, .inl (cI, 800, .inl m3)), (q4, .inl (cI, 800, .inl m4)), (q5, .inl (cI, 800, .inl m5)), (q11, .inl (cI, 24, .inl (jl [t0, t1, t2, t3, nI d0, nI d1, nI r0, nI r1, 0, 1, t10, t11, t12, t13, t14, t15, t16, t17, t18, t19, t20, t21, t22, t23])))]) [4, 0, 1, 2, 3] (by decide) rfl
  refine W.widen (k := 0) (n := 0) (by omega) (by omega) ?_
  exact W.iret (v := jmk 400 m4 m5 r1) hx hb hr (fun t ht hW => ⟨⟨(jmk 400 m4 m5 r1), [(mo, .inr (6, [.int 0, .ref q1, .int (nI g), .ref q3, .ref q4, .ref q5, .ref q6, .int 1, .int gr, .int kd, .long w10, .ref q11, .int mk, .long w13, .long w14])), (q3, .inl (cI, 800, .inl m3)), (q4, .inl (cI, 800, .inl m4)), (q5, .inl (cI, 800, .inl m5)), (q11, .inl (cI, 24, .inl (jl [t0, t1, t2, t3, nI d0, nI d1, nI r0, nI r1, 0, 1, t10, t11, t12, t13, t14, t15, t16, t17, t18, t19, t20, t21, t22, t23])))], rfl, (⟨_, rfl, rfl⟩), by rw [ht]; exact hP, hD⟩, hS.F ht⟩) hS.2.2 dX6_pair_198
set_option maxHeartbeats 1000000 in
set_option maxRecDepth 100000 in
theorem gM_pair_12 (l : Launch) (D : va_G) (cI cL cQ : ClassId) (mo : Nat) (g : Nat) (q1 : Nat) (q3 : Nat) (q4 : Nat) (q5 : Nat) (q6 : Nat) (q11 : Nat) (z0 : Int32) (gr : Int32) (kd : Int32) (mk : Int32) (w10 : Int64) (w13 : Int64) (w14 : Int64) (m3 : Nat → Int32) (m4 : Nat → Int32) (m5 : Nat → Int32) (t0 : Int32) (t1 : Int32) (t2 : Int32) (t3 : Int32) (t5 : Int32) (t7 : Int32) (t10 : Int32) (t11 : Int32) (t12 : Int32) (t13 : Int32) (t14 : Int32) (t15 : Int32) (t16 : Int32) (t17 : Int32) (t18 : Int32) (t19 : Int32) (t20 : Int32) (t21 : Int32) (t22 : Int32) (t23 : Int32) (d0 : Nat) (r0 : Nat) (sz : Nat) (h5 : jo5 m5) (hr0 : r0 < d0) (hd0 : d0 ≤ 400) : Met l yX6_pair wsX6_pair ({ frames := 1, cells := 0, slots := 0, locals := 21 }) (jw_P D vwCl (jT cI cL cQ) cL cQ [.ref mo, .int 2] [(mo, .inr (6, [.int z0, .ref q1, .int (nI g), .ref q3, .ref q4, .ref q5, .ref q6, .int 1, .int gr, .int kd, .long w10, .ref q11, .int mk, .long w13, .long w14])), (q3, .inl (cI, 800, .inl m3)), (q4, .inl (cI, 800, .inl m4)), (q5, .inl (cI, 800, .inl m5)), (q11, .inl (cI, 24, .inl (jl [t0, t1, t2, t3, nI d0, t5, nI r0, t7, 1, 1, t10, t11, t12, t13, t14, t15, t16, t17, t18, t19, t20, t21, t22, t23])))] sz) (va_Qi (fun (r : Int32) (u : va_W) => ∃ (z9 : Int32), r = z9 ∧ u = [(mo, .inr (6, [.int 0, .ref q1, .int (nI g), .ref q3, .ref q4, .ref q5, .ref q6, .int 1, .int gr, .int kd, .long w10, .ref q11, .int mk, .long w13, .long w14])), (q3, .inl (cI, 800, .inl m3)), (q4, .inl (cI, 800, .inl m4)), (q5, .inl (cI, 800, .inl m5)), (q11, .inl (cI, 24, .inl (jl [t0, t1, t2, t3, nI d0, t5, nI r0, t7, 1, 1, t10, t11, t12, t13, t14, t15, t16, t17, t18, t19, t20, t21, t22, t23])))]) (jw_B D vwCl (va_A [(mo, .inr (6, [.int z0, .ref q1, .int (nI g), .ref q3, .ref q4, .ref q5, .ref q6, .int 1, .int gr, .int kd, .long w10, .ref q11, .int mk, .long w13, .long w14])), (q3, .inl (cI, 800, .inl m3)), (q4, .inl (cI, 800, .inl m4)), (q5, .inl (cI, 800, .inl m5)), (q11, .inl (cI, 24, .inl (jl [t0, t1, t2, t3, nI d0, t5, nI r0, t7, 1, 1, t10, t11, t12, t13, t14, t15, t16, t17, t18, t19, t20, t21, t22, t23])))] sz) (fun u : va_W => u)) (va_A [(mo, .inr (6, [.int z0, .ref q1, .int (nI g), .ref q3, .ref q4, .ref q5, .ref q6, .int 1, .int gr, .int kd, .long w10, .ref q11, .int mk, .long w13, .long w14])), (q3, .inl (cI, 800, .inl m3)), (q4, .inl (cI, 800, .inl m4)), (q5, .inl (cI, 800, .inl m5)), (q11, .inl (cI, 24, .inl (jl [t0, t1, t2, t3, nI d0, t5, nI r0, t7, 1, 1, t10, t11, t12, t13, t14, t15, t16, t17, t18, t19, t20, t21, t22, t23])))] sz)) 0 0 (va_A [(mo, .inr (6, [.int z0, .ref q1, .int (nI g), .ref q3, .ref q4, .ref q5, .ref q6, .int 1, .int gr, .int kd, .long w10, .ref q11, .int mk, .long w13, .long w14])), (q3, .inl (cI, 800, .inl m3)), (q4, .inl (cI, 800, .inl m4)), (q5, .inl (cI, 800, .inl m5)), (q11, .inl (cI, 24, .inl (jl [t0, t1, t2, t3, nI d0, t5, nI r0, t7, 1, 1, t10, t11, t12, t13, t14, t15, t16, t17, t18, t19, t20, t21, t22, t23])))] sz) := by
  refine Met.ofW (cc := cX6_pair) (maxL := 5) (ret := (some .int)) (by decide) rfl ?_
  intro p e s m args below meth c s₁ B hml hv
  obtain ⟨rfl, hsz, hP, hK, hN, hD0⟩ := hv
  have hx := B.exec
  have hb := B.bytes
  have hr := B.returns
  have hts := atoms_spec (ws := wsX6_pair) B.pre
  have hown : s.vm.findClass RX6 = some m.cls := findClass_of_methodNamed B.named
  have hlocks := B.notSynchronized
  subst hsz
  have hD := hD0.self (sz := s.heap.size)
  generalize hAe : va_A [(mo, .inr (6, [.int z0, .ref q1, .int (nI g), .ref q3, .ref q4, .ref q5, .ref q6, .int 1, .int gr, .int kd, .long w10, .ref q11, .int mk, .long w13, .long w14])), (q3, .inl (cI, 800, .inl m3)), (q4, .inl (cI, 800, .inl m4)), (q5, .inl (cI, 800, .inl m5)), (q11, .inl (cI, 24, .inl (jl [t0, t1, t2, t3, nI d0, t5, nI r0, t7, 1, 1, t10, t11, t12, t13, t14, t15, t16, t17, t18, t19, t20, t21, t22, t23])))] s.heap.size = A at hD ⊢
  have hA : ∀ q : Nat, s.heap.size ≤ q → A q := fun q h => by rw [← hAe]; exact Or.inr h
  have hS : va_S A s.heap s.heap [] := va_S.rf
  have hl := lv_entry ([.ref mo, .int 2]) (n := 5) (Nat.le_of_ble_eq_true rfl)
  rw [lg_entry_eq]
  generalize (lg_sl ([.ref mo, .int 2]) ++ List.replicate (5 - (lg_sl ([.ref mo, .int 2])).length) Slot.unset).toArray = ls at hl ⊢
  have hl : lv_has ls 5 [(0, .ref mo), (1, .int 2)] := hl
  refine lv_aload_n hx hb dX6_pair_0 rfl (lv_at hl 0 rfl) ?_
  refine lv_iload_n hx hb dX6_pair_1 rfl (lv_at hl 1 rfl) ?_
  refine lv_if_lt (tgt := 10) hx hb dX6_pair_2 (by decide) (fun c_1 => absurd c_1 (by decide)) (fun c_1 => ?_)
  refine lv_iload_n hx hb dX6_pair_5 rfl (lv_at hl 1 rfl) ?_
  refine lv_iconst (v := 4) hx hb dX6_pair_6 (by decide) ?_
  refine lv_icmp_le (tgt := 14) hx hb dX6_pair_7 (by decide) (fun c_2 => ?_) (fun c_2 => absurd c_2 (by decide))
  refine lv_iconst (v := 0) hx hb dX6_pair_14 (by decide) ?_
  refine jw_i (wr := [(q3, .inl (cI, 800, .inl m3)), (q4, .inl (cI, 800, .inl m4)), (q5, .inl (cI, 800, .inl m5)), (q11, .inl (cI, 24, .inl (jl [t0, t1, t2, t3, nI d0, t5, nI r0, t7, 1, 1, t10, t11, t12, t13, t14, t15, t16, t17, t18, t19, t20, t21, t22, t23])))]) (va_runV (As := [.int 0]) (rest := []) ⟨hx, hb, hml, hown, hts⟩ (gM_refuses_0 l D cI cL cQ mo g q1 q3 q4 q5 q6 q11 z0 1 gr kd mk w10 w13 w14 _) (cwV 1 hts gX6_pair_X6_refuses rfl rfl rfl (by decide +kernel) ⟨Nat.le_of_ble_eq_true rfl, Nat.le_of_ble_eq_true rfl⟩) (jw_V hK hN hP hD [0] (by decide) rfl 6 0 rfl rfl rfl) rfl rfl hl.1 rfl (lv_room (Nat.le_of_ble_eq_true rfl)) dX6_pair_15 ⟨Nat.le_of_ble_eq_true rfl, Nat.le_of_ble_eq_true rfl⟩) hP hD hS hA [0] [1, 2, 3, 4] rfl rfl (by decide) (by decide) (fun r u H locs f_3 hP hD hS => ?_)
  obtain ⟨rfl, rfl⟩ := f_3
  have hP : va_P D vwCl [(q3, .inl (cI, 800, .inl m3)), (q4, .inl (cI, 800, .inl m4)), (q5, .inl (cI, 800, .inl m5)), (q11, .inl (cI, 24, .inl (jl [t0, t1, t2, t3, nI d0, t5, nI r0, t7, 1, 1, t10, t11, t12, t13, t14, t15, t16, t17, t18, t19, t20, t21, t22, t23]))), (mo, .inr (6, [.int 0, .ref q1, .int (nI g), .ref q3, .ref q4, .ref q5, .ref q6, .int 1, .int gr, .int kd, .long w10, .ref q11, .int mk, .long w13, .long w14]))] H := hP
  have hD : va_D A [(q3, .inl (cI, 800, .inl m3)), (q4, .inl (cI, 800, .inl m4)), (q5, .inl (cI, 800, .inl m5)), (q11, .inl (cI, 24, .inl (jl [t0, t1, t2, t3, nI d0, t5, nI r0, t7, 1, 1, t10, t11, t12, t13, t14, t15, t16, t17, t18, t19, t20, t21, t22, t23]))), (mo, .inr (6, [.int 0, .ref q1, .int (nI g), .ref q3, .ref q4, .ref q5, .ref q6, .int 1, .int gr, .int kd, .long w10, .ref q11, .int mk, .long w13, .long w14]))] := hD
  refine lv_if_eq (tgt := 23) hx hb dX6_pair_18 (by decide) (fun c_4 => ?_) (fun c_4 => absurd c_4 (by decide))
  refine lv_aload_n hx hb dX6_pair_23 rfl (lv_at hl 0 rfl) ?_
  refine va_get (D := D) (ci := 6) (v := .int 1) (C := RX6) (T := TX6) (N := 15) hx hb hts (by decide +kernel) hown hK hP 4 rfl rfl 7 (by decide) (hts (.fieldLink RX6 43 "JoinDeskModel" "prepared" "Z") (by decide +kernel)) (fun _ h9 => h9) rfl dX6_pair_24 ?_
  refine lv_if_eq (tgt := 45) hx hb dX6_pair_27 (by decide) (fun c_5 => absurd c_5 (by decide)) (fun c_5 => ?_)
  refine lv_aload_n hx hb dX6_pair_30 rfl (lv_at hl 0 rfl) ?_
  refine va_get (D := D) (ci := 6) (v := .ref q11) (C := RX6) (T := TX6) (N := 15) hx hb hts (by decide +kernel) hown hK hP 4 rfl rfl 11 (by decide) (hts (.fieldLink RX6 25 "JoinDeskModel" "at" "[I") (by decide +kernel)) (fun _ h9 => h9) rfl dX6_pair_31 ?_
  refine lv_bipush (v := 9) hx hb dX6_pair_34 (by decide) ?_
  refine va_iald hx hb hK hP 3 0 rfl rfl (by unfold vp_in; decide) dX6_pair_36 ?_
  refine W.eq (g2 := F0 m 37 ls [.int 1]) rfl ?_
  refine lv_iconst (v := 1) hx hb dX6_pair_37 (by decide) ?_
  refine lv_icmp_ne (tgt := 45) hx hb dX6_pair_38 (by decide) (fun c_6 => absurd c_6 (by decide)) (fun c_6 => ?_)
  refine lv_iconst (v := 1) hx hb dX6_pair_41 (by decide) ?_
  refine lv_goto (tgt := 46) hx hb dX6_pair_42 (by decide) ?_
  refine lv_istore_n (lv' := [(2, .int 1), (0, .ref mo), (1, .int 2)]) hx hb dX6_pair_46 rfl hl (by decide) rfl (fun ls hl => ?_)
  refine lv_iload_n hx hb dX6_pair_47 rfl (lv_at hl 2 rfl) ?_
  refine lv_iconst (v := 1) hx hb dX6_pair_48 (by decide) ?_
  refine lv_icmp_eq (tgt := 57) hx hb dX6_pair_49 (by decide) (fun c_7 => absurd c_7 (by decide)) (fun c_7 => ?_)
  refine lv_iload_n hx hb dX6_pair_52 rfl (lv_at hl 2 rfl) ?_
  refine lv_iconst (v := 3) hx hb dX6_pair_53 (by decide) ?_
  refine lv_icmp_ne (tgt := 61) hx hb dX6_pair_54 (by decide) (fun c_8 => ?_) (fun c_8 => absurd c_8 (by decide))
  refine lv_iconst (v := 1) hx hb dX6_pair_61 (by decide) ?_
  refine lv_istore_n (lv' := [(3, .int 1), (2, .int 1), (0, .ref mo), (1, .int 2)]) hx hb dX6_pair_62 rfl hl (by decide) rfl (fun ls hl => ?_)
  refine lv_iload_n hx hb dX6_pair_63 rfl (lv_at hl 3 rfl) ?_
  refine lv_if_ne (tgt := 114) hx hb dX6_pair_64 (by decide) (fun c_9 => ?_) (fun c_9 => absurd c_9 (by decide))
  refine lv_iload_n hx hb dX6_pair_114 rfl (lv_at hl 1 rfl) ?_
  refine lv_if_eq (tgt := 135) hx hb dX6_pair_115 (by decide) (fun c_10 => absurd c_10 (by decide)) (fun c_10 => ?_)
  refine lv_aload_n hx hb dX6_pair_118 rfl (lv_at hl 2 rfl) ?_
  refine va_get (D := D) (ci := 6) (v := .ref q11) (C := RX6) (T := TX6) (N := 15) hx hb hts (by decide +kernel) hown hK hP 4 rfl rfl 11 (by decide) (hts (.fieldLink RX6 25 "JoinDeskModel" "at" "[I") (by decide +kernel)) (fun _ h9 => h9) rfl dX6_pair_119 ?_
  refine lv_bipush (v := 8) hx hb dX6_pair_122 (by decide) ?_
  refine va_iald hx hb hK hP 3 0 rfl rfl (by unfold vp_in; decide) dX6_pair_124 ?_
  refine W.eq (g2 := F0 m 125 ls [.int 1]) rfl ?_
  refine lv_iconst (v := 2) hx hb dX6_pair_125 (by decide) ?_
  refine lv_iload_n hx hb dX6_pair_126 rfl (lv_at hl 0 rfl) ?_
  refine lv_isub hx hb dX6_pair_127 ?_
  refine lv_topi (fun z_11 e_z_11 => ?_)
  obtain rfl : z_11 = 1 := e_z_11.trans (by decide)
  refine lv_icmp_eq (tgt := 135) hx hb dX6_pair_128 (by decide) (fun c_12 => ?_) (fun c_12 => absurd c_12 (by decide))
  refine lv_iconst (v := 0) hx hb dX6_pair_135 (by decide) ?_
  refine lv_istore (lv' := [(4, .int 0), (3, .int 1), (2, .int 1), (0, .ref mo), (1, .int 2)]) hx hb dX6_pair_136 hl (by decide) rfl (fun ls hl => ?_)
  refine lv_iload_n hx hb dX6_pair_138 rfl (lv_at hl 4 rfl) ?_
  refine lv_iconst (v := 3) hx hb dX6_pair_139 (by decide) ?_
  refine lv_icmp_ge (tgt := 169) hx hb dX6_pair_140 (by decide) (fun c_13 => absurd c_13 (by decide)) (fun c_13 => ?_)
  refine lv_iload hx hb dX6_pair_143 (lv_at hl 0 rfl) ?_
  refine lv_if_eq (tgt := 165) hx hb dX6_pair_145 (by decide) (fun c_14 => ?_) (fun c_14 => absurd c_14 (by decide))
  refine lv_iconst (v := 0) hx hb dX6_pair_165 (by decide) ?_
  refine lv_goto (tgt := 198) hx hb dX6_pair_166 (by decide) ?_
  have hP := hP.sub (ws' := [(mo, .inr (6, [.int 0, .ref q1, .int (nI g), .ref q3, .ref q4, .ref q5, .ref q6, .int 1, .int gr, .int kd, .long w10, .ref q11, .int mk, .long w13, .long w14])), (q3, .inl (cI, 800, .inl m3)), (q4, .inl (cI, 800, .inl m4)), (q5, .inl (cI, 800, .inl m5)), (q11, .inl (cI, 24, .inl (jl [t0, t1, t2, t3, nI d0, t5, nI r0, t7, 1, 1, t10, t11, t12, t13, t14, t15, t16, t17, t18, t19, t20, t21, t22, t23])))]) [4, 0, 1, 2, 3] rfl
  have hD := hD.sub (ws' := [(mo, .inr (6, [.int 0, .ref q1, .int (nI g), .ref q3, .ref q4, .ref q5, .ref q6, .int 1, .int gr, .int kd, .long w10, .ref q11, .int mk, .long w13, .long w14])), (q3, .inl (cI, 800, .inl m3)), (q4, .inl (cI, 800, .inl m4)), (q5, .inl (cI, 800, .inl m5)), (q11, .inl (cI, 24, .inl (jl [t0, t1, t2, t3, nI d0, t5, nI r0, t7, 1, 1, t10, t11, t12, t13, t14, t15, t16, t17, t18, t19, t20, t21, t22, t23])))]) [4, 0, 1, 2, 3] (by decide) rfl
  refine W.widen (k := 0) (n := 0) (by omega) (by omega) ?_
  exact W.iret (v := 0) hx hb hr (fun t ht hW => ⟨⟨0, [(mo, .inr (6, [.int 0, .ref q1, .int (nI g), .ref q3, .ref q4, .ref q5, .ref q6, .int 1, .int gr, .int kd, .long w10, .ref q11, .int mk, .long w13, .long w14])), (q3, .inl (cI, 800, .inl m3)), (q4, .inl (cI, 800, .inl m4)), (q5, .inl (cI, 800, .inl m5)), (q11, .inl (cI, 24, .inl (jl [t0, t1, t2, t3, nI d0, t5, nI r0, t7, 1, 1, t10, t11, t12, t13, t14, t15, t16, t17, t18, t19, t20, t21, t22, t23])))], rfl, (⟨_, rfl, rfl⟩), by rw [ht]; exact hP, hD⟩, hS.F ht⟩) hS.2.2 dX6_pair_198
set_option maxHeartbeats 1000000 in
set_option maxRecDepth 100000 in
theorem gM_pair_22 (l : Launch) (D : va_G) (cI cL cQ : ClassId) (mo : Nat) (g : Nat) (q1 : Nat) (q3 : Nat) (q4 : Nat) (q5 : Nat) (q6 : Nat) (q11 : Nat) (z0 : Int32) (gr : Int32) (kd : Int32) (mk : Int32) (w10 : Int64) (w13 : Int64) (w14 : Int64) (m3 : Nat → Int32) (m4 : Nat → Int32) (m5 : Nat → Int32) (t0 : Int32) (t1 : Int32) (t2 : Int32) (t3 : Int32) (t4 : Int32) (t6 : Int32) (t10 : Int32) (t11 : Int32) (t12 : Int32) (t13 : Int32) (t14 : Int32) (t15 : Int32) (t16 : Int32) (t17 : Int32) (t18 : Int32) (t19 : Int32) (t20 : Int32) (t21 : Int32) (t22 : Int32) (t23 : Int32) (d1 : Nat) (r1 : Nat) (sz : Nat) (h5 : jo5 m5) (hr1 : r1 < d1) (hd1 : d1 ≤ 400) : Met l yX6_pair wsX6_pair ({ frames := 1, cells := 0, slots := 0, locals := 22 }) (jw_P D vwCl (jT cI cL cQ) cL cQ [.ref mo, .int 2] [(mo, .inr (6, [.int z0, .ref q1, .int (nI g), .ref q3, .ref q4, .ref q5, .ref q6, .int 1, .int gr, .int kd, .long w10, .ref q11, .int mk, .long w13, .long w14])), (q3, .inl (cI, 800, .inl m3)), (q4, .inl (cI, 800, .inl m4)), (q5, .inl (cI, 800, .inl m5)), (q11, .inl (cI, 24, .inl (jl [t0, t1, t2, t3, t4, nI d1, t6, nI r1, 2, 1, t10, t11, t12, t13, t14, t15, t16, t17, t18, t19, t20, t21, t22, t23])))] sz) (va_Qi (fun (r : Int32) (u : va_W) => ∃ (z9 : Int32), r = z9 ∧ u = [(mo, .inr (6, [.int 0, .ref q1, .int (nI g), .ref q3, .ref q4, .ref q5, .ref q6, .int 1, .int gr, .int kd, .long w10, .ref q11, .int mk, .long w13, .long w14])), (q3, .inl (cI, 800, .inl m3)), (q4, .inl (cI, 800, .inl m4)), (q5, .inl (cI, 800, .inl m5)), (q11, .inl (cI, 24, .inl (jl [t0, t1, t2, t3, t4, nI d1, t6, nI r1, 2, 1, t10, t11, t12, t13, t14, t15, t16, t17, t18, t19, t20, t21, t22, t23])))]) (jw_B D vwCl (va_A [(mo, .inr (6, [.int z0, .ref q1, .int (nI g), .ref q3, .ref q4, .ref q5, .ref q6, .int 1, .int gr, .int kd, .long w10, .ref q11, .int mk, .long w13, .long w14])), (q3, .inl (cI, 800, .inl m3)), (q4, .inl (cI, 800, .inl m4)), (q5, .inl (cI, 800, .inl m5)), (q11, .inl (cI, 24, .inl (jl [t0, t1, t2, t3, t4, nI d1, t6, nI r1, 2, 1, t10, t11, t12, t13, t14, t15, t16, t17, t18, t19, t20, t21, t22, t23])))] sz) (fun u : va_W => u)) (va_A [(mo, .inr (6, [.int z0, .ref q1, .int (nI g), .ref q3, .ref q4, .ref q5, .ref q6, .int 1, .int gr, .int kd, .long w10, .ref q11, .int mk, .long w13, .long w14])), (q3, .inl (cI, 800, .inl m3)), (q4, .inl (cI, 800, .inl m4)), (q5, .inl (cI, 800, .inl m5)), (q11, .inl (cI, 24, .inl (jl [t0, t1, t2, t3, t4, nI d1, t6, nI r1, 2, 1, t10, t11, t12, t13, t14, t15, t16, t17, t18, t19, t20, t21, t22, t23])))] sz)) 0 0 (va_A [(mo, .inr (6, [.int z0, .ref q1, .int (nI g), .ref q3, .ref q4, .ref q5, .ref q6, .int 1, .int gr, .int kd, .long w10, .ref q11, .int mk, .long w13, .long w14])), (q3, .inl (cI, 800, .inl m3)), (q4, .inl (cI, 800, .inl m4)), (q5, .inl (cI, 800, .inl m5)), (q11, .inl (cI, 24, .inl (jl [t0, t1, t2, t3, t4, nI d1, t6, nI r1, 2, 1, t10, t11, t12, t13, t14, t15, t16, t17, t18, t19, t20, t21, t22, t23])))] sz) := by
  refine Met.ofW (cc := cX6_pair) (maxL := 5) (ret := (some .int)) (by decide) rfl ?_
  intro p e s m args below meth c s₁ B hml hv
  obtain ⟨rfl, hsz, hP, hK, hN, hD0⟩ := hv
  have hx := B.exec
  have hb := B.bytes
  have hr := B.returns
  have hts := atoms_spec (ws := wsX6_pair) B.pre
  have hown : s.vm.findClass RX6 = some m.cls := findClass_of_methodNamed B.named
  have hlocks := B.notSynchronized
  subst hsz
  have hD := hD0.self (sz := s.heap.size)
  generalize hAe : va_A [(mo, .inr (6, [.int z0, .ref q1, .int (nI g), .ref q3, .ref q4, .ref q5, .ref q6, .int 1, .int gr, .int kd, .long w10, .ref q11, .int mk, .long w13, .long w14])), (q3, .inl (cI, 800, .inl m3)), (q4, .inl (cI, 800, .inl m4)), (q5, .inl (cI, 800, .inl m5)), (q11, .inl (cI, 24, .inl (jl [t0, t1, t2, t3, t4, nI d1, t6, nI r1, 2, 1, t10, t11, t12, t13, t14, t15, t16, t17, t18, t19, t20, t21, t22, t23])))] s.heap.size = A at hD ⊢
  have hA : ∀ q : Nat, s.heap.size ≤ q → A q := fun q h => by rw [← hAe]; exact Or.inr h
  have hS : va_S A s.heap s.heap [] := va_S.rf
  have hl := lv_entry ([.ref mo, .int 2]) (n := 5) (Nat.le_of_ble_eq_true rfl)
  rw [lg_entry_eq]
  generalize (lg_sl ([.ref mo, .int 2]) ++ List.replicate (5 - (lg_sl ([.ref mo, .int 2])).length) Slot.unset).toArray = ls at hl ⊢
  have hl : lv_has ls 5 [(0, .ref mo), (1, .int 2)] := hl
  refine lv_aload_n hx hb dX6_pair_0 rfl (lv_at hl 0 rfl) ?_
  refine lv_iload_n hx hb dX6_pair_1 rfl (lv_at hl 1 rfl) ?_
  refine lv_if_lt (tgt := 10) hx hb dX6_pair_2 (by decide) (fun c_1 => absurd c_1 (by decide)) (fun c_1 => ?_)
  refine lv_iload_n hx hb dX6_pair_5 rfl (lv_at hl 1 rfl) ?_
  refine lv_iconst (v := 4) hx hb dX6_pair_6 (by decide) ?_
  refine lv_icmp_le (tgt := 14) hx hb dX6_pair_7 (by decide) (fun c_2 => ?_) (fun c_2 => absurd c_2 (by decide))
  refine lv_iconst (v := 0) hx hb dX6_pair_14 (by decide) ?_
  refine jw_i (wr := [(q3, .inl (cI, 800, .inl m3)), (q4, .inl (cI, 800, .inl m4)), (q5, .inl (cI, 800, .inl m5)), (q11, .inl (cI, 24, .inl (jl [t0, t1, t2, t3, t4, nI d1, t6, nI r1, 2, 1, t10, t11, t12, t13, t14, t15, t16, t17, t18, t19, t20, t21, t22, t23])))]) (va_runV (As := [.int 0]) (rest := []) ⟨hx, hb, hml, hown, hts⟩ (gM_refuses_0 l D cI cL cQ mo g q1 q3 q4 q5 q6 q11 z0 1 gr kd mk w10 w13 w14 _) (cwV 1 hts gX6_pair_X6_refuses rfl rfl rfl (by decide +kernel) ⟨Nat.le_of_ble_eq_true rfl, Nat.le_of_ble_eq_true rfl⟩) (jw_V hK hN hP hD [0] (by decide) rfl 6 0 rfl rfl rfl) rfl rfl hl.1 rfl (lv_room (Nat.le_of_ble_eq_true rfl)) dX6_pair_15 ⟨Nat.le_of_ble_eq_true rfl, Nat.le_of_ble_eq_true rfl⟩) hP hD hS hA [0] [1, 2, 3, 4] rfl rfl (by decide) (by decide) (fun r u H locs f_3 hP hD hS => ?_)
  obtain ⟨rfl, rfl⟩ := f_3
  have hP : va_P D vwCl [(q3, .inl (cI, 800, .inl m3)), (q4, .inl (cI, 800, .inl m4)), (q5, .inl (cI, 800, .inl m5)), (q11, .inl (cI, 24, .inl (jl [t0, t1, t2, t3, t4, nI d1, t6, nI r1, 2, 1, t10, t11, t12, t13, t14, t15, t16, t17, t18, t19, t20, t21, t22, t23]))), (mo, .inr (6, [.int 0, .ref q1, .int (nI g), .ref q3, .ref q4, .ref q5, .ref q6, .int 1, .int gr, .int kd, .long w10, .ref q11, .int mk, .long w13, .long w14]))] H := hP
  have hD : va_D A [(q3, .inl (cI, 800, .inl m3)), (q4, .inl (cI, 800, .inl m4)), (q5, .inl (cI, 800, .inl m5)), (q11, .inl (cI, 24, .inl (jl [t0, t1, t2, t3, t4, nI d1, t6, nI r1, 2, 1, t10, t11, t12, t13, t14, t15, t16, t17, t18, t19, t20, t21, t22, t23]))), (mo, .inr (6, [.int 0, .ref q1, .int (nI g), .ref q3, .ref q4, .ref q5, .ref q6, .int 1, .int gr, .int kd, .long w10, .ref q11, .int mk, .long w13, .long w14]))] := hD
  refine lv_if_eq (tgt := 23) hx hb dX6_pair_18 (by decide) (fun c_4 => ?_) (fun c_4 => absurd c_4 (by decide))
  refine lv_aload_n hx hb dX6_pair_23 rfl (lv_at hl 0 rfl) ?_
  refine va_get (D := D) (ci := 6) (v := .int 1) (C := RX6) (T := TX6) (N := 15) hx hb hts (by decide +kernel) hown hK hP 4 rfl rfl 7 (by decide) (hts (.fieldLink RX6 43 "JoinDeskModel" "prepared" "Z") (by decide +kernel)) (fun _ h9 => h9) rfl dX6_pair_24 ?_
  refine lv_if_eq (tgt := 45) hx hb dX6_pair_27 (by decide) (fun c_5 => absurd c_5 (by decide)) (fun c_5 => ?_)
  refine lv_aload_n hx hb dX6_pair_30 rfl (lv_at hl 0 rfl) ?_
  refine va_get (D := D) (ci := 6) (v := .ref q11) (C := RX6) (T := TX6) (N := 15) hx hb hts (by decide +kernel) hown hK hP 4 rfl rfl 11 (by decide) (hts (.fieldLink RX6 25 "JoinDeskModel" "at" "[I") (by decide +kernel)) (fun _ h9 => h9) rfl dX6_pair_31 ?_
  refine lv_bipush (v := 9) hx hb dX6_pair_34 (by decide) ?_
  refine va_iald hx hb hK hP 3 0 rfl rfl (by unfold vp_in; decide) dX6_pair_36 ?_
  refine W.eq (g2 := F0 m 37 ls [.int 1]) rfl ?_
  refine lv_iconst (v := 1) hx hb dX6_pair_37 (by decide) ?_
  refine lv_icmp_ne (tgt := 45) hx hb dX6_pair_38 (by decide) (fun c_6 => absurd c_6 (by decide)) (fun c_6 => ?_)
  refine lv_iconst (v := 1) hx hb dX6_pair_41 (by decide) ?_
  refine lv_goto (tgt := 46) hx hb dX6_pair_42 (by decide) ?_
  refine lv_istore_n (lv' := [(2, .int 1), (0, .ref mo), (1, .int 2)]) hx hb dX6_pair_46 rfl hl (by decide) rfl (fun ls hl => ?_)
  refine lv_iload_n hx hb dX6_pair_47 rfl (lv_at hl 2 rfl) ?_
  refine lv_iconst (v := 1) hx hb dX6_pair_48 (by decide) ?_
  refine lv_icmp_eq (tgt := 57) hx hb dX6_pair_49 (by decide) (fun c_7 => absurd c_7 (by decide)) (fun c_7 => ?_)
  refine lv_iload_n hx hb dX6_pair_52 rfl (lv_at hl 2 rfl) ?_
  refine lv_iconst (v := 3) hx hb dX6_pair_53 (by decide) ?_
  refine lv_icmp_ne (tgt := 61) hx hb dX6_pair_54 (by decide) (fun c_8 => ?_) (fun c_8 => absurd c_8 (by decide))
  refine lv_iconst (v := 1) hx hb dX6_pair_61 (by decide) ?_
  refine lv_istore_n (lv' := [(3, .int 1), (2, .int 1), (0, .ref mo), (1, .int 2)]) hx hb dX6_pair_62 rfl hl (by decide) rfl (fun ls hl => ?_)
  refine lv_iload_n hx hb dX6_pair_63 rfl (lv_at hl 3 rfl) ?_
  refine lv_if_ne (tgt := 114) hx hb dX6_pair_64 (by decide) (fun c_9 => ?_) (fun c_9 => absurd c_9 (by decide))
  refine lv_iload_n hx hb dX6_pair_114 rfl (lv_at hl 1 rfl) ?_
  refine lv_if_eq (tgt := 135) hx hb dX6_pair_115 (by decide) (fun c_10 => absurd c_10 (by decide)) (fun c_10 => ?_)
  refine lv_aload_n hx hb dX6_pair_118 rfl (lv_at hl 2 rfl) ?_
  refine va_get (D := D) (ci := 6) (v := .ref q11) (C := RX6) (T := TX6) (N := 15) hx hb hts (by decide +kernel) hown hK hP 4 rfl rfl 11 (by decide) (hts (.fieldLink RX6 25 "JoinDeskModel" "at" "[I") (by decide +kernel)) (fun _ h9 => h9) rfl dX6_pair_119 ?_
  refine lv_bipush (v := 8) hx hb dX6_pair_122 (by decide) ?_
  refine va_iald hx hb hK hP 3 0 rfl rfl (by unfold vp_in; decide) dX6_pair_124 ?_
  refine W.eq (g2 := F0 m 125 ls [.int 2]) rfl ?_
  refine lv_iconst (v := 2) hx hb dX6_pair_125 (by decide) ?_
  refine lv_iload_n hx hb dX6_pair_126 rfl (lv_at hl 0 rfl) ?_
  refine lv_isub hx hb dX6_pair_127 ?_
  refine lv_topi (fun z_11 e_z_11 => ?_)
  obtain rfl : z_11 = 1 := e_z_11.trans (by decide)
  refine lv_icmp_eq (tgt := 135) hx hb dX6_pair_128 (by decide) (fun c_12 => absurd c_12 (by decide)) (fun c_12 => ?_)
  refine lv_iconst (v := 1) hx hb dX6_pair_131 (by decide) ?_
  refine lv_goto (tgt := 136) hx hb dX6_pair_132 (by decide) ?_
  refine lv_istore (lv' := [(4, .int 1), (3, .int 1), (2, .int 1), (0, .ref mo), (1, .int 2)]) hx hb dX6_pair_136 hl (by decide) rfl (fun ls hl => ?_)
  refine lv_iload_n hx hb dX6_pair_138 rfl (lv_at hl 4 rfl) ?_
  refine lv_iconst (v := 3) hx hb dX6_pair_139 (by decide) ?_
  refine lv_icmp_ge (tgt := 169) hx hb dX6_pair_140 (by decide) (fun c_13 => absurd c_13 (by decide)) (fun c_13 => ?_)
  refine lv_iload hx hb dX6_pair_143 (lv_at hl 0 rfl) ?_
  refine lv_if_eq (tgt := 165) hx hb dX6_pair_145 (by decide) (fun c_14 => absurd c_14 (by decide)) (fun c_14 => ?_)
  refine lv_aload_n hx hb dX6_pair_148 rfl (lv_at hl 3 rfl) ?_
  refine lv_iload_n hx hb dX6_pair_149 rfl (lv_at hl 1 rfl) ?_
  refine lv_aload_n hx hb dX6_pair_150 rfl (lv_at hl 3 rfl) ?_
  refine va_get (D := D) (ci := 6) (v := .ref q11) (C := RX6) (T := TX6) (N := 15) hx hb hts (by decide +kernel) hown hK hP 4 rfl rfl 11 (by decide) (hts (.fieldLink RX6 25 "JoinDeskModel" "at" "[I") (by decide +kernel)) (fun _ h9 => h9) rfl dX6_pair_151 ?_
  refine lv_bipush (v := 6) hx hb dX6_pair_154 (by decide) ?_
  refine lv_iload_n hx hb dX6_pair_156 rfl (lv_at hl 1 rfl) ?_
  refine lv_iadd hx hb dX6_pair_157 ?_
  refine lv_topi (fun z_15 e_z_15 => ?_)
  obtain rfl : z_15 = 7 := e_z_15.trans (by decide)
  refine va_iald hx hb hK hP 3 0 rfl rfl (by unfold vp_in; decide) dX6_pair_158 ?_
  refine W.eq (g2 := F0 m 159 ls [.int (nI r1), .int 1, .ref mo]) rfl ?_
  refine vp_callSi (va_Run.run (va_runV (As := [.int 1, .int (nI r1)]) (rest := []) ⟨hx, hb, hml, hown, hts⟩ (gM_value_1 l D cI cL cQ mo g q1 q3 q4 q5 q6 q11 0 1 gr kd mk w10 w13 w14 m4 m5 r1 (by first | assumption | decide | omega) (by omega)) (cwV 2 hts gX6_pair_X6_value rfl rfl rfl (by decide +kernel) ⟨Nat.le_of_ble_eq_true rfl, Nat.le_of_ble_eq_true rfl⟩) (jr_V hK hN hP [4, 1, 2] rfl 6 4 rfl rfl rfl) rfl rfl hl.1 rfl (lv_room (Nat.le_of_ble_eq_true rfl)) dX6_pair_159 ⟨Nat.le_of_ble_eq_true rfl, Nat.le_of_ble_eq_true rfl⟩)) (fun r f_16 => ?_)
  obtain rfl := f_16
  refine lv_goto (tgt := 198) hx hb dX6_pair_162 (by decide) ?_
  have hP := hP.sub (ws' := [(mo, .inr (6, [.int 0, .ref q1, .int (nI g), .ref q3, .ref q4, .ref q5, .ref q6, .int 1, .int gr, .int kd, .long w10, .ref q11, .int mk, .long w13, .long w14])), (q3, .inl (cI, 800, .inl m3)), (q4, .inl (cI, 800, .inl m4)), (q5, .inl (cI, 800, .inl m5)), (q11, .inl (cI, 24, .inl (jl [t0, t1, t2, t3, t4, nI d1, t6, nI r1, 2, 1, t10, t11, t12, t13, t14, t15, t16, t17, t18, t19, t20, t21, t22, t23])))]) [4, 0, 1, 2, 3] rfl
  have hD := hD.sub (ws' := [(mo, .inr (6, [.int 0, .ref q1, .int (nI g), .ref q3, .ref q4, .ref q5, .ref q6, .int 1, .int gr, .int kd, .long w10, .ref q11, .int mk, .long w13, .long w14])), (q3, .inl (cI, 800, .inl m3)), (q4, .inl (cI, 800, .inl m4)), (q5, .inl (cI, 800, .inl m5)), (q11, .inl (cI, 24, .inl (jl [t0, t1, t2, t3, t4, nI d1, t6, nI r1, 2, 1, t10, t11, t12, t13, t14, t15, t16, t17, t18, t19, t20, t21, t22, t23])))]) [4, 0, 1, 2, 3] (by decide) rfl
  refine W.widen (k := 0) (n := 0) (by omega) (by omega) ?_
  exact W.iret (v := jmk 400 m4 m5 r1) hx hb hr (fun t ht hW => ⟨⟨(jmk 400 m4 m5 r1), [(mo, .inr (6, [.int 0, .ref q1, .int (nI g), .ref q3, .ref q4, .ref q5, .ref q6, .int 1, .int gr, .int kd, .long w10, .ref q11, .int mk, .long w13, .long w14])), (q3, .inl (cI, 800, .inl m3)), (q4, .inl (cI, 800, .inl m4)), (q5, .inl (cI, 800, .inl m5)), (q11, .inl (cI, 24, .inl (jl [t0, t1, t2, t3, t4, nI d1, t6, nI r1, 2, 1, t10, t11, t12, t13, t14, t15, t16, t17, t18, t19, t20, t21, t22, t23])))], rfl, (⟨_, rfl, rfl⟩), by rw [ht]; exact hP, hD⟩, hS.F ht⟩) hS.2.2 dX6_pair_198
set_option maxHeartbeats 1000000 in
set_option maxRecDepth 100000 in
theorem gM_pair_p3 (l : Launch) (D : va_G) (cI cL cQ : ClassId) (mo : Nat) (g : Nat) (q1 : Nat) (q3 : Nat) (q4 : Nat) (q5 : Nat) (q6 : Nat) (q11 : Nat) (z0 : Int32) (gr : Int32) (kd : Int32) (mk : Int32) (w10 : Int64) (w13 : Int64) (w14 : Int64) (sz : Nat) : Met l yX6_pair wsX6_pair ({ frames := 1, cells := 0, slots := 0, locals := 21 }) (jw_P D vwCl (jT cI cL cQ) cL cQ [.ref mo, .int 3] [(mo, .inr (6, [.int z0, .ref q1, .int (nI g), .ref q3, .ref q4, .ref q5, .ref q6, .int 0, .int gr, .int kd, .long w10, .ref q11, .int mk, .long w13, .long w14]))] sz) (va_Qi (fun (r : Int32) (u : va_W) => r = (-1) ∧ u = [(mo, .inr (6, [.int 0, .ref q1, .int (nI g), .ref q3, .ref q4, .ref q5, .ref q6, .int 0, .int gr, .int kd, .long w10, .ref q11, .int mk, .long w13, .long w14]))]) (jw_B D vwCl (va_A [(mo, .inr (6, [.int z0, .ref q1, .int (nI g), .ref q3, .ref q4, .ref q5, .ref q6, .int 0, .int gr, .int kd, .long w10, .ref q11, .int mk, .long w13, .long w14]))] sz) (fun u : va_W => u)) (va_A [(mo, .inr (6, [.int z0, .ref q1, .int (nI g), .ref q3, .ref q4, .ref q5, .ref q6, .int 0, .int gr, .int kd, .long w10, .ref q11, .int mk, .long w13, .long w14]))] sz)) 0 0 (va_A [(mo, .inr (6, [.int z0, .ref q1, .int (nI g), .ref q3, .ref q4, .ref q5, .ref q6, .int 0, .int gr, .int kd, .long w10, .ref q11, .int mk, .long w13, .long w14]))] sz) := by
  refine Met.ofW (cc := cX6_pair) (maxL := 5) (ret := (some .int)) (by decide) rfl ?_
  intro p e s m args below meth c s₁ B hml hv
  obtain ⟨rfl, hsz, hP, hK, hN, hD0⟩ := hv
  have hx := B.exec
  have hb := B.bytes
  have hr := B.returns
  have hts := atoms_spec (ws := wsX6_pair) B.pre
  have hown : s.vm.findClass RX6 = some m.cls := findClass_of_methodNamed B.named
  have hlocks := B.notSynchronized
  subst hsz
  have hD := hD0.self (sz := s.heap.size)
  generalize hAe : va_A [(mo, .inr (6, [.int z0, .ref q1, .int (nI g), .ref q3, .ref q4, .ref q5, .ref q6, .int 0, .int gr, .int kd, .long w10, .ref q11, .int mk, .long w13, .long w14]))] s.heap.size = A at hD ⊢
  have hA : ∀ q : Nat, s.heap.size ≤ q → A q := fun q h => by rw [← hAe]; exact Or.inr h
  have hS : va_S A s.heap s.heap [] := va_S.rf
  have hl := lv_entry ([.ref mo, .int 3]) (n := 5) (Nat.le_of_ble_eq_true rfl)
  rw [lg_entry_eq]
  generalize (lg_sl ([.ref mo, .int 3]) ++ List.replicate (5 - (lg_sl ([.ref mo, .int 3])).length) Slot.unset).toArray = ls at hl ⊢
  have hl : lv_has ls 5 [(0, .ref mo), (1, .int 3)] := hl
  refine lv_aload_n hx hb dX6_pair_0 rfl (lv_at hl 0 rfl) ?_
  refine lv_iload_n hx hb dX6_pair_1 rfl (lv_at hl 1 rfl) ?_
  refine lv_if_lt (tgt := 10) hx hb dX6_pair_2 (by decide) (fun c_1 => absurd c_1 (by decide)) (fun c_1 => ?_)
  refine lv_iload_n hx hb dX6_pair_5 rfl (lv_at hl 1 rfl) ?_
  refine lv_iconst (v := 4) hx hb dX6_pair_6 (by decide) ?_
  refine lv_icmp_le (tgt := 14) hx hb dX6_pair_7 (by decide) (fun c_2 => ?_) (fun c_2 => absurd c_2 (by decide))
  refine lv_iconst (v := 0) hx hb dX6_pair_14 (by decide) ?_
  refine jw_i (wr := []) (va_runV (As := [.int 0]) (rest := []) ⟨hx, hb, hml, hown, hts⟩ (gM_refuses_0 l D cI cL cQ mo g q1 q3 q4 q5 q6 q11 z0 0 gr kd mk w10 w13 w14 _) (cwV 1 hts gX6_pair_X6_refuses rfl rfl rfl (by decide +kernel) ⟨Nat.le_of_ble_eq_true rfl, Nat.le_of_ble_eq_true rfl⟩) (jw_V hK hN hP hD [0] (by decide) rfl 6 0 rfl rfl rfl) rfl rfl hl.1 rfl (lv_room (Nat.le_of_ble_eq_true rfl)) dX6_pair_15 ⟨Nat.le_of_ble_eq_true rfl, Nat.le_of_ble_eq_true rfl⟩) hP hD hS hA [0] [] rfl rfl (by decide) (by decide) (fun r u H locs f_3 hP hD hS => ?_)
  obtain ⟨rfl, rfl⟩ := f_3
  have hP : va_P D vwCl [(mo, .inr (6, [.int 0, .ref q1, .int (nI g), .ref q3, .ref q4, .ref q5, .ref q6, .int 0, .int gr, .int kd, .long w10, .ref q11, .int mk, .long w13, .long w14]))] H := hP
  have hD : va_D A [(mo, .inr (6, [.int 0, .ref q1, .int (nI g), .ref q3, .ref q4, .ref q5, .ref q6, .int 0, .int gr, .int kd, .long w10, .ref q11, .int mk, .long w13, .long w14]))] := hD
  refine lv_if_eq (tgt := 23) hx hb dX6_pair_18 (by decide) (fun c_4 => ?_) (fun c_4 => absurd c_4 (by decide))
  refine lv_aload_n hx hb dX6_pair_23 rfl (lv_at hl 0 rfl) ?_
  refine va_get (D := D) (ci := 6) (v := .int 0) (C := RX6) (T := TX6) (N := 15) hx hb hts (by decide +kernel) hown hK hP 0 rfl rfl 7 (by decide) (hts (.fieldLink RX6 43 "JoinDeskModel" "prepared" "Z") (by decide +kernel)) (fun _ h9 => h9) rfl dX6_pair_24 ?_
  refine lv_if_eq (tgt := 45) hx hb dX6_pair_27 (by decide) (fun c_5 => ?_) (fun c_5 => absurd c_5 (by decide))
  refine lv_iconst (v := 0) hx hb dX6_pair_45 (by decide) ?_
  refine lv_istore_n (lv' := [(2, .int 0), (0, .ref mo), (1, .int 3)]) hx hb dX6_pair_46 rfl hl (by decide) rfl (fun ls hl => ?_)
  refine lv_iload_n hx hb dX6_pair_47 rfl (lv_at hl 2 rfl) ?_
  refine lv_iconst (v := 1) hx hb dX6_pair_48 (by decide) ?_
  refine lv_icmp_eq (tgt := 57) hx hb dX6_pair_49 (by decide) (fun c_6 => absurd c_6 (by decide)) (fun c_6 => ?_)
  refine lv_iload_n hx hb dX6_pair_52 rfl (lv_at hl 2 rfl) ?_
  refine lv_iconst (v := 3) hx hb dX6_pair_53 (by decide) ?_
  refine lv_icmp_ne (tgt := 61) hx hb dX6_pair_54 (by decide) (fun c_7 => absurd c_7 (by decide)) (fun c_7 => ?_)
  refine lv_iconst (v := 0) hx hb dX6_pair_57 (by decide) ?_
  refine lv_goto (tgt := 62) hx hb dX6_pair_58 (by decide) ?_
  refine lv_istore_n (lv' := [(3, .int 0), (2, .int 0), (0, .ref mo), (1, .int 3)]) hx hb dX6_pair_62 rfl hl (by decide) rfl (fun ls hl => ?_)
  refine lv_iload_n hx hb dX6_pair_63 rfl (lv_at hl 3 rfl) ?_
  refine lv_if_ne (tgt := 114) hx hb dX6_pair_64 (by decide) (fun c_8 => ?_) (fun c_8 => absurd c_8 (by decide))
  refine lv_iload_n hx hb dX6_pair_114 rfl (lv_at hl 1 rfl) ?_
  refine lv_if_eq (tgt := 135) hx hb dX6_pair_115 (by decide) (fun c_9 => ?_) (fun c_9 => absurd c_9 (by decide))
  refine lv_iconst (v := 0) hx hb dX6_pair_135 (by decide) ?_
  refine lv_istore (lv' := [(4, .int 0), (3, .int 0), (2, .int 0), (0, .ref mo), (1, .int 3)]) hx hb dX6_pair_136 hl (by decide) rfl (fun ls hl => ?_)
  refine lv_iload_n hx hb dX6_pair_138 rfl (lv_at hl 4 rfl) ?_
  refine lv_iconst (v := 3) hx hb dX6_pair_139 (by decide) ?_
  refine lv_icmp_ge (tgt := 169) hx hb dX6_pair_140 (by decide) (fun c_10 => ?_) (fun c_10 => absurd c_10 (by decide))
  refine lv_iload hx hb dX6_pair_169 (lv_at hl 0 rfl) ?_
  refine lv_if_eq (tgt := 197) hx hb dX6_pair_171 (by decide) (fun c_11 => ?_) (fun c_11 => absurd c_11 (by decide))
  refine lv_iconst (v := (-1)) hx hb dX6_pair_197 (by decide) ?_
  refine W.widen (k := 0) (n := 0) (by omega) (by omega) ?_
  exact W.iret (v := (-1)) hx hb hr (fun t ht hW => ⟨⟨(-1), [(mo, .inr (6, [.int 0, .ref q1, .int (nI g), .ref q3, .ref q4, .ref q5, .ref q6, .int 0, .int gr, .int kd, .long w10, .ref q11, .int mk, .long w13, .long w14]))], rfl, (by exact ⟨rfl, rfl⟩), by rw [ht]; exact hP, hD⟩, hS.F ht⟩) hS.2.2 dX6_pair_198
set_option maxHeartbeats 1000000 in
set_option maxRecDepth 100000 in
theorem gM_pair_n3 (l : Launch) (D : va_G) (cI cL cQ : ClassId) (mo : Nat) (g : Nat) (q1 : Nat) (q3 : Nat) (q4 : Nat) (q5 : Nat) (q6 : Nat) (q11 : Nat) (z0 : Int32) (gr : Int32) (kd : Int32) (mk : Int32) (w10 : Int64) (w13 : Int64) (w14 : Int64) (m3 : Nat → Int32) (m4 : Nat → Int32) (m5 : Nat → Int32) (t0 : Int32) (t1 : Int32) (t2 : Int32) (t3 : Int32) (t4 : Int32) (t5 : Int32) (t6 : Int32) (t7 : Int32) (t8 : Int32) (t10 : Int32) (t11 : Int32) (t12 : Int32) (t13 : Int32) (t14 : Int32) (t15 : Int32) (t16 : Int32) (t17 : Int32) (t18 : Int32) (t19 : Int32) (t20 : Int32) (t21 : Int32) (t22 : Int32) (t23 : Int32) (sz : Nat) (h5 : jo5 m5) : Met l yX6_pair wsX6_pair ({ frames := 1, cells := 0, slots := 0, locals := 21 }) (jw_P D vwCl (jT cI cL cQ) cL cQ [.ref mo, .int 3] [(mo, .inr (6, [.int z0, .ref q1, .int (nI g), .ref q3, .ref q4, .ref q5, .ref q6, .int 1, .int gr, .int kd, .long w10, .ref q11, .int mk, .long w13, .long w14])), (q3, .inl (cI, 800, .inl m3)), (q4, .inl (cI, 800, .inl m4)), (q5, .inl (cI, 800, .inl m5)), (q11, .inl (cI, 24, .inl (jl [t0, t1, t2, t3, t4, t5, t6, t7, t8, 0, t10, t11, t12, t13, t14, t15, t16, t17, t18, t19, t20, t21, t22, t23])))] sz) (va_Qi (fun (r : Int32) (u : va_W) => ∃ (z9 : Int32), r = z9 ∧ u = [(mo, .inr (6, [.int 0, .ref q1, .int (nI g), .ref q3, .ref q4, .ref q5, .ref q6, .int 1, .int gr, .int kd, .long w10, .ref q11, .int mk, .long w13, .long w14])), (q3, .inl (cI, 800, .inl m3)), (q4, .inl (cI, 800, .inl m4)), (q5, .inl (cI, 800, .inl m5)), (q11, .inl (cI, 24, .inl (jl [t0, t1, t2, t3, t4, t5, t6, t7, t8, 0, t10, t11, t12, t13, t14, t15, t16, t17, t18, t19, t20, t21, t22, t23])))]) (jw_B D vwCl (va_A [(mo, .inr (6, [.int z0, .ref q1, .int (nI g), .ref q3, .ref q4, .ref q5, .ref q6, .int 1, .int gr, .int kd, .long w10, .ref q11, .int mk, .long w13, .long w14])), (q3, .inl (cI, 800, .inl m3)), (q4, .inl (cI, 800, .inl m4)), (q5, .inl (cI, 800, .inl m5)), (q11, .inl (cI, 24, .inl (jl [t0, t1, t2, t3, t4, t5, t6, t7, t8, 0, t10, t11, t12, t13, t14, t15, t16, t17, t18, t19, t20, t21, t22, t23])))] sz) (fun u : va_W => u)) (va_A [(mo, .inr (6, [.int z0, .ref q1, .int (nI g), .ref q3, .ref q4, .ref q5, .ref q6, .int 1, .int gr, .int kd, .long w10, .ref q11, .int mk, .long w13, .long w14])), (q3, .inl (cI, 800, .inl m3)), (q4, .inl (cI, 800, .inl m4)), (q5, .inl (cI, 800, .inl m5)), (q11, .inl (cI, 24, .inl (jl [t0, t1, t2, t3, t4, t5, t6, t7, t8, 0, t10, t11, t12, t13, t14, t15, t16, t17, t18, t19, t20, t21, t22, t23])))] sz)) 0 0 (va_A [(mo, .inr (6, [.int z0, .ref q1, .int (nI g), .ref q3, .ref q4, .ref q5, .ref q6, .int 1, .int gr, .int kd, .long w10, .ref q11, .int mk, .long w13, .long w14])), (q3, .inl (cI, 800, .inl m3)), (q4, .inl (cI, 800, .inl m4)), (q5, .inl (cI, 800, .inl m5)), (q11, .inl (cI, 24, .inl (jl [t0, t1, t2, t3, t4, t5, t6, t7, t8, 0, t10, t11, t12, t13, t14, t15, t16, t17, t18, t19, t20, t21, t22, t23])))] sz) := by
  refine Met.ofW (cc := cX6_pair) (maxL := 5) (ret := (some .int)) (by decide) rfl ?_
  intro p e s m args below meth c s₁ B hml hv
  obtain ⟨rfl, hsz, hP, hK, hN, hD0⟩ := hv
  have hx := B.exec
  have hb := B.bytes
  have hr := B.returns
  have hts := atoms_spec (ws := wsX6_pair) B.pre
  have hown : s.vm.findClass RX6 = some m.cls := findClass_of_methodNamed B.named
  have hlocks := B.notSynchronized
  subst hsz
  have hD := hD0.self (sz := s.heap.size)
  generalize hAe : va_A [(mo, .inr (6, [.int z0, .ref q1, .int (nI g), .ref q3, .ref q4, .ref q5, .ref q6, .int 1, .int gr, .int kd, .long w10, .ref q11, .int mk, .long w13, .long w14])), (q3, .inl (cI, 800, .inl m3)), (q4, .inl (cI, 800, .inl m4)), (q5, .inl (cI, 800, .inl m5)), (q11, .inl (cI, 24, .inl (jl [t0, t1, t2, t3, t4, t5, t6, t7, t8, 0, t10, t11, t12, t13, t14, t15, t16, t17, t18, t19, t20, t21, t22, t23])))] s.heap.size = A at hD ⊢
  have hA : ∀ q : Nat, s.heap.size ≤ q → A q := fun q h => by rw [← hAe]; exact Or.inr h
  have hS : va_S A s.heap s.heap [] := va_S.rf
  have hl := lv_entry ([.ref mo, .int 3]) (n := 5) (Nat.le_of_ble_eq_true rfl)
  rw [lg_entry_eq]
  generalize (lg_sl ([.ref mo, .int 3]) ++ List.replicate (5 - (lg_sl ([.ref mo, .int 3])).length) Slot.unset).toArray = ls at hl ⊢
  have hl : lv_has ls 5 [(0, .ref mo), (1, .int 3)] := hl
  refine lv_aload_n hx hb dX6_pair_0 rfl (lv_at hl 0 rfl) ?_
  refine lv_iload_n hx hb dX6_pair_1 rfl (lv_at hl 1 rfl) ?_
  refine lv_if_lt (tgt := 10) hx hb dX6_pair_2 (by decide) (fun c_1 => absurd c_1 (by decide)) (fun c_1 => ?_)
  refine lv_iload_n hx hb dX6_pair_5 rfl (lv_at hl 1 rfl) ?_
  refine lv_iconst (v := 4) hx hb dX6_pair_6 (by decide) ?_
  refine lv_icmp_le (tgt := 14) hx hb dX6_pair_7 (by decide) (fun c_2 => ?_) (fun c_2 => absurd c_2 (by decide))
  refine lv_iconst (v := 0) hx hb dX6_pair_14 (by decide) ?_
  refine jw_i (wr := [(q3, .inl (cI, 800, .inl m3)), (q4, .inl (cI, 800, .inl m4)), (q5, .inl (cI, 800, .inl m5)), (q11, .inl (cI, 24, .inl (jl [t0, t1, t2, t3, t4, t5, t6, t7, t8, 0, t10, t11, t12, t13, t14, t15, t16, t17, t18, t19, t20, t21, t22, t23])))]) (va_runV (As := [.int 0]) (rest := []) ⟨hx, hb, hml, hown, hts⟩ (gM_refuses_0 l D cI cL cQ mo g q1 q3 q4 q5 q6 q11 z0 1 gr kd mk w10 w13 w14 _) (cwV 1 hts gX6_pair_X6_refuses rfl rfl rfl (by decide +kernel) ⟨Nat.le_of_ble_eq_true rfl, Nat.le_of_ble_eq_true rfl⟩) (jw_V hK hN hP hD [0] (by decide) rfl 6 0 rfl rfl rfl) rfl rfl hl.1 rfl (lv_room (Nat.le_of_ble_eq_true rfl)) dX6_pair_15 ⟨Nat.le_of_ble_eq_true rfl, Nat.le_of_ble_eq_true rfl⟩) hP hD hS hA [0] [1, 2, 3, 4] rfl rfl (by decide) (by decide) (fun r u H locs f_3 hP hD hS => ?_)
  obtain ⟨rfl, rfl⟩ := f_3
  have hP : va_P D vwCl [(q3, .inl (cI, 800, .inl m3)), (q4, .inl (cI, 800, .inl m4)), (q5, .inl (cI, 800, .inl m5)), (q11, .inl (cI, 24, .inl (jl [t0, t1, t2, t3, t4, t5, t6, t7, t8, 0, t10, t11, t12, t13, t14, t15, t16, t17, t18, t19, t20, t21, t22, t23]))), (mo, .inr (6, [.int 0, .ref q1, .int (nI g), .ref q3, .ref q4, .ref q5, .ref q6, .int 1, .int gr, .int kd, .long w10, .ref q11, .int mk, .long w13, .long w14]))] H := hP
  have hD : va_D A [(q3, .inl (cI, 800, .inl m3)), (q4, .inl (cI, 800, .inl m4)), (q5, .inl (cI, 800, .inl m5)), (q11, .inl (cI, 24, .inl (jl [t0, t1, t2, t3, t4, t5, t6, t7, t8, 0, t10, t11, t12, t13, t14, t15, t16, t17, t18, t19, t20, t21, t22, t23]))), (mo, .inr (6, [.int 0, .ref q1, .int (nI g), .ref q3, .ref q4, .ref q5, .ref q6, .int 1, .int gr, .int kd, .long w10, .ref q11, .int mk, .long w13, .long w14]))] := hD
  refine lv_if_eq (tgt := 23) hx hb dX6_pair_18 (by decide) (fun c_4 => ?_) (fun c_4 => absurd c_4 (by decide))
  refine lv_aload_n hx hb dX6_pair_23 rfl (lv_at hl 0 rfl) ?_
  refine va_get (D := D) (ci := 6) (v := .int 1) (C := RX6) (T := TX6) (N := 15) hx hb hts (by decide +kernel) hown hK hP 4 rfl rfl 7 (by decide) (hts (.fieldLink RX6 43 "JoinDeskModel" "prepared" "Z") (by decide +kernel)) (fun _ h9 => h9) rfl dX6_pair_24 ?_
  refine lv_if_eq (tgt := 45) hx hb dX6_pair_27 (by decide) (fun c_5 => absurd c_5 (by decide)) (fun c_5 => ?_)
  refine lv_aload_n hx hb dX6_pair_30 rfl (lv_at hl 0 rfl) ?_
  refine va_get (D := D) (ci := 6) (v := .ref q11) (C := RX6) (T := TX6) (N := 15) hx hb hts (by decide +kernel) hown hK hP 4 rfl rfl 11 (by decide) (hts (.fieldLink RX6 25 "JoinDeskModel" "at" "[I") (by decide +kernel)) (fun _ h9 => h9) rfl dX6_pair_31 ?_
  refine lv_bipush (v := 9) hx hb dX6_pair_34 (by decide) ?_
  refine va_iald hx hb hK hP 3 0 rfl rfl (by unfold vp_in; decide) dX6_pair_36 ?_
  refine W.eq (g2 := F0 m 37 ls [.int 0]) rfl ?_
  refine lv_iconst (v := 1) hx hb dX6_pair_37 (by decide) ?_
  refine lv_icmp_ne (tgt := 45) hx hb dX6_pair_38 (by decide) (fun c_6 => ?_) (fun c_6 => absurd c_6 (by decide))
  refine lv_iconst (v := 0) hx hb dX6_pair_45 (by decide) ?_
  refine lv_istore_n (lv' := [(2, .int 0), (0, .ref mo), (1, .int 3)]) hx hb dX6_pair_46 rfl hl (by decide) rfl (fun ls hl => ?_)
  refine lv_iload_n hx hb dX6_pair_47 rfl (lv_at hl 2 rfl) ?_
  refine lv_iconst (v := 1) hx hb dX6_pair_48 (by decide) ?_
  refine lv_icmp_eq (tgt := 57) hx hb dX6_pair_49 (by decide) (fun c_7 => absurd c_7 (by decide)) (fun c_7 => ?_)
  refine lv_iload_n hx hb dX6_pair_52 rfl (lv_at hl 2 rfl) ?_
  refine lv_iconst (v := 3) hx hb dX6_pair_53 (by decide) ?_
  refine lv_icmp_ne (tgt := 61) hx hb dX6_pair_54 (by decide) (fun c_8 => absurd c_8 (by decide)) (fun c_8 => ?_)
  refine lv_iconst (v := 0) hx hb dX6_pair_57 (by decide) ?_
  refine lv_goto (tgt := 62) hx hb dX6_pair_58 (by decide) ?_
  refine lv_istore_n (lv' := [(3, .int 0), (2, .int 0), (0, .ref mo), (1, .int 3)]) hx hb dX6_pair_62 rfl hl (by decide) rfl (fun ls hl => ?_)
  refine lv_iload_n hx hb dX6_pair_63 rfl (lv_at hl 3 rfl) ?_
  refine lv_if_ne (tgt := 114) hx hb dX6_pair_64 (by decide) (fun c_9 => ?_) (fun c_9 => absurd c_9 (by decide))
  refine lv_iload_n hx hb dX6_pair_114 rfl (lv_at hl 1 rfl) ?_
  refine lv_if_eq (tgt := 135) hx hb dX6_pair_115 (by decide) (fun c_10 => ?_) (fun c_10 => absurd c_10 (by decide))
  refine lv_iconst (v := 0) hx hb dX6_pair_135 (by decide) ?_
  refine lv_istore (lv' := [(4, .int 0), (3, .int 0), (2, .int 0), (0, .ref mo), (1, .int 3)]) hx hb dX6_pair_136 hl (by decide) rfl (fun ls hl => ?_)
  refine lv_iload_n hx hb dX6_pair_138 rfl (lv_at hl 4 rfl) ?_
  refine lv_iconst (v := 3) hx hb dX6_pair_139 (by decide) ?_
  refine lv_icmp_ge (tgt := 169) hx hb dX6_pair_140 (by decide) (fun c_11 => ?_) (fun c_11 => absurd c_11 (by decide))
  refine lv_iload hx hb dX6_pair_169 (lv_at hl 0 rfl) ?_
  refine lv_if_eq (tgt := 197) hx hb dX6_pair_171 (by decide) (fun c_12 => ?_) (fun c_12 => absurd c_12 (by decide))
  refine lv_iconst (v := (-1)) hx hb dX6_pair_197 (by decide) ?_
  have hP := hP.sub (ws' := [(mo, .inr (6, [.int 0, .ref q1, .int (nI g), .ref q3, .ref q4, .ref q5, .ref q6, .int 1, .int gr, .int kd, .long w10, .ref q11, .int mk, .long w13, .long w14])), (q3, .inl (cI, 800, .inl m3)), (q4, .inl (cI, 800, .inl m4)), (q5, .inl (cI, 800, .inl m5)), (q11, .inl (cI, 24, .inl (jl [t0, t1, t2, t3, t4, t5, t6, t7, t8, 0, t10, t11, t12, t13, t14, t15, t16, t17, t18, t19, t20, t21, t22, t23])))]) [4, 0, 1, 2, 3] rfl
  have hD := hD.sub (ws' := [(mo, .inr (6, [.int 0, .ref q1, .int (nI g), .ref q3, .ref q4, .ref q5, .ref q6, .int 1, .int gr, .int kd, .long w10, .ref q11, .int mk, .long w13, .long w14])), (q3, .inl (cI, 800, .inl m3)), (q4, .inl (cI, 800, .inl m4)), (q5, .inl (cI, 800, .inl m5)), (q11, .inl (cI, 24, .inl (jl [t0, t1, t2, t3, t4, t5, t6, t7, t8, 0, t10, t11, t12, t13, t14, t15, t16, t17, t18, t19, t20, t21, t22, t23])))]) [4, 0, 1, 2, 3] (by decide) rfl
  refine W.widen (k := 0) (n := 0) (by omega) (by omega) ?_
  exact W.iret (v := (-1)) hx hb hr (fun t ht hW => ⟨⟨(-1), [(mo, .inr (6, [.int 0, .ref q1, .int (nI g), .ref q3, .ref q4, .ref q5, .ref q6, .int 1, .int gr, .int kd, .long w10, .ref q11, .int mk, .long w13, .long w14])), (q3, .inl (cI, 800, .inl m3)), (q4, .inl (cI, 800, .inl m4)), (q5, .inl (cI, 800, .inl m5)), (q11, .inl (cI, 24, .inl (jl [t0, t1, t2, t3, t4, t5, t6, t7, t8, 0, t10, t11, t12, t13, t14, t15, t16, t17, t18, t19, t20, t21, t22, t23])))], rfl, (⟨_, rfl, rfl⟩), by rw [ht]; exact hP, hD⟩, hS.F ht⟩) hS.2.2 dX6_pair_198
set_option maxHeartbeats 1000000 in
set_option maxRecDepth 100000 in
theorem gM_pair_03 (l : Launch) (D : va_G) (cI cL cQ : ClassId) (mo : Nat) (g : Nat) (q1 : Nat) (q3 : Nat) (q4 : Nat) (q5 : Nat) (q6 : Nat) (q11 : Nat) (z0 : Int32) (gr : Int32) (kd : Int32) (mk : Int32) (w10 : Int64) (w13 : Int64) (w14 : Int64) (m3 : Nat → Int32) (m4 : Nat → Int32) (m5 : Nat → Int32) (t0 : Int32) (t1 : Int32) (t2 : Int32) (t3 : Int32) (t10 : Int32) (t11 : Int32) (t12 : Int32) (t13 : Int32) (t14 : Int32) (t15 : Int32) (t16 : Int32) (t17 : Int32) (t18 : Int32) (t19 : Int32) (t20 : Int32) (t21 : Int32) (t22 : Int32) (t23 : Int32) (d0 : Nat) (d1 : Nat) (r0 : Nat) (r1 : Nat) (sz : Nat) (h5 : jo5 m5) (hr0 : r0 < d0) (hr1 : r1 < d1) (hd0 : d0 ≤ 400) (hd1 : d1 ≤ 400) : Met l yX6_pair wsX6_pair ({ frames := 1, cells := 0, slots := 0, locals := 21 }) (jw_P D vwCl (jT cI cL cQ) cL cQ [.ref mo, .int 3] [(mo, .inr (6, [.int z0, .ref q1, .int (nI g), .ref q3, .ref q4, .ref q5, .ref q6, .int 1, .int gr, .int kd, .long w10, .ref q11, .int mk, .long w13, .long w14])), (q3, .inl (cI, 800, .inl m3)), (q4, .inl (cI, 800, .inl m4)), (q5, .inl (cI, 800, .inl m5)), (q11, .inl (cI, 24, .inl (jl [t0, t1, t2, t3, nI d0, nI d1, nI r0, nI r1, 0, 1, t10, t11, t12, t13, t14, t15, t16, t17, t18, t19, t20, t21, t22, t23])))] sz) (va_Qi (fun (r : Int32) (u : va_W) => ∃ (z9 : Int32), r = z9 ∧ u = [(mo, .inr (6, [.int 0, .ref q1, .int (nI g), .ref q3, .ref q4, .ref q5, .ref q6, .int 1, .int gr, .int kd, .long w10, .ref q11, .int mk, .long w13, .long w14])), (q3, .inl (cI, 800, .inl m3)), (q4, .inl (cI, 800, .inl m4)), (q5, .inl (cI, 800, .inl m5)), (q11, .inl (cI, 24, .inl (jl [t0, t1, t2, t3, nI d0, nI d1, nI r0, nI r1, 0, 1, t10, t11, t12, t13, t14, t15, t16, t17, t18, t19, t20, t21, t22, t23])))]) (jw_B D vwCl (va_A [(mo, .inr (6, [.int z0, .ref q1, .int (nI g), .ref q3, .ref q4, .ref q5, .ref q6, .int 1, .int gr, .int kd, .long w10, .ref q11, .int mk, .long w13, .long w14])), (q3, .inl (cI, 800, .inl m3)), (q4, .inl (cI, 800, .inl m4)), (q5, .inl (cI, 800, .inl m5)), (q11, .inl (cI, 24, .inl (jl [t0, t1, t2, t3, nI d0, nI d1, nI r0, nI r1, 0, 1, t10, t11, t12, t13, t14, t15, t16, t17, t18, t19, t20, t21, t22, t23])))] sz) (fun u : va_W => u)) (va_A [(mo, .inr (6, [.int z0, .ref q1, .int (nI g), .ref q3, .ref q4, .ref q5, .ref q6, .int 1, .int gr, .int kd, .long w10, .ref q11, .int mk, .long w13, .long w14])), (q3, .inl (cI, 800, .inl m3)), (q4, .inl (cI, 800, .inl m4)), (q5, .inl (cI, 800, .inl m5)), (q11, .inl (cI, 24, .inl (jl [t0, t1, t2, t3, nI d0, nI d1, nI r0, nI r1, 0, 1, t10, t11, t12, t13, t14, t15, t16, t17, t18, t19, t20, t21, t22, t23])))] sz)) 0 0 (va_A [(mo, .inr (6, [.int z0, .ref q1, .int (nI g), .ref q3, .ref q4, .ref q5, .ref q6, .int 1, .int gr, .int kd, .long w10, .ref q11, .int mk, .long w13, .long w14])), (q3, .inl (cI, 800, .inl m3)), (q4, .inl (cI, 800, .inl m4)), (q5, .inl (cI, 800, .inl m5)), (q11, .inl (cI, 24, .inl (jl [t0, t1, t2, t3, nI d0, nI d1, nI r0, nI r1, 0, 1, t10, t11, t12, t13, t14, t15, t16, t17, t18, t19, t20, t21, t22, t23])))] sz) := by
  refine Met.ofW (cc := cX6_pair) (maxL := 5) (ret := (some .int)) (by decide) rfl ?_
  intro p e s m args below meth c s₁ B hml hv
  obtain ⟨rfl, hsz, hP, hK, hN, hD0⟩ := hv
  have hx := B.exec
  have hb := B.bytes
  have hr := B.returns
  have hts := atoms_spec (ws := wsX6_pair) B.pre
  have hown : s.vm.findClass RX6 = some m.cls := findClass_of_methodNamed B.named
  have hlocks := B.notSynchronized
  subst hsz
  have hD := hD0.self (sz := s.heap.size)
  generalize hAe : va_A [(mo, .inr (6, [.int z0, .ref q1, .int (nI g), .ref q3, .ref q4, .ref q5, .ref q6, .int 1, .int gr, .int kd, .long w10, .ref q11, .int mk, .long w13, .long w14])), (q3, .inl (cI, 800, .inl m3)), (q4, .inl (cI, 800, .inl m4)), (q5, .inl (cI, 800, .inl m5)), (q11, .inl (cI, 24, .inl (jl [t0, t1, t2, t3, nI d0, nI d1, nI r0, nI r1, 0, 1, t10, t11, t12, t13, t14, t15, t16, t17, t18, t19, t20, t21, t22, t23])))] s.heap.size = A at hD ⊢
  have hA : ∀ q : Nat, s.heap.size ≤ q → A q := fun q h => by rw [← hAe]; exact Or.inr h
  have hS : va_S A s.heap s.heap [] := va_S.rf
  have hl := lv_entry ([.ref mo, .int 3]) (n := 5) (Nat.le_of_ble_eq_true rfl)
  rw [lg_entry_eq]
  generalize (lg_sl ([.ref mo, .int 3]) ++ List.replicate (5 - (lg_sl ([.ref mo, .int 3])).length) Slot.unset).toArray = ls at hl ⊢
  have hl : lv_has ls 5 [(0, .ref mo), (1, .int 3)] := hl
  refine lv_aload_n hx hb dX6_pair_0 rfl (lv_at hl 0 rfl) ?_
  refine lv_iload_n hx hb dX6_pair_1 rfl (lv_at hl 1 rfl) ?_
  refine lv_if_lt (tgt := 10) hx hb dX6_pair_2 (by decide) (fun c_1 => absurd c_1 (by decide)) (fun c_1 => ?_)
  refine lv_iload_n hx hb dX6_pair_5 rfl (lv_at hl 1 rfl) ?_
  refine lv_iconst (v := 4) hx hb dX6_pair_6 (by decide) ?_
  refine lv_icmp_le (tgt := 14) hx hb dX6_pair_7 (by decide) (fun c_2 => ?_) (fun c_2 => absurd c_2 (by decide))
  refine lv_iconst (v := 0) hx hb dX6_pair_14 (by decide) ?_
  refine jw_i (wr := [(q3, .inl (cI, 800, .inl m3)), (q4, .inl (cI, 800, .inl m4)), (q5, .inl (cI, 800, .inl m5)), (q11, .inl (cI, 24, .inl (jl [t0, t1, t2, t3, nI d0, nI d1, nI r0, nI r1, 0, 1, t10, t11, t12, t13, t14, t15, t16, t17, t18, t19, t20, t21, t22, t23])))]) (va_runV (As := [.int 0]) (rest := []) ⟨hx, hb, hml, hown, hts⟩ (gM_refuses_0 l D cI cL cQ mo g q1 q3 q4 q5 q6 q11 z0 1 gr kd mk w10 w13 w14 _) (cwV 1 hts gX6_pair_X6_refuses rfl rfl rfl (by decide +kernel) ⟨Nat.le_of_ble_eq_true rfl, Nat.le_of_ble_eq_true rfl⟩) (jw_V hK hN hP hD [0] (by decide) rfl 6 0 rfl rfl rfl) rfl rfl hl.1 rfl (lv_room (Nat.le_of_ble_eq_true rfl)) dX6_pair_15 ⟨Nat.le_of_ble_eq_true rfl, Nat.le_of_ble_eq_true rfl⟩) hP hD hS hA [0] [1, 2, 3, 4] rfl rfl (by decide) (by decide) (fun r u H locs f_3 hP hD hS => ?_)
  obtain ⟨rfl, rfl⟩ := f_3
  have hP : va_P D vwCl [(q3, .inl (cI, 800, .inl m3)), (q4, .inl (cI, 800, .inl m4)), (q5, .inl (cI, 800, .inl m5)), (q11, .inl (cI, 24, .inl (jl [t0, t1, t2, t3, nI d0, nI d1, nI r0, nI r1, 0, 1, t10, t11, t12, t13, t14, t15, t16, t17, t18, t19, t20, t21, t22, t23]))), (mo, .inr (6, [.int 0, .ref q1, .int (nI g), .ref q3, .ref q4, .ref q5, .ref q6, .int 1, .int gr, .int kd, .long w10, .ref q11, .int mk, .long w13, .long w14]))] H := hP
  have hD : va_D A [(q3, .inl (cI, 800, .inl m3)), (q4, .inl (cI, 800, .inl m4)), (q5, .inl (cI, 800, .inl m5)), (q11, .inl (cI, 24, .inl (jl [t0, t1, t2, t3, nI d0, nI d1, nI r0, nI r1, 0, 1, t10, t11, t12, t13, t14, t15, t16, t17, t18, t19, t20, t21, t22, t23]))), (mo, .inr (6, [.int 0, .ref q1, .int (nI g), .ref q3, .ref q4, .ref q5, .ref q6, .int 1, .int gr, .int kd, .long w10, .ref q11, .int mk, .long w13, .long w14]))] := hD
  refine lv_if_eq (tgt := 23) hx hb dX6_pair_18 (by decide) (fun c_4 => ?_) (fun c_4 => absurd c_4 (by decide))
  refine lv_aload_n hx hb dX6_pair_23 rfl (lv_at hl 0 rfl) ?_
  refine va_get (D := D) (ci := 6) (v := .int 1) (C := RX6) (T := TX6) (N := 15) hx hb hts (by decide +kernel) hown hK hP 4 rfl rfl 7 (by decide) (hts (.fieldLink RX6 43 "JoinDeskModel" "prepared" "Z") (by decide +kernel)) (fun _ h9 => h9) rfl dX6_pair_24 ?_
  refine lv_if_eq (tgt := 45) hx hb dX6_pair_27 (by decide) (fun c_5 => absurd c_5 (by decide)) (fun c_5 => ?_)
  refine lv_aload_n hx hb dX6_pair_30 rfl (lv_at hl 0 rfl) ?_
  refine va_get (D := D) (ci := 6) (v := .ref q11) (C := RX6) (T := TX6) (N := 15) hx hb hts (by decide +kernel) hown hK hP 4 rfl rfl 11 (by decide) (hts (.fieldLink RX6 25 "JoinDeskModel" "at" "[I") (by decide +kernel)) (fun _ h9 => h9) rfl dX6_pair_31 ?_
  refine lv_bipush (v := 9) hx hb dX6_pair_34 (by decide) ?_
  refine va_iald hx hb hK hP 3 0 rfl rfl (by unfold vp_in; decide) dX6_pair_36 ?_
  refine W.eq (g2 := F0 m 37 ls [.int 1]) rfl ?_
  refine lv_iconst (v := 1) hx hb dX6_pair_37 (by decide) ?_
  refine lv_icmp_ne (tgt := 45) hx hb dX6_pair_38 (by decide) (fun c_6 => absurd c_6 (by decide)) (fun c_6 => ?_)
  refine lv_iconst (v := 1) hx hb dX6_pair_41 (by decide) ?_
  refine lv_goto (tgt := 46) hx hb dX6_pair_42 (by decide) ?_
  refine lv_istore_n (lv' := [(2, .int 1), (0, .ref mo), (1, .int 3)]) hx hb dX6_pair_46 rfl hl (by decide) rfl (fun ls hl => ?_)
  refine lv_iload_n hx hb dX6_pair_47 rfl (lv_at hl 2 rfl) ?_
  refine lv_iconst (v := 1) hx hb dX6_pair_48 (by decide) ?_
  refine lv_icmp_eq (tgt := 57) hx hb dX6_pair_49 (by decide) (fun c_7 => absurd c_7 (by decide)) (fun c_7 => ?_)
  refine lv_iload_n hx hb dX6_pair_52 rfl (lv_at hl 2 rfl) ?_
  refine lv_iconst (v := 3) hx hb dX6_pair_53 (by decide) ?_
  refine lv_icmp_ne (tgt := 61) hx hb dX6_pair_54 (by decide) (fun c_8 => absurd c_8 (by decide)) (fun c_8 => ?_)
  refine lv_iconst (v := 0) hx hb dX6_pair_57 (by decide) ?_
  refine lv_goto (tgt := 62) hx hb dX6_pair_58 (by decide) ?_
  refine lv_istore_n (lv' := [(3, .int 0), (2, .int 1), (0, .ref mo), (1, .int 3)]) hx hb dX6_pair_62 rfl hl (by decide) rfl (fun ls hl => ?_)
  refine lv_iload_n hx hb dX6_pair_63 rfl (lv_at hl 3 rfl) ?_
  refine lv_if_ne (tgt := 114) hx hb dX6_pair_64 (by decide) (fun c_9 => ?_) (fun c_9 => absurd c_9 (by decide))
  refine lv_iload_n hx hb dX6_pair_114 rfl (lv_at hl 1 rfl) ?_
  refine lv_if_eq (tgt := 135) hx hb dX6_pair_115 (by decide) (fun c_10 => absurd c_10 (by decide)) (fun c_10 => ?_)
  refine lv_aload_n hx hb dX6_pair_118 rfl (lv_at hl 2 rfl) ?_
  refine va_get (D := D) (ci := 6) (v := .ref q11) (C := RX6) (T := TX6) (N := 15) hx hb hts (by decide +kernel) hown hK hP 4 rfl rfl 11 (by decide) (hts (.fieldLink RX6 25 "JoinDeskModel" "at" "[I") (by decide +kernel)) (fun _ h9 => h9) rfl dX6_pair_119 ?_
  refine lv_bipush (v := 8) hx hb dX6_pair_122 (by decide) ?_
  refine va_iald hx hb hK hP 3 0 rfl rfl (by unfold vp_in; decide) dX6_pair_124 ?_
  refine W.eq (g2 := F0 m 125 ls [.int 0]) rfl ?_
  refine lv_iconst (v := 2) hx hb dX6_pair_125 (by decide) ?_
  refine lv_iload_n hx hb dX6_pair_126 rfl (lv_at hl 0 rfl) ?_
  refine lv_isub hx hb dX6_pair_127 ?_
  refine lv_topi (fun z_11 e_z_11 => ?_)
  obtain rfl : z_11 = 2 := e_z_11.trans (by decide)
  refine lv_icmp_eq (tgt := 135) hx hb dX6_pair_128 (by decide) (fun c_12 => absurd c_12 (by decide)) (fun c_12 => ?_)
  refine lv_iconst (v := 1) hx hb dX6_pair_131 (by decide) ?_
  refine lv_goto (tgt := 136) hx hb dX6_pair_132 (by decide) ?_
  refine lv_istore (lv' := [(4, .int 1), (3, .int 0), (2, .int 1), (0, .ref mo), (1, .int 3)]) hx hb dX6_pair_136 hl (by decide) rfl (fun ls hl => ?_)
  refine lv_iload_n hx hb dX6_pair_138 rfl (lv_at hl 4 rfl) ?_
  refine lv_iconst (v := 3) hx hb dX6_pair_139 (by decide) ?_
  refine lv_icmp_ge (tgt := 169) hx hb dX6_pair_140 (by decide) (fun c_13 => ?_) (fun c_13 => absurd c_13 (by decide))
  refine lv_iload hx hb dX6_pair_169 (lv_at hl 0 rfl) ?_
  refine lv_if_eq (tgt := 197) hx hb dX6_pair_171 (by decide) (fun c_14 => absurd c_14 (by decide)) (fun c_14 => ?_)
  refine lv_aload_n hx hb dX6_pair_174 rfl (lv_at hl 3 rfl) ?_
  refine va_get (D := D) (ci := 6) (v := .ref q5) (C := RX6) (T := TX6) (N := 15) hx hb hts (by decide +kernel) hown hK hP 4 rfl rfl 5 (by decide) (hts (.fieldLink RX6 19 "JoinDeskModel" "order" "[I") (by decide +kernel)) (fun _ h9 => h9) rfl dX6_pair_175 ?_
  refine lv_sipush (v := 400) hx hb dX6_pair_178 (by decide) ?_
  refine lv_iload_n hx hb dX6_pair_181 rfl (lv_at hl 1 rfl) ?_
  refine lv_imul hx hb dX6_pair_182 ?_
  refine lv_topi (fun z_15 e_z_15 => ?_)
  obtain rfl : z_15 = 0 := e_z_15.trans (by decide)
  refine lv_aload_n hx hb dX6_pair_183 rfl (lv_at hl 3 rfl) ?_
  refine va_get (D := D) (ci := 6) (v := .ref q11) (C := RX6) (T := TX6) (N := 15) hx hb hts (by decide +kernel) hown hK hP 4 rfl rfl 11 (by decide) (hts (.fieldLink RX6 25 "JoinDeskModel" "at" "[I") (by decide +kernel)) (fun _ h9 => h9) rfl dX6_pair_184 ?_
  refine lv_bipush (v := 6) hx hb dX6_pair_187 (by decide) ?_
  refine lv_iload_n hx hb dX6_pair_189 rfl (lv_at hl 1 rfl) ?_
  refine lv_iadd hx hb dX6_pair_190 ?_
  refine lv_topi (fun z_16 e_z_16 => ?_)
  obtain rfl : z_16 = 6 := e_z_16.trans (by decide)
  refine va_iald hx hb hK hP 3 0 rfl rfl (by unfold vp_in; decide) dX6_pair_191 ?_
  refine W.eq (g2 := F0 m 192 ls [.int (nI r0), .int 0, .ref q5]) rfl ?_
  refine lv_iadd hx hb dX6_pair_192 ?_
  refine lv_topi (fun z_17 e_z_17 => ?_)
  obtain rfl : z_17 = nI (0 + r0) := e_z_17.trans (nI_add 0 r0)
  refine va_iald hx hb hK hP 2 0 rfl rfl (vp_in_nI (show 0 + r0 < 800 by omega) (by omega)) dX6_pair_193 ?_
  refine lv_goto (tgt := 198) hx hb dX6_pair_194 (by decide) ?_
  have hP := hP.sub (ws' := [(mo, .inr (6, [.int 0, .ref q1, .int (nI g), .ref q3, .ref q4, .ref q5, .ref q6, .int 1, .int gr, .int kd, .long w10, .ref q11, .int mk, .long w13, .long w14])), (q3, .inl (cI, 800, .inl m3)), (q4, .inl (cI, 800, .inl m4)), (q5, .inl (cI, 800, .inl m5)), (q11, .inl (cI, 24, .inl (jl [t0, t1, t2, t3, nI d0, nI d1, nI r0, nI r1, 0, 1, t10, t11, t12, t13, t14, t15, t16, t17, t18, t19, t20, t21, t22, t23])))]) [4, 0, 1, 2, 3] rfl
  have hD := hD.sub (ws' := [(mo, .inr (6, [.int 0, .ref q1, .int (nI g), .ref q3, .ref q4, .ref q5, .ref q6, .int 1, .int gr, .int kd, .long w10, .ref q11, .int mk, .long w13, .long w14])), (q3, .inl (cI, 800, .inl m3)), (q4, .inl (cI, 800, .inl m4)), (q5, .inl (cI, 800, .inl m5)), (q11, .inl (cI, 24, .inl (jl [t0, t1, t2, t3, nI d0, nI d1, nI r0, nI r1, 0, 1, t10, t11, t12, t13, t14, t15, t16, t17, t18, t19, t20, t21, t22, t23])))]) [4, 0, 1, 2, 3] (by decide) rfl
  refine W.widen (k := 0) (n := 0) (by omega) (by omega) ?_
  exact W.iret (v := m5 (nI (0 + r0)).toNatClampNeg) hx hb hr (fun t ht hW => ⟨⟨(m5 (nI (0 + r0)).toNatClampNeg), [(mo, .inr (6, [.int 0, .ref q1, .int (nI g), .ref q3, .ref q4, .ref q5, .ref q6, .int 1, .int gr, .int kd, .long w10, .ref q11, .int mk, .long w13, .long w14])), (q3, .inl (cI, 800, .inl m3)), (q4, .inl (cI, 800, .inl m4)), (q5, .inl (cI, 800, .inl m5)), (q11, .inl (cI, 24, .inl (jl [t0, t1, t2, t3, nI d0, nI d1, nI r0, nI r1, 0, 1, t10, t11, t12, t13, t14, t15, t16, t17, t18, t19, t20, t21, t22, t23])))], rfl, (⟨_, rfl, rfl⟩), by rw [ht]; exact hP, hD⟩, hS.F ht⟩) hS.2.2 dX6_pair_198
set_option maxHeartbeats 1000000 in
set_option maxRecDepth 100000 in
theorem gM_pair_13 (l : Launch) (D : va_G) (cI cL cQ : ClassId) (mo : Nat) (g : Nat) (q1 : Nat) (q3 : Nat) (q4 : Nat) (q5 : Nat) (q6 : Nat) (q11 : Nat) (z0 : Int32) (gr : Int32) (kd : Int32) (mk : Int32) (w10 : Int64) (w13 : Int64) (w14 : Int64) (m3 : Nat → Int32) (m4 : Nat → Int32) (m5 : Nat → Int32) (t0 : Int32) (t1 : Int32) (t2 : Int32) (t3 : Int32) (t5 : Int32) (t7 : Int32) (t10 : Int32) (t11 : Int32) (t12 : Int32) (t13 : Int32) (t14 : Int32) (t15 : Int32) (t16 : Int32) (t17 : Int32) (t18 : Int32) (t19 : Int32) (t20 : Int32) (t21 : Int32) (t22 : Int32) (t23 : Int32) (d0 : Nat) (r0 : Nat) (sz : Nat) (h5 : jo5 m5) (hr0 : r0 < d0) (hd0 : d0 ≤ 400) : Met l yX6_pair wsX6_pair ({ frames := 1, cells := 0, slots := 0, locals := 21 }) (jw_P D vwCl (jT cI cL cQ) cL cQ [.ref mo, .int 3] [(mo, .inr (6, [.int z0, .ref q1, .int (nI g), .ref q3, .ref q4, .ref q5, .ref q6, .int 1, .int gr, .int kd, .long w10, .ref q11, .int mk, .long w13, .long w14])), (q3, .inl (cI, 800, .inl m3)), (q4, .inl (cI, 800, .inl m4)), (q5, .inl (cI, 800, .inl m5)), (q11, .inl (cI, 24, .inl (jl [t0, t1, t2, t3, nI d0, t5, nI r0, t7, 1, 1, t10, t11, t12, t13, t14, t15, t16, t17, t18, t19, t20, t21, t22, t23])))] sz) (va_Qi (fun (r : Int32) (u : va_W) => ∃ (z9 : Int32), r = z9 ∧ u = [(mo, .inr (6, [.int 0, .ref q1, .int (nI g), .ref q3, .ref q4, .ref q5, .ref q6, .int 1, .int gr, .int kd, .long w10, .ref q11, .int mk, .long w13, .long w14])), (q3, .inl (cI, 800, .inl m3)), (q4, .inl (cI, 800, .inl m4)), (q5, .inl (cI, 800, .inl m5)), (q11, .inl (cI, 24, .inl (jl [t0, t1, t2, t3, nI d0, t5, nI r0, t7, 1, 1, t10, t11, t12, t13, t14, t15, t16, t17, t18, t19, t20, t21, t22, t23])))]) (jw_B D vwCl (va_A [(mo, .inr (6, [.int z0, .ref q1, .int (nI g), .ref q3, .ref q4, .ref q5, .ref q6, .int 1, .int gr, .int kd, .long w10, .ref q11, .int mk, .long w13, .long w14])), (q3, .inl (cI, 800, .inl m3)), (q4, .inl (cI, 800, .inl m4)), (q5, .inl (cI, 800, .inl m5)), (q11, .inl (cI, 24, .inl (jl [t0, t1, t2, t3, nI d0, t5, nI r0, t7, 1, 1, t10, t11, t12, t13, t14, t15, t16, t17, t18, t19, t20, t21, t22, t23])))] sz) (fun u : va_W => u)) (va_A [(mo, .inr (6, [.int z0, .ref q1, .int (nI g), .ref q3, .ref q4, .ref q5, .ref q6, .int 1, .int gr, .int kd, .long w10, .ref q11, .int mk, .long w13, .long w14])), (q3, .inl (cI, 800, .inl m3)), (q4, .inl (cI, 800, .inl m4)), (q5, .inl (cI, 800, .inl m5)), (q11, .inl (cI, 24, .inl (jl [t0, t1, t2, t3, nI d0, t5, nI r0, t7, 1, 1, t10, t11, t12, t13, t14, t15, t16, t17, t18, t19, t20, t21, t22, t23])))] sz)) 0 0 (va_A [(mo, .inr (6, [.int z0, .ref q1, .int (nI g), .ref q3, .ref q4, .ref q5, .ref q6, .int 1, .int gr, .int kd, .long w10, .ref q11, .int mk, .long w13, .long w14])), (q3, .inl (cI, 800, .inl m3)), (q4, .inl (cI, 800, .inl m4)), (q5, .inl (cI, 800, .inl m5)), (q11, .inl (cI, 24, .inl (jl [t0, t1, t2, t3, nI d0, t5, nI r0, t7, 1, 1, t10, t11, t12, t13, t14, t15, t16, t17, t18, t19, t20, t21, t22, t23])))] sz) := by
  refine Met.ofW (cc := cX6_pair) (maxL := 5) (ret := (some .int)) (by decide) rfl ?_
  intro p e s m args below meth c s₁ B hml hv
  obtain ⟨rfl, hsz, hP, hK, hN, hD0⟩ := hv
  have hx := B.exec
  have hb := B.bytes
  have hr := B.returns
  have hts := atoms_spec (ws := wsX6_pair) B.pre
  have hown : s.vm.findClass RX6 = some m.cls := findClass_of_methodNamed B.named
  have hlocks := B.notSynchronized
  subst hsz
  have hD := hD0.self (sz := s.heap.size)
  generalize hAe : va_A [(mo, .inr (6, [.int z0, .ref q1, .int (nI g), .ref q3, .ref q4, .ref q5, .ref q6, .int 1, .int gr, .int kd, .long w10, .ref q11, .int mk, .long w13, .long w14])), (q3, .inl (cI, 800, .inl m3)), (q4, .inl (cI, 800, .inl m4)), (q5, .inl (cI, 800, .inl m5)), (q11, .inl (cI, 24, .inl (jl [t0, t1, t2, t3, nI d0, t5, nI r0, t7, 1, 1, t10, t11, t12, t13, t14, t15, t16, t17, t18, t19, t20, t21, t22, t23])))] s.heap.size = A at hD ⊢
  have hA : ∀ q : Nat, s.heap.size ≤ q → A q := fun q h => by rw [← hAe]; exact Or.inr h
  have hS : va_S A s.heap s.heap [] := va_S.rf
  have hl := lv_entry ([.ref mo, .int 3]) (n := 5) (Nat.le_of_ble_eq_true rfl)
  rw [lg_entry_eq]
  generalize (lg_sl ([.ref mo, .int 3]) ++ List.replicate (5 - (lg_sl ([.ref mo, .int 3])).length) Slot.unset).toArray = ls at hl ⊢
  have hl : lv_has ls 5 [(0, .ref mo), (1, .int 3)] := hl
  refine lv_aload_n hx hb dX6_pair_0 rfl (lv_at hl 0 rfl) ?_
  refine lv_iload_n hx hb dX6_pair_1 rfl (lv_at hl 1 rfl) ?_
  refine lv_if_lt (tgt := 10) hx hb dX6_pair_2 (by decide) (fun c_1 => absurd c_1 (by decide)) (fun c_1 => ?_)
  refine lv_iload_n hx hb dX6_pair_5 rfl (lv_at hl 1 rfl) ?_
  refine lv_iconst (v := 4) hx hb dX6_pair_6 (by decide) ?_
  refine lv_icmp_le (tgt := 14) hx hb dX6_pair_7 (by decide) (fun c_2 => ?_) (fun c_2 => absurd c_2 (by decide))
  refine lv_iconst (v := 0) hx hb dX6_pair_14 (by decide) ?_
  refine jw_i (wr := [(q3, .inl (cI, 800, .inl m3)), (q4, .inl (cI, 800, .inl m4)), (q5, .inl (cI, 800, .inl m5)), (q11, .inl (cI, 24, .inl (jl [t0, t1, t2, t3, nI d0, t5, nI r0, t7, 1, 1, t10, t11, t12, t13, t14, t15, t16, t17, t18, t19, t20, t21, t22, t23])))]) (va_runV (As := [.int 0]) (rest := []) ⟨hx, hb, hml, hown, hts⟩ (gM_refuses_0 l D cI cL cQ mo g q1 q3 q4 q5 q6 q11 z0 1 gr kd mk w10 w13 w14 _) (cwV 1 hts gX6_pair_X6_refuses rfl rfl rfl (by decide +kernel) ⟨Nat.le_of_ble_eq_true rfl, Nat.le_of_ble_eq_true rfl⟩) (jw_V hK hN hP hD [0] (by decide) rfl 6 0 rfl rfl rfl) rfl rfl hl.1 rfl (lv_room (Nat.le_of_ble_eq_true rfl)) dX6_pair_15 ⟨Nat.le_of_ble_eq_true rfl, Nat.le_of_ble_eq_true rfl⟩) hP hD hS hA [0] [1, 2, 3, 4] rfl rfl (by decide) (by decide) (fun r u H locs f_3 hP hD hS => ?_)
  obtain ⟨rfl, rfl⟩ := f_3
  have hP : va_P D vwCl [(q3, .inl (cI, 800, .inl m3)), (q4, .inl (cI, 800, .inl m4)), (q5, .inl (cI, 800, .inl m5)), (q11, .inl (cI, 24, .inl (jl [t0, t1, t2, t3, nI d0, t5, nI r0, t7, 1, 1, t10, t11, t12, t13, t14, t15, t16, t17, t18, t19, t20, t21, t22, t23]))), (mo, .inr (6, [.int 0, .ref q1, .int (nI g), .ref q3, .ref q4, .ref q5, .ref q6, .int 1, .int gr, .int kd, .long w10, .ref q11, .int mk, .long w13, .long w14]))] H := hP
  have hD : va_D A [(q3, .inl (cI, 800, .inl m3)), (q4, .inl (cI, 800, .inl m4)), (q5, .inl (cI, 800, .inl m5)), (q11, .inl (cI, 24, .inl (jl [t0, t1, t2, t3, nI d0, t5, nI r0, t7, 1, 1, t10, t11, t12, t13, t14, t15, t16, t17, t18, t19, t20, t21, t22, t23]))), (mo, .inr (6, [.int 0, .ref q1, .int (nI g), .ref q3, .ref q4, .ref q5, .ref q6, .int 1, .int gr, .int kd, .long w10, .ref q11, .int mk, .long w13, .long w14]))] := hD
  refine lv_if_eq (tgt := 23) hx hb dX6_pair_18 (by decide) (fun c_4 => ?_) (fun c_4 => absurd c_4 (by decide))
  refine lv_aload_n hx hb dX6_pair_23 rfl (lv_at hl 0 rfl) ?_
  refine va_get (D := D) (ci := 6) (v := .int 1) (C := RX6) (T := TX6) (N := 15) hx hb hts (by decide +kernel) hown hK hP 4 rfl rfl 7 (by decide) (hts (.fieldLink RX6 43 "JoinDeskModel" "prepared" "Z") (by decide +kernel)) (fun _ h9 => h9) rfl dX6_pair_24 ?_
  refine lv_if_eq (tgt := 45) hx hb dX6_pair_27 (by decide) (fun c_5 => absurd c_5 (by decide)) (fun c_5 => ?_)
  refine lv_aload_n hx hb dX6_pair_30 rfl (lv_at hl 0 rfl) ?_
  refine va_get (D := D) (ci := 6) (v := .ref q11) (C := RX6) (T := TX6) (N := 15) hx hb hts (by decide +kernel) hown hK hP 4 rfl rfl 11 (by decide) (hts (.fieldLink RX6 25 "JoinDeskModel" "at" "[I") (by decide +kernel)) (fun _ h9 => h9) rfl dX6_pair_31 ?_
  refine lv_bipush (v := 9) hx hb dX6_pair_34 (by decide) ?_
  refine va_iald hx hb hK hP 3 0 rfl rfl (by unfold vp_in; decide) dX6_pair_36 ?_
  refine W.eq (g2 := F0 m 37 ls [.int 1]) rfl ?_
  refine lv_iconst (v := 1) hx hb dX6_pair_37 (by decide) ?_
  refine lv_icmp_ne (tgt := 45) hx hb dX6_pair_38 (by decide) (fun c_6 => absurd c_6 (by decide)) (fun c_6 => ?_)
  refine lv_iconst (v := 1) hx hb dX6_pair_41 (by decide) ?_
  refine lv_goto (tgt := 46) hx hb dX6_pair_42 (by decide) ?_
  refine lv_istore_n (lv' := [(2, .int 1), (0, .ref mo), (1, .int 3)]) hx hb dX6_pair_46 rfl hl (by decide) rfl (fun ls hl => ?_)
  refine lv_iload_n hx hb dX6_pair_47 rfl (lv_at hl 2 rfl) ?_
  refine lv_iconst (v := 1) hx hb dX6_pair_48 (by decide) ?_
  refine lv_icmp_eq (tgt := 57) hx hb dX6_pair_49 (by decide) (fun c_7 => absurd c_7 (by decide)) (fun c_7 => ?_)
  refine lv_iload_n hx hb dX6_pair_52 rfl (lv_at hl 2 rfl) ?_
  refine lv_iconst (v := 3) hx hb dX6_pair_53 (by decide) ?_
  refine lv_icmp_ne (tgt := 61) hx hb dX6_pair_54 (by decide) (fun c_8 => absurd c_8 (by decide)) (fun c_8 => ?_)
  refine lv_iconst (v := 0) hx hb dX6_pair_57 (by decide) ?_
  refine lv_goto (tgt := 62) hx hb dX6_pair_58 (by decide) ?_
  refine lv_istore_n (lv' := [(3, .int 0), (2, .int 1), (0, .ref mo), (1, .int 3)]) hx hb dX6_pair_62 rfl hl (by decide) rfl (fun ls hl => ?_)
  refine lv_iload_n hx hb dX6_pair_63 rfl (lv_at hl 3 rfl) ?_
  refine lv_if_ne (tgt := 114) hx hb dX6_pair_64 (by decide) (fun c_9 => ?_) (fun c_9 => absurd c_9 (by decide))
  refine lv_iload_n hx hb dX6_pair_114 rfl (lv_at hl 1 rfl) ?_
  refine lv_if_eq (tgt := 135) hx hb dX6_pair_115 (by decide) (fun c_10 => absurd c_10 (by decide)) (fun c_10 => ?_)
  refine lv_aload_n hx hb dX6_pair_118 rfl (lv_at hl 2 rfl) ?_
  refine va_get (D := D) (ci := 6) (v := .ref q11) (C := RX6) (T := TX6) (N := 15) hx hb hts (by decide +kernel) hown hK hP 4 rfl rfl 11 (by decide) (hts (.fieldLink RX6 25 "JoinDeskModel" "at" "[I") (by decide +kernel)) (fun _ h9 => h9) rfl dX6_pair_119 ?_
  refine lv_bipush (v := 8) hx hb dX6_pair_122 (by decide) ?_
  refine va_iald hx hb hK hP 3 0 rfl rfl (by unfold vp_in; decide) dX6_pair_124 ?_
  refine W.eq (g2 := F0 m 125 ls [.int 1]) rfl ?_
  refine lv_iconst (v := 2) hx hb dX6_pair_125 (by decide) ?_
  refine lv_iload_n hx hb dX6_pair_126 rfl (lv_at hl 0 rfl) ?_
  refine lv_isub hx hb dX6_pair_127 ?_
  refine lv_topi (fun z_11 e_z_11 => ?_)
  obtain rfl : z_11 = 2 := e_z_11.trans (by decide)
  refine lv_icmp_eq (tgt := 135) hx hb dX6_pair_128 (by decide) (fun c_12 => absurd c_12 (by decide)) (fun c_12 => ?_)
  refine lv_iconst (v := 1) hx hb dX6_pair_131 (by decide) ?_
  refine lv_goto (tgt := 136) hx hb dX6_pair_132 (by decide) ?_
  refine lv_istore (lv' := [(4, .int 1), (3, .int 0), (2, .int 1), (0, .ref mo), (1, .int 3)]) hx hb dX6_pair_136 hl (by decide) rfl (fun ls hl => ?_)
  refine lv_iload_n hx hb dX6_pair_138 rfl (lv_at hl 4 rfl) ?_
  refine lv_iconst (v := 3) hx hb dX6_pair_139 (by decide) ?_
  refine lv_icmp_ge (tgt := 169) hx hb dX6_pair_140 (by decide) (fun c_13 => ?_) (fun c_13 => absurd c_13 (by decide))
  refine lv_iload hx hb dX6_pair_169 (lv_at hl 0 rfl) ?_
  refine lv_if_eq (tgt := 197) hx hb dX6_pair_171 (by decide) (fun c_14 => absurd c_14 (by decide)) (fun c_14 => ?_)
  refine lv_aload_n hx hb dX6_pair_174 rfl (lv_at hl 3 rfl) ?_
  refine va_get (D := D) (ci := 6) (v := .ref q5) (C := RX6) (T := TX6) (N := 15) hx hb hts (by decide +kernel) hown hK hP 4 rfl rfl 5 (by decide) (hts (.fieldLink RX6 19 "JoinDeskModel" "order" "[I") (by decide +kernel)) (fun _ h9 => h9) rfl dX6_pair_175 ?_
  refine lv_sipush (v := 400) hx hb dX6_pair_178 (by decide) ?_
  refine lv_iload_n hx hb dX6_pair_181 rfl (lv_at hl 1 rfl) ?_
  refine lv_imul hx hb dX6_pair_182 ?_
  refine lv_topi (fun z_15 e_z_15 => ?_)
  obtain rfl : z_15 = 0 := e_z_15.trans (by decide)
  refine lv_aload_n hx hb dX6_pair_183 rfl (lv_at hl 3 rfl) ?_
  refine va_get (D := D) (ci := 6) (v := .ref q11) (C := RX6) (T := TX6) (N := 15) hx hb hts (by decide +kernel) hown hK hP 4 rfl rfl 11 (by decide) (hts (.fieldLink RX6 25 "JoinDeskModel" "at" "[I") (by decide +kernel)) (fun _ h9 => h9) rfl dX6_pair_184 ?_
  refine lv_bipush (v := 6) hx hb dX6_pair_187 (by decide) ?_
  refine lv_iload_n hx hb dX6_pair_189 rfl (lv_at hl 1 rfl) ?_
  refine lv_iadd hx hb dX6_pair_190 ?_
  refine lv_topi (fun z_16 e_z_16 => ?_)
  obtain rfl : z_16 = 6 := e_z_16.trans (by decide)
  refine va_iald hx hb hK hP 3 0 rfl rfl (by unfold vp_in; decide) dX6_pair_191 ?_
  refine W.eq (g2 := F0 m 192 ls [.int (nI r0), .int 0, .ref q5]) rfl ?_
  refine lv_iadd hx hb dX6_pair_192 ?_
  refine lv_topi (fun z_17 e_z_17 => ?_)
  obtain rfl : z_17 = nI (0 + r0) := e_z_17.trans (nI_add 0 r0)
  refine va_iald hx hb hK hP 2 0 rfl rfl (vp_in_nI (show 0 + r0 < 800 by omega) (by omega)) dX6_pair_193 ?_
  refine lv_goto (tgt := 198) hx hb dX6_pair_194 (by decide) ?_
  have hP := hP.sub (ws' := [(mo, .inr (6, [.int 0, .ref q1, .int (nI g), .ref q3, .ref q4, .ref q5, .ref q6, .int 1, .int gr, .int kd, .long w10, .ref q11, .int mk, .long w13, .long w14])), (q3, .inl (cI, 800, .inl m3)), (q4, .inl (cI, 800, .inl m4)), (q5, .inl (cI, 800, .inl m5)), (q11, .inl (cI, 24, .inl (jl [t0, t1, t2, t3, nI d0, t5, nI r0, t7, 1, 1, t10, t11, t12, t13, t14, t15, t16, t17, t18, t19, t20, t21, t22, t23])))]) [4, 0, 1, 2, 3] rfl
  have hD := hD.sub (ws' := [(mo, .inr (6, [.int 0, .ref q1, .int (nI g), .ref q3, .ref q4, .ref q5, .ref q6, .int 1, .int gr, .int kd, .long w10, .ref q11, .int mk, .long w13, .long w14])), (q3, .inl (cI, 800, .inl m3)), (q4, .inl (cI, 800, .inl m4)), (q5, .inl (cI, 800, .inl m5)), (q11, .inl (cI, 24, .inl (jl [t0, t1, t2, t3, nI d0, t5, nI r0, t7, 1, 1, t10, t11, t12, t13, t14, t15, t16, t17, t18, t19, t20, t21, t22, t23])))]) [4, 0, 1, 2, 3] (by decide) rfl
  refine W.widen (k := 0) (n := 0) (by omega) (by omega) ?_
  exact W.iret (v := m5 (nI (0 + r0)).toNatClampNeg) hx hb hr (fun t ht hW => ⟨⟨(m5 (nI (0 + r0)).toNatClampNeg), [(mo, .inr (6, [.int 0, .ref q1, .int (nI g), .ref q3, .ref q4, .ref q5, .ref q6, .int 1, .int gr, .int kd, .long w10, .ref q11, .int mk, .long w13, .long w14])), (q3, .inl (cI, 800, .inl m3)), (q4, .inl (cI, 800, .inl m4)), (q5, .inl (cI, 800, .inl m5)), (q11, .inl (cI, 24, .inl (jl [t0, t1, t2, t3, nI d0, t5, nI r0, t7, 1, 1, t10, t11, t12, t13, t14, t15, t16, t17, t18, t19, t20, t21, t22, t23])))], rfl, (⟨_, rfl, rfl⟩), by rw [ht]; exact hP, hD⟩, hS.F ht⟩) hS.2.2 dX6_pair_198
set_option maxHeartbeats 1000000 in
set_option maxRecDepth 100000 in
theorem gM_pair_23 (l : Launch) (D : va_G) (cI cL cQ : ClassId) (mo : Nat) (g : Nat) (q1 : Nat) (q3 : Nat) (q4 : Nat) (q5 : Nat) (q6 : Nat) (q11 : Nat) (z0 : Int32) (gr : Int32) (kd : Int32) (mk : Int32) (w10 : Int64) (w13 : Int64) (w14 : Int64) (m3 : Nat → Int32) (m4 : Nat → Int32) (m5 : Nat → Int32) (t0 : Int32) (t1 : Int32) (t2 : Int32) (t3 : Int32) (t4 : Int32) (t6 : Int32) (t10 : Int32) (t11 : Int32) (t12 : Int32) (t13 : Int32) (t14 : Int32) (t15 : Int32) (t16 : Int32) (t17 : Int32) (t18 : Int32) (t19 : Int32) (t20 : Int32) (t21 : Int32) (t22 : Int32) (t23 : Int32) (d1 : Nat) (r1 : Nat) (sz : Nat) (h5 : jo5 m5) (hr1 : r1 < d1) (hd1 : d1 ≤ 400) : Met l yX6_pair wsX6_pair ({ frames := 1, cells := 0, slots := 0, locals := 21 }) (jw_P D vwCl (jT cI cL cQ) cL cQ [.ref mo, .int 3] [(mo, .inr (6, [.int z0, .ref q1, .int (nI g), .ref q3, .ref q4, .ref q5, .ref q6, .int 1, .int gr, .int kd, .long w10, .ref q11, .int mk, .long w13, .long w14])), (q3, .inl (cI, 800, .inl m3)), (q4, .inl (cI, 800, .inl m4)), (q5, .inl (cI, 800, .inl m5)), (q11, .inl (cI, 24, .inl (jl [t0, t1, t2, t3, t4, nI d1, t6, nI r1, 2, 1, t10, t11, t12, t13, t14, t15, t16, t17, t18, t19, t20, t21, t22, t23])))] sz) (va_Qi (fun (r : Int32) (u : va_W) => ∃ (z9 : Int32), r = z9 ∧ u = [(mo, .inr (6, [.int 0, .ref q1, .int (nI g), .ref q3, .ref q4, .ref q5, .ref q6, .int 1, .int gr, .int kd, .long w10, .ref q11, .int mk, .long w13, .long w14])), (q3, .inl (cI, 800, .inl m3)), (q4, .inl (cI, 800, .inl m4)), (q5, .inl (cI, 800, .inl m5)), (q11, .inl (cI, 24, .inl (jl [t0, t1, t2, t3, t4, nI d1, t6, nI r1, 2, 1, t10, t11, t12, t13, t14, t15, t16, t17, t18, t19, t20, t21, t22, t23])))]) (jw_B D vwCl (va_A [(mo, .inr (6, [.int z0, .ref q1, .int (nI g), .ref q3, .ref q4, .ref q5, .ref q6, .int 1, .int gr, .int kd, .long w10, .ref q11, .int mk, .long w13, .long w14])), (q3, .inl (cI, 800, .inl m3)), (q4, .inl (cI, 800, .inl m4)), (q5, .inl (cI, 800, .inl m5)), (q11, .inl (cI, 24, .inl (jl [t0, t1, t2, t3, t4, nI d1, t6, nI r1, 2, 1, t10, t11, t12, t13, t14, t15, t16, t17, t18, t19, t20, t21, t22, t23])))] sz) (fun u : va_W => u)) (va_A [(mo, .inr (6, [.int z0, .ref q1, .int (nI g), .ref q3, .ref q4, .ref q5, .ref q6, .int 1, .int gr, .int kd, .long w10, .ref q11, .int mk, .long w13, .long w14])), (q3, .inl (cI, 800, .inl m3)), (q4, .inl (cI, 800, .inl m4)), (q5, .inl (cI, 800, .inl m5)), (q11, .inl (cI, 24, .inl (jl [t0, t1, t2, t3, t4, nI d1, t6, nI r1, 2, 1, t10, t11, t12, t13, t14, t15, t16, t17, t18, t19, t20, t21, t22, t23])))] sz)) 0 0 (va_A [(mo, .inr (6, [.int z0, .ref q1, .int (nI g), .ref q3, .ref q4, .ref q5, .ref q6, .int 1, .int gr, .int kd, .long w10, .ref q11, .int mk, .long w13, .long w14])), (q3, .inl (cI, 800, .inl m3)), (q4, .inl (cI, 800, .inl m4)), (q5, .inl (cI, 800, .inl m5)), (q11, .inl (cI, 24, .inl (jl [t0, t1, t2, t3, t4, nI d1, t6, nI r1, 2, 1, t10, t11, t12, t13, t14, t15, t16, t17, t18, t19, t20, t21, t22, t23])))] sz) := by
  refine Met.ofW (cc := cX6_pair) (maxL := 5) (ret := (some .int)) (by decide) rfl ?_
  intro p e s m args below meth c s₁ B hml hv
  obtain ⟨rfl, hsz, hP, hK, hN, hD0⟩ := hv
  have hx := B.exec
  have hb := B.bytes
  have hr := B.returns
  have hts := atoms_spec (ws := wsX6_pair) B.pre
  have hown : s.vm.findClass RX6 = some m.cls := findClass_of_methodNamed B.named
  have hlocks := B.notSynchronized
  subst hsz
  have hD := hD0.self (sz := s.heap.size)
  generalize hAe : va_A [(mo, .inr (6, [.int z0, .ref q1, .int (nI g), .ref q3, .ref q4, .ref q5, .ref q6, .int 1, .int gr, .int kd, .long w10, .ref q11, .int mk, .long w13, .long w14])), (q3, .inl (cI, 800, .inl m3)), (q4, .inl (cI, 800, .inl m4)), (q5, .inl (cI, 800, .inl m5)), (q11, .inl (cI, 24, .inl (jl [t0, t1, t2, t3, t4, nI d1, t6, nI r1, 2, 1, t10, t11, t12, t13, t14, t15, t16, t17, t18, t19, t20, t21, t22, t23])))] s.heap.size = A at hD ⊢
  have hA : ∀ q : Nat, s.heap.size ≤ q → A q := fun q h => by rw [← hAe]; exact Or.inr h
  have hS : va_S A s.heap s.heap [] := va_S.rf
  have hl := lv_entry ([.ref mo, .int 3]) (n := 5) (Nat.le_of_ble_eq_true rfl)
  rw [lg_entry_eq]
  generalize (lg_sl ([.ref mo, .int 3]) ++ List.replicate (5 - (lg_sl ([.ref mo, .int 3])).length) Slot.unset).toArray = ls at hl ⊢
  have hl : lv_has ls 5 [(0, .ref mo), (1, .int 3)] := hl
  refine lv_aload_n hx hb dX6_pair_0 rfl (lv_at hl 0 rfl) ?_
  refine lv_iload_n hx hb dX6_pair_1 rfl (lv_at hl 1 rfl) ?_
  refine lv_if_lt (tgt := 10) hx hb dX6_pair_2 (by decide) (fun c_1 => absurd c_1 (by decide)) (fun c_1 => ?_)
  refine lv_iload_n hx hb dX6_pair_5 rfl (lv_at hl 1 rfl) ?_
  refine lv_iconst (v := 4) hx hb dX6_pair_6 (by decide) ?_
  refine lv_icmp_le (tgt := 14) hx hb dX6_pair_7 (by decide) (fun c_2 => ?_) (fun c_2 => absurd c_2 (by decide))
  refine lv_iconst (v := 0) hx hb dX6_pair_14 (by decide) ?_
  refine jw_i (wr := [(q3, .inl (cI, 800, .inl m3)), (q4, .inl (cI, 800, .inl m4)), (q5, .inl (cI, 800, .inl m5)), (q11, .inl (cI, 24, .inl (jl [t0, t1, t2, t3, t4, nI d1, t6, nI r1, 2, 1, t10, t11, t12, t13, t14, t15, t16, t17, t18, t19, t20, t21, t22, t23])))]) (va_runV (As := [.int 0]) (rest := []) ⟨hx, hb, hml, hown, hts⟩ (gM_refuses_0 l D cI cL cQ mo g q1 q3 q4 q5 q6 q11 z0 1 gr kd mk w10 w13 w14 _) (cwV 1 hts gX6_pair_X6_refuses rfl rfl rfl (by decide +kernel) ⟨Nat.le_of_ble_eq_true rfl, Nat.le_of_ble_eq_true rfl⟩) (jw_V hK hN hP hD [0] (by decide) rfl 6 0 rfl rfl rfl) rfl rfl hl.1 rfl (lv_room (Nat.le_of_ble_eq_true rfl)) dX6_pair_15 ⟨Nat.le_of_ble_eq_true rfl, Nat.le_of_ble_eq_true rfl⟩) hP hD hS hA [0] [1, 2, 3, 4] rfl rfl (by decide) (by decide) (fun r u H locs f_3 hP hD hS => ?_)
  obtain ⟨rfl, rfl⟩ := f_3
  have hP : va_P D vwCl [(q3, .inl (cI, 800, .inl m3)), (q4, .inl (cI, 800, .inl m4)), (q5, .inl (cI, 800, .inl m5)), (q11, .inl (cI, 24, .inl (jl [t0, t1, t2, t3, t4, nI d1, t6, nI r1, 2, 1, t10, t11, t12, t13, t14, t15, t16, t17, t18, t19, t20, t21, t22, t23]))), (mo, .inr (6, [.int 0, .ref q1, .int (nI g), .ref q3, .ref q4, .ref q5, .ref q6, .int 1, .int gr, .int kd, .long w10, .ref q11, .int mk, .long w13, .long w14]))] H := hP
  have hD : va_D A [(q3, .inl (cI, 800, .inl m3)), (q4, .inl (cI, 800, .inl m4)), (q5, .inl (cI, 800, .inl m5)), (q11, .inl (cI, 24, .inl (jl [t0, t1, t2, t3, t4, nI d1, t6, nI r1, 2, 1, t10, t11, t12, t13, t14, t15, t16, t17, t18, t19, t20, t21, t22, t23]))), (mo, .inr (6, [.int 0, .ref q1, .int (nI g), .ref q3, .ref q4, .ref q5, .ref q6, .int 1, .int gr, .int kd, .long w10, .ref q11, .int mk, .long w13, .long w14]))] := hD
  refine lv_if_eq (tgt := 23) hx hb dX6_pair_18 (by decide) (fun c_4 => ?_) (fun c_4 => absurd c_4 (by decide))
  refine lv_aload_n hx hb dX6_pair_23 rfl (lv_at hl 0 rfl) ?_
  refine va_get (D := D) (ci := 6) (v := .int 1) (C := RX6) (T := TX6) (N := 15) hx hb hts (by decide +kernel) hown hK hP 4 rfl rfl 7 (by decide) (hts (.fieldLink RX6 43 "JoinDeskModel" "prepared" "Z") (by decide +kernel)) (fun _ h9 => h9) rfl dX6_pair_24 ?_
  refine lv_if_eq (tgt := 45) hx hb dX6_pair_27 (by decide) (fun c_5 => absurd c_5 (by decide)) (fun c_5 => ?_)
  refine lv_aload_n hx hb dX6_pair_30 rfl (lv_at hl 0 rfl) ?_
  refine va_get (D := D) (ci := 6) (v := .ref q11) (C := RX6) (T := TX6) (N := 15) hx hb hts (by decide +kernel) hown hK hP 4 rfl rfl 11 (by decide) (hts (.fieldLink RX6 25 "JoinDeskModel" "at" "[I") (by decide +kernel)) (fun _ h9 => h9) rfl dX6_pair_31 ?_
  refine lv_bipush (v := 9) hx hb dX6_pair_34 (by decide) ?_
  refine va_iald hx hb hK hP 3 0 rfl rfl (by unfold vp_in; decide) dX6_pair_36 ?_
  refine W.eq (g2 := F0 m 37 ls [.int 1]) rfl ?_
  refine lv_iconst (v := 1) hx hb dX6_pair_37 (by decide) ?_
  refine lv_icmp_ne (tgt := 45) hx hb dX6_pair_38 (by decide) (fun c_6 => absurd c_6 (by decide)) (fun c_6 => ?_)
  refine lv_iconst (v := 1) hx hb dX6_pair_41 (by decide) ?_
  refine lv_goto (tgt := 46) hx hb dX6_pair_42 (by decide) ?_
  refine lv_istore_n (lv' := [(2, .int 1), (0, .ref mo), (1, .int 3)]) hx hb dX6_pair_46 rfl hl (by decide) rfl (fun ls hl => ?_)
  refine lv_iload_n hx hb dX6_pair_47 rfl (lv_at hl 2 rfl) ?_
  refine lv_iconst (v := 1) hx hb dX6_pair_48 (by decide) ?_
  refine lv_icmp_eq (tgt := 57) hx hb dX6_pair_49 (by decide) (fun c_7 => absurd c_7 (by decide)) (fun c_7 => ?_)
  refine lv_iload_n hx hb dX6_pair_52 rfl (lv_at hl 2 rfl) ?_
  refine lv_iconst (v := 3) hx hb dX6_pair_53 (by decide) ?_
  refine lv_icmp_ne (tgt := 61) hx hb dX6_pair_54 (by decide) (fun c_8 => absurd c_8 (by decide)) (fun c_8 => ?_)
  refine lv_iconst (v := 0) hx hb dX6_pair_57 (by decide) ?_
  refine lv_goto (tgt := 62) hx hb dX6_pair_58 (by decide) ?_
  refine lv_istore_n (lv' := [(3, .int 0), (2, .int 1), (0, .ref mo), (1, .int 3)]) hx hb dX6_pair_62 rfl hl (by decide) rfl (fun ls hl => ?_)
  refine lv_iload_n hx hb dX6_pair_63 rfl (lv_at hl 3 rfl) ?_
  refine lv_if_ne (tgt := 114) hx hb dX6_pair_64 (by decide) (fun c_9 => ?_) (fun c_9 => absurd c_9 (by decide))
  refine lv_iload_n hx hb dX6_pair_114 rfl (lv_at hl 1 rfl) ?_
  refine lv_if_eq (tgt := 135) hx hb dX6_pair_115 (by decide) (fun c_10 => absurd c_10 (by decide)) (fun c_10 => ?_)
  refine lv_aload_n hx hb dX6_pair_118 rfl (lv_at hl 2 rfl) ?_
  refine va_get (D := D) (ci := 6) (v := .ref q11) (C := RX6) (T := TX6) (N := 15) hx hb hts (by decide +kernel) hown hK hP 4 rfl rfl 11 (by decide) (hts (.fieldLink RX6 25 "JoinDeskModel" "at" "[I") (by decide +kernel)) (fun _ h9 => h9) rfl dX6_pair_119 ?_
  refine lv_bipush (v := 8) hx hb dX6_pair_122 (by decide) ?_
  refine va_iald hx hb hK hP 3 0 rfl rfl (by unfold vp_in; decide) dX6_pair_124 ?_
  refine W.eq (g2 := F0 m 125 ls [.int 2]) rfl ?_
  refine lv_iconst (v := 2) hx hb dX6_pair_125 (by decide) ?_
  refine lv_iload_n hx hb dX6_pair_126 rfl (lv_at hl 0 rfl) ?_
  refine lv_isub hx hb dX6_pair_127 ?_
  refine lv_topi (fun z_11 e_z_11 => ?_)
  obtain rfl : z_11 = 2 := e_z_11.trans (by decide)
  refine lv_icmp_eq (tgt := 135) hx hb dX6_pair_128 (by decide) (fun c_12 => ?_) (fun c_12 => absurd c_12 (by decide))
  refine lv_iconst (v := 0) hx hb dX6_pair_135 (by decide) ?_
  refine lv_istore (lv' := [(4, .int 0), (3, .int 0), (2, .int 1), (0, .ref mo), (1, .int 3)]) hx hb dX6_pair_136 hl (by decide) rfl (fun ls hl => ?_)
  refine lv_iload_n hx hb dX6_pair_138 rfl (lv_at hl 4 rfl) ?_
  refine lv_iconst (v := 3) hx hb dX6_pair_139 (by decide) ?_
  refine lv_icmp_ge (tgt := 169) hx hb dX6_pair_140 (by decide) (fun c_13 => ?_) (fun c_13 => absurd c_13 (by decide))
  refine lv_iload hx hb dX6_pair_169 (lv_at hl 0 rfl) ?_
  refine lv_if_eq (tgt := 197) hx hb dX6_pair_171 (by decide) (fun c_14 => ?_) (fun c_14 => absurd c_14 (by decide))
  refine lv_iconst (v := (-1)) hx hb dX6_pair_197 (by decide) ?_
  have hP := hP.sub (ws' := [(mo, .inr (6, [.int 0, .ref q1, .int (nI g), .ref q3, .ref q4, .ref q5, .ref q6, .int 1, .int gr, .int kd, .long w10, .ref q11, .int mk, .long w13, .long w14])), (q3, .inl (cI, 800, .inl m3)), (q4, .inl (cI, 800, .inl m4)), (q5, .inl (cI, 800, .inl m5)), (q11, .inl (cI, 24, .inl (jl [t0, t1, t2, t3, t4, nI d1, t6, nI r1, 2, 1, t10, t11, t12, t13, t14, t15, t16, t17, t18, t19, t20, t21, t22, t23])))]) [4, 0, 1, 2, 3] rfl
  have hD := hD.sub (ws' := [(mo, .inr (6, [.int 0, .ref q1, .int (nI g), .ref q3, .ref q4, .ref q5, .ref q6, .int 1, .int gr, .int kd, .long w10, .ref q11, .int mk, .long w13, .long w14])), (q3, .inl (cI, 800, .inl m3)), (q4, .inl (cI, 800, .inl m4)), (q5, .inl (cI, 800, .inl m5)), (q11, .inl (cI, 24, .inl (jl [t0, t1, t2, t3, t4, nI d1, t6, nI r1, 2, 1, t10, t11, t12, t13, t14, t15, t16, t17, t18, t19, t20, t21, t22, t23])))]) [4, 0, 1, 2, 3] (by decide) rfl
  refine W.widen (k := 0) (n := 0) (by omega) (by omega) ?_
  exact W.iret (v := (-1)) hx hb hr (fun t ht hW => ⟨⟨(-1), [(mo, .inr (6, [.int 0, .ref q1, .int (nI g), .ref q3, .ref q4, .ref q5, .ref q6, .int 1, .int gr, .int kd, .long w10, .ref q11, .int mk, .long w13, .long w14])), (q3, .inl (cI, 800, .inl m3)), (q4, .inl (cI, 800, .inl m4)), (q5, .inl (cI, 800, .inl m5)), (q11, .inl (cI, 24, .inl (jl [t0, t1, t2, t3, t4, nI d1, t6, nI r1, 2, 1, t10, t11, t12, t13, t14, t15, t16, t17, t18, t19, t20, t21, t22, t23])))], rfl, (⟨_, rfl, rfl⟩), by rw [ht]; exact hP, hD⟩, hS.F ht⟩) hS.2.2 dX6_pair_198
set_option maxHeartbeats 1000000 in
set_option maxRecDepth 100000 in
theorem gM_pair_p4 (l : Launch) (D : va_G) (cI cL cQ : ClassId) (mo : Nat) (g : Nat) (q1 : Nat) (q3 : Nat) (q4 : Nat) (q5 : Nat) (q6 : Nat) (q11 : Nat) (z0 : Int32) (gr : Int32) (kd : Int32) (mk : Int32) (w10 : Int64) (w13 : Int64) (w14 : Int64) (sz : Nat) : Met l yX6_pair wsX6_pair ({ frames := 1, cells := 0, slots := 0, locals := 21 }) (jw_P D vwCl (jT cI cL cQ) cL cQ [.ref mo, .int 4] [(mo, .inr (6, [.int z0, .ref q1, .int (nI g), .ref q3, .ref q4, .ref q5, .ref q6, .int 0, .int gr, .int kd, .long w10, .ref q11, .int mk, .long w13, .long w14]))] sz) (va_Qi (fun (r : Int32) (u : va_W) => r = (-1) ∧ u = [(mo, .inr (6, [.int 0, .ref q1, .int (nI g), .ref q3, .ref q4, .ref q5, .ref q6, .int 0, .int gr, .int kd, .long w10, .ref q11, .int mk, .long w13, .long w14]))]) (jw_B D vwCl (va_A [(mo, .inr (6, [.int z0, .ref q1, .int (nI g), .ref q3, .ref q4, .ref q5, .ref q6, .int 0, .int gr, .int kd, .long w10, .ref q11, .int mk, .long w13, .long w14]))] sz) (fun u : va_W => u)) (va_A [(mo, .inr (6, [.int z0, .ref q1, .int (nI g), .ref q3, .ref q4, .ref q5, .ref q6, .int 0, .int gr, .int kd, .long w10, .ref q11, .int mk, .long w13, .long w14]))] sz)) 0 0 (va_A [(mo, .inr (6, [.int z0, .ref q1, .int (nI g), .ref q3, .ref q4, .ref q5, .ref q6, .int 0, .int gr, .int kd, .long w10, .ref q11, .int mk, .long w13, .long w14]))] sz) := by
  refine Met.ofW (cc := cX6_pair) (maxL := 5) (ret := (some .int)) (by decide) rfl ?_
  intro p e s m args below meth c s₁ B hml hv
  obtain ⟨rfl, hsz, hP, hK, hN, hD0⟩ := hv
  have hx := B.exec
  have hb := B.bytes
  have hr := B.returns
  have hts := atoms_spec (ws := wsX6_pair) B.pre
  have hown : s.vm.findClass RX6 = some m.cls := findClass_of_methodNamed B.named
  have hlocks := B.notSynchronized
  subst hsz
  have hD := hD0.self (sz := s.heap.size)
  generalize hAe : va_A [(mo, .inr (6, [.int z0, .ref q1, .int (nI g), .ref q3, .ref q4, .ref q5, .ref q6, .int 0, .int gr, .int kd, .long w10, .ref q11, .int mk, .long w13, .long w14]))] s.heap.size = A at hD ⊢
  have hA : ∀ q : Nat, s.heap.size ≤ q → A q := fun q h => by rw [← hAe]; exact Or.inr h
  have hS : va_S A s.heap s.heap [] := va_S.rf
  have hl := lv_entry ([.ref mo, .int 4]) (n := 5) (Nat.le_of_ble_eq_true rfl)
  rw [lg_entry_eq]
  generalize (lg_sl ([.ref mo, .int 4]) ++ List.replicate (5 - (lg_sl ([.ref mo, .int 4])).length) Slot.unset).toArray = ls at hl ⊢
  have hl : lv_has ls 5 [(0, .ref mo), (1, .int 4)] := hl
  refine lv_aload_n hx hb dX6_pair_0 rfl (lv_at hl 0 rfl) ?_
  refine lv_iload_n hx hb dX6_pair_1 rfl (lv_at hl 1 rfl) ?_
  refine lv_if_lt (tgt := 10) hx hb dX6_pair_2 (by decide) (fun c_1 => absurd c_1 (by decide)) (fun c_1 => ?_)
  refine lv_iload_n hx hb dX6_pair_5 rfl (lv_at hl 1 rfl) ?_
  refine lv_iconst (v := 4) hx hb dX6_pair_6 (by decide) ?_
  refine lv_icmp_le (tgt := 14) hx hb dX6_pair_7 (by decide) (fun c_2 => ?_) (fun c_2 => absurd c_2 (by decide))
  refine lv_iconst (v := 0) hx hb dX6_pair_14 (by decide) ?_
  refine jw_i (wr := []) (va_runV (As := [.int 0]) (rest := []) ⟨hx, hb, hml, hown, hts⟩ (gM_refuses_0 l D cI cL cQ mo g q1 q3 q4 q5 q6 q11 z0 0 gr kd mk w10 w13 w14 _) (cwV 1 hts gX6_pair_X6_refuses rfl rfl rfl (by decide +kernel) ⟨Nat.le_of_ble_eq_true rfl, Nat.le_of_ble_eq_true rfl⟩) (jw_V hK hN hP hD [0] (by decide) rfl 6 0 rfl rfl rfl) rfl rfl hl.1 rfl (lv_room (Nat.le_of_ble_eq_true rfl)) dX6_pair_15 ⟨Nat.le_of_ble_eq_true rfl, Nat.le_of_ble_eq_true rfl⟩) hP hD hS hA [0] [] rfl rfl (by decide) (by decide) (fun r u H locs f_3 hP hD hS => ?_)
  obtain ⟨rfl, rfl⟩ := f_3
  have hP : va_P D vwCl [(mo, .inr (6, [.int 0, .ref q1, .int (nI g), .ref q3, .ref q4, .ref q5, .ref q6, .int 0, .int gr, .int kd, .long w10, .ref q11, .int mk, .long w13, .long w14]))] H := hP
  have hD : va_D A [(mo, .inr (6, [.int 0, .ref q1, .int (nI g), .ref q3, .ref q4, .ref q5, .ref q6, .int 0, .int gr, .int kd, .long w10, .ref q11, .int mk, .long w13, .long w14]))] := hD
  refine lv_if_eq (tgt := 23) hx hb dX6_pair_18 (by decide) (fun c_4 => ?_) (fun c_4 => absurd c_4 (by decide))
  refine lv_aload_n hx hb dX6_pair_23 rfl (lv_at hl 0 rfl) ?_
  refine va_get (D := D) (ci := 6) (v := .int 0) (C := RX6) (T := TX6) (N := 15) hx hb hts (by decide +kernel) hown hK hP 0 rfl rfl 7 (by decide) (hts (.fieldLink RX6 43 "JoinDeskModel" "prepared" "Z") (by decide +kernel)) (fun _ h9 => h9) rfl dX6_pair_24 ?_
  refine lv_if_eq (tgt := 45) hx hb dX6_pair_27 (by decide) (fun c_5 => ?_) (fun c_5 => absurd c_5 (by decide))
  refine lv_iconst (v := 0) hx hb dX6_pair_45 (by decide) ?_
  refine lv_istore_n (lv' := [(2, .int 0), (0, .ref mo), (1, .int 4)]) hx hb dX6_pair_46 rfl hl (by decide) rfl (fun ls hl => ?_)
  refine lv_iload_n hx hb dX6_pair_47 rfl (lv_at hl 2 rfl) ?_
  refine lv_iconst (v := 1) hx hb dX6_pair_48 (by decide) ?_
  refine lv_icmp_eq (tgt := 57) hx hb dX6_pair_49 (by decide) (fun c_6 => absurd c_6 (by decide)) (fun c_6 => ?_)
  refine lv_iload_n hx hb dX6_pair_52 rfl (lv_at hl 2 rfl) ?_
  refine lv_iconst (v := 3) hx hb dX6_pair_53 (by decide) ?_
  refine lv_icmp_ne (tgt := 61) hx hb dX6_pair_54 (by decide) (fun c_7 => ?_) (fun c_7 => absurd c_7 (by decide))
  refine lv_iconst (v := 1) hx hb dX6_pair_61 (by decide) ?_
  refine lv_istore_n (lv' := [(3, .int 1), (2, .int 0), (0, .ref mo), (1, .int 4)]) hx hb dX6_pair_62 rfl hl (by decide) rfl (fun ls hl => ?_)
  refine lv_iload_n hx hb dX6_pair_63 rfl (lv_at hl 3 rfl) ?_
  refine lv_if_ne (tgt := 114) hx hb dX6_pair_64 (by decide) (fun c_8 => ?_) (fun c_8 => absurd c_8 (by decide))
  refine lv_iload_n hx hb dX6_pair_114 rfl (lv_at hl 1 rfl) ?_
  refine lv_if_eq (tgt := 135) hx hb dX6_pair_115 (by decide) (fun c_9 => ?_) (fun c_9 => absurd c_9 (by decide))
  refine lv_iconst (v := 0) hx hb dX6_pair_135 (by decide) ?_
  refine lv_istore (lv' := [(4, .int 0), (3, .int 1), (2, .int 0), (0, .ref mo), (1, .int 4)]) hx hb dX6_pair_136 hl (by decide) rfl (fun ls hl => ?_)
  refine lv_iload_n hx hb dX6_pair_138 rfl (lv_at hl 4 rfl) ?_
  refine lv_iconst (v := 3) hx hb dX6_pair_139 (by decide) ?_
  refine lv_icmp_ge (tgt := 169) hx hb dX6_pair_140 (by decide) (fun c_10 => ?_) (fun c_10 => absurd c_10 (by decide))
  refine lv_iload hx hb dX6_pair_169 (lv_at hl 0 rfl) ?_
  refine lv_if_eq (tgt := 197) hx hb dX6_pair_171 (by decide) (fun c_11 => ?_) (fun c_11 => absurd c_11 (by decide))
  refine lv_iconst (v := (-1)) hx hb dX6_pair_197 (by decide) ?_
  refine W.widen (k := 0) (n := 0) (by omega) (by omega) ?_
  exact W.iret (v := (-1)) hx hb hr (fun t ht hW => ⟨⟨(-1), [(mo, .inr (6, [.int 0, .ref q1, .int (nI g), .ref q3, .ref q4, .ref q5, .ref q6, .int 0, .int gr, .int kd, .long w10, .ref q11, .int mk, .long w13, .long w14]))], rfl, (by exact ⟨rfl, rfl⟩), by rw [ht]; exact hP, hD⟩, hS.F ht⟩) hS.2.2 dX6_pair_198
set_option maxHeartbeats 1000000 in
set_option maxRecDepth 100000 in
theorem gM_pair_n4 (l : Launch) (D : va_G) (cI cL cQ : ClassId) (mo : Nat) (g : Nat) (q1 : Nat) (q3 : Nat) (q4 : Nat) (q5 : Nat) (q6 : Nat) (q11 : Nat) (z0 : Int32) (gr : Int32) (kd : Int32) (mk : Int32) (w10 : Int64) (w13 : Int64) (w14 : Int64) (m3 : Nat → Int32) (m4 : Nat → Int32) (m5 : Nat → Int32) (t0 : Int32) (t1 : Int32) (t2 : Int32) (t3 : Int32) (t4 : Int32) (t5 : Int32) (t6 : Int32) (t7 : Int32) (t8 : Int32) (t10 : Int32) (t11 : Int32) (t12 : Int32) (t13 : Int32) (t14 : Int32) (t15 : Int32) (t16 : Int32) (t17 : Int32) (t18 : Int32) (t19 : Int32) (t20 : Int32) (t21 : Int32) (t22 : Int32) (t23 : Int32) (sz : Nat) (h5 : jo5 m5) : Met l yX6_pair wsX6_pair ({ frames := 1, cells := 0, slots := 0, locals := 21 }) (jw_P D vwCl (jT cI cL cQ) cL cQ [.ref mo, .int 4] [(mo, .inr (6, [.int z0, .ref q1, .int (nI g), .ref q3, .ref q4, .ref q5, .ref q6, .int 1, .int gr, .int kd, .long w10, .ref q11, .int mk, .long w13, .long w14])), (q3, .inl (cI, 800, .inl m3)), (q4, .inl (cI, 800, .inl m4)), (q5, .inl (cI, 800, .inl m5)), (q11, .inl (cI, 24, .inl (jl [t0, t1, t2, t3, t4, t5, t6, t7, t8, 0, t10, t11, t12, t13, t14, t15, t16, t17, t18, t19, t20, t21, t22, t23])))] sz) (va_Qi (fun (r : Int32) (u : va_W) => ∃ (z9 : Int32), r = z9 ∧ u = [(mo, .inr (6, [.int 0, .ref q1, .int (nI g), .ref q3, .ref q4, .ref q5, .ref q6, .int 1, .int gr, .int kd, .long w10, .ref q11, .int mk, .long w13, .long w14])), (q3, .inl (cI, 800, .inl m3)), (q4, .inl (cI, 800, .inl m4)), (q5, .inl (cI, 800, .inl m5)), (q11, .inl (cI, 24, .inl (jl [t0, t1, t2, t3, t4, t5, t6, t7, t8, 0, t10, t11, t12, t13, t14, t15, t16, t17, t18, t19, t20, t21, t22, t23])))]) (jw_B D vwCl (va_A [(mo, .inr (6, [.int z0, .ref q1, .int (nI g), .ref q3, .ref q4, .ref q5, .ref q6, .int 1, .int gr, .int kd, .long w10, .ref q11, .int mk, .long w13, .long w14])), (q3, .inl (cI, 800, .inl m3)), (q4, .inl (cI, 800, .inl m4)), (q5, .inl (cI, 800, .inl m5)), (q11, .inl (cI, 24, .inl (jl [t0, t1, t2, t3, t4, t5, t6, t7, t8, 0, t10, t11, t12, t13, t14, t15, t16, t17, t18, t19, t20, t21, t22, t23])))] sz) (fun u : va_W => u)) (va_A [(mo, .inr (6, [.int z0, .ref q1, .int (nI g), .ref q3, .ref q4, .ref q5, .ref q6, .int 1, .int gr, .int kd, .long w10, .ref q11, .int mk, .long w13, .long w14])), (q3, .inl (cI, 800, .inl m3)), (q4, .inl (cI, 800, .inl m4)), (q5, .inl (cI, 800, .inl m5)), (q11, .inl (cI, 24, .inl (jl [t0, t1, t2, t3, t4, t5, t6, t7, t8, 0, t10, t11, t12, t13, t14, t15, t16, t17, t18, t19, t20, t21, t22, t23])))] sz)) 0 0 (va_A [(mo, .inr (6, [.int z0, .ref q1, .int (nI g), .ref q3, .ref q4, .ref q5, .ref q6, .int 1, .int gr, .int kd, .long w10, .ref q11, .int mk, .long w13, .long w14])), (q3, .inl (cI, 800, .inl m3)), (q4, .inl (cI, 800, .inl m4)), (q5, .inl (cI, 800, .inl m5)), (q11, .inl (cI, 24, .inl (jl [t0, t1, t2, t3, t4, t5, t6, t7, t8, 0, t10, t11, t12, t13, t14, t15, t16, t17, t18, t19, t20, t21, t22, t23])))] sz) := by
  refine Met.ofW (cc := cX6_pair) (maxL := 5) (ret := (some .int)) (by decide) rfl ?_
  intro p e s m args below meth c s₁ B hml hv
  obtain ⟨rfl, hsz, hP, hK, hN, hD0⟩ := hv
  have hx := B.exec
  have hb := B.bytes
  have hr := B.returns
  have hts := atoms_spec (ws := wsX6_pair) B.pre
  have hown : s.vm.findClass RX6 = some m.cls := findClass_of_methodNamed B.named
  have hlocks := B.notSynchronized
  subst hsz
  have hD := hD0.self (sz := s.heap.size)
  generalize hAe : va_A [(mo, .inr (6, [.int z0, .ref q1, .int (nI g), .ref q3, .ref q4, .ref q5, .ref q6, .int 1, .int gr, .int kd, .long w10, .ref q11, .int mk, .long w13, .long w14])), (q3, .inl (cI, 800, .inl m3)), (q4, .inl (cI, 800, .inl m4)), (q5, .inl (cI, 800, .inl m5)), (q11, .inl (cI, 24, .inl (jl [t0, t1, t2, t3, t4, t5, t6, t7, t8, 0, t10, t11, t12, t13, t14, t15, t16, t17, t18, t19, t20, t21, t22, t23])))] s.heap.size = A at hD ⊢
  have hA : ∀ q : Nat, s.heap.size ≤ q → A q := fun q h => by rw [← hAe]; exact Or.inr h
  have hS : va_S A s.heap s.heap [] := va_S.rf
  have hl := lv_entry ([.ref mo, .int 4]) (n := 5) (Nat.le_of_ble_eq_true rfl)
  rw [lg_entry_eq]
  generalize (lg_sl ([.ref mo, .int 4]) ++ List.replicate (5 - (lg_sl ([.ref mo, .int 4])).length) Slot.unset).toArray = ls at hl ⊢
  have hl : lv_has ls 5 [(0, .ref mo), (1, .int 4)] := hl
  refine lv_aload_n hx hb dX6_pair_0 rfl (lv_at hl 0 rfl) ?_
  refine lv_iload_n hx hb dX6_pair_1 rfl (lv_at hl 1 rfl) ?_
  refine lv_if_lt (tgt := 10) hx hb dX6_pair_2 (by decide) (fun c_1 => absurd c_1 (by decide)) (fun c_1 => ?_)
  refine lv_iload_n hx hb dX6_pair_5 rfl (lv_at hl 1 rfl) ?_
  refine lv_iconst (v := 4) hx hb dX6_pair_6 (by decide) ?_
  refine lv_icmp_le (tgt := 14) hx hb dX6_pair_7 (by decide) (fun c_2 => ?_) (fun c_2 => absurd c_2 (by decide))
  refine lv_iconst (v := 0) hx hb dX6_pair_14 (by decide) ?_
  refine jw_i (wr := [(q3, .inl (cI, 800, .inl m3)), (q4, .inl (cI, 800, .inl m4)), (q5, .inl (cI, 800, .inl m5)), (q11, .inl (cI, 24, .inl (jl [t0, t1, t2, t3, t4, t5, t6, t7, t8, 0, t10, t11, t12, t13, t14, t15, t16, t17, t18, t19, t20, t21, t22, t23])))]) (va_runV (As := [.int 0]) (rest := []) ⟨hx, hb, hml, hown, hts⟩ (gM_refuses_0 l D cI cL cQ mo g q1 q3 q4 q5 q6 q11 z0 1 gr kd mk w10 w13 w14 _) (cwV 1 hts gX6_pair_X6_refuses rfl rfl rfl (by decide +kernel) ⟨Nat.le_of_ble_eq_true rfl, Nat.le_of_ble_eq_true rfl⟩) (jw_V hK hN hP hD [0] (by decide) rfl 6 0 rfl rfl rfl) rfl rfl hl.1 rfl (lv_room (Nat.le_of_ble_eq_true rfl)) dX6_pair_15 ⟨Nat.le_of_ble_eq_true rfl, Nat.le_of_ble_eq_true rfl⟩) hP hD hS hA [0] [1, 2, 3, 4] rfl rfl (by decide) (by decide) (fun r u H locs f_3 hP hD hS => ?_)
  obtain ⟨rfl, rfl⟩ := f_3
  have hP : va_P D vwCl [(q3, .inl (cI, 800, .inl m3)), (q4, .inl (cI, 800, .inl m4)), (q5, .inl (cI, 800, .inl m5)), (q11, .inl (cI, 24, .inl (jl [t0, t1, t2, t3, t4, t5, t6, t7, t8, 0, t10, t11, t12, t13, t14, t15, t16, t17, t18, t19, t20, t21, t22, t23]))), (mo, .inr (6, [.int 0, .ref q1, .int (nI g), .ref q3, .ref q4, .ref q5, .ref q6, .int 1, .int gr, .int kd, .long w10, .ref q11, .int mk, .long w13, .long w14]))] H := hP
  have hD : va_D A [(q3, .inl (cI, 800, .inl m3)), (q4, .inl (cI, 800, .inl m4)), (q5, .inl (cI, 800, .inl m5)), (q11, .inl (cI, 24, .inl (jl [t0, t1, t2, t3, t4, t5, t6, t7, t8, 0, t10, t11, t12, t13, t14, t15, t16, t17, t18, t19, t20, t21, t22, t23]))), (mo, .inr (6, [.int 0, .ref q1, .int (nI g), .ref q3, .ref q4, .ref q5, .ref q6, .int 1, .int gr, .int kd, .long w10, .ref q11, .int mk, .long w13, .long w14]))] := hD
  refine lv_if_eq (tgt := 23) hx hb dX6_pair_18 (by decide) (fun c_4 => ?_) (fun c_4 => absurd c_4 (by decide))
  refine lv_aload_n hx hb dX6_pair_23 rfl (lv_at hl 0 rfl) ?_
  refine va_get (D := D) (ci := 6) (v := .int 1) (C := RX6) (T := TX6) (N := 15) hx hb hts (by decide +kernel) hown hK hP 4 rfl rfl 7 (by decide) (hts (.fieldLink RX6 43 "JoinDeskModel" "prepared" "Z") (by decide +kernel)) (fun _ h9 => h9) rfl dX6_pair_24 ?_
  refine lv_if_eq (tgt := 45) hx hb dX6_pair_27 (by decide) (fun c_5 => absurd c_5 (by decide)) (fun c_5 => ?_)
  refine lv_aload_n hx hb dX6_pair_30 rfl (lv_at hl 0 rfl) ?_
  refine va_get (D := D) (ci := 6) (v := .ref q11) (C := RX6) (T := TX6) (N := 15) hx hb hts (by decide +kernel) hown hK hP 4 rfl rfl 11 (by decide) (hts (.fieldLink RX6 25 "JoinDeskModel" "at" "[I") (by decide +kernel)) (fun _ h9 => h9) rfl dX6_pair_31 ?_
  refine lv_bipush (v := 9) hx hb dX6_pair_34 (by decide) ?_
  refine va_iald hx hb hK hP 3 0 rfl rfl (by unfold vp_in; decide) dX6_pair_36 ?_
  refine W.eq (g2 := F0 m 37 ls [.int 0]) rfl ?_
  refine lv_iconst (v := 1) hx hb dX6_pair_37 (by decide) ?_
  refine lv_icmp_ne (tgt := 45) hx hb dX6_pair_38 (by decide) (fun c_6 => ?_) (fun c_6 => absurd c_6 (by decide))
  refine lv_iconst (v := 0) hx hb dX6_pair_45 (by decide) ?_
  refine lv_istore_n (lv' := [(2, .int 0), (0, .ref mo), (1, .int 4)]) hx hb dX6_pair_46 rfl hl (by decide) rfl (fun ls hl => ?_)
  refine lv_iload_n hx hb dX6_pair_47 rfl (lv_at hl 2 rfl) ?_
  refine lv_iconst (v := 1) hx hb dX6_pair_48 (by decide) ?_
  refine lv_icmp_eq (tgt := 57) hx hb dX6_pair_49 (by decide) (fun c_7 => absurd c_7 (by decide)) (fun c_7 => ?_)
  refine lv_iload_n hx hb dX6_pair_52 rfl (lv_at hl 2 rfl) ?_
  refine lv_iconst (v := 3) hx hb dX6_pair_53 (by decide) ?_
  refine lv_icmp_ne (tgt := 61) hx hb dX6_pair_54 (by decide) (fun c_8 => ?_) (fun c_8 => absurd c_8 (by decide))
  refine lv_iconst (v := 1) hx hb dX6_pair_61 (by decide) ?_
  refine lv_istore_n (lv' := [(3, .int 1), (2, .int 0), (0, .ref mo), (1, .int 4)]) hx hb dX6_pair_62 rfl hl (by decide) rfl (fun ls hl => ?_)
  refine lv_iload_n hx hb dX6_pair_63 rfl (lv_at hl 3 rfl) ?_
  refine lv_if_ne (tgt := 114) hx hb dX6_pair_64 (by decide) (fun c_9 => ?_) (fun c_9 => absurd c_9 (by decide))
  refine lv_iload_n hx hb dX6_pair_114 rfl (lv_at hl 1 rfl) ?_
  refine lv_if_eq (tgt := 135) hx hb dX6_pair_115 (by decide) (fun c_10 => ?_) (fun c_10 => absurd c_10 (by decide))
  refine lv_iconst (v := 0) hx hb dX6_pair_135 (by decide) ?_
  refine lv_istore (lv' := [(4, .int 0), (3, .int 1), (2, .int 0), (0, .ref mo), (1, .int 4)]) hx hb dX6_pair_136 hl (by decide) rfl (fun ls hl => ?_)
  refine lv_iload_n hx hb dX6_pair_138 rfl (lv_at hl 4 rfl) ?_
  refine lv_iconst (v := 3) hx hb dX6_pair_139 (by decide) ?_
  refine lv_icmp_ge (tgt := 169) hx hb dX6_pair_140 (by decide) (fun c_11 => ?_) (fun c_11 => absurd c_11 (by decide))
  refine lv_iload hx hb dX6_pair_169 (lv_at hl 0 rfl) ?_
  refine lv_if_eq (tgt := 197) hx hb dX6_pair_171 (by decide) (fun c_12 => ?_) (fun c_12 => absurd c_12 (by decide))
  refine lv_iconst (v := (-1)) hx hb dX6_pair_197 (by decide) ?_
  have hP := hP.sub (ws' := [(mo, .inr (6, [.int 0, .ref q1, .int (nI g), .ref q3, .ref q4, .ref q5, .ref q6, .int 1, .int gr, .int kd, .long w10, .ref q11, .int mk, .long w13, .long w14])), (q3, .inl (cI, 800, .inl m3)), (q4, .inl (cI, 800, .inl m4)), (q5, .inl (cI, 800, .inl m5)), (q11, .inl (cI, 24, .inl (jl [t0, t1, t2, t3, t4, t5, t6, t7, t8, 0, t10, t11, t12, t13, t14, t15, t16, t17, t18, t19, t20, t21, t22, t23])))]) [4, 0, 1, 2, 3] rfl
  have hD := hD.sub (ws' := [(mo, .inr (6, [.int 0, .ref q1, .int (nI g), .ref q3, .ref q4, .ref q5, .ref q6, .int 1, .int gr, .int kd, .long w10, .ref q11, .int mk, .long w13, .long w14])), (q3, .inl (cI, 800, .inl m3)), (q4, .inl (cI, 800, .inl m4)), (q5, .inl (cI, 800, .inl m5)), (q11, .inl (cI, 24, .inl (jl [t0, t1, t2, t3, t4, t5, t6, t7, t8, 0, t10, t11, t12, t13, t14, t15, t16, t17, t18, t19, t20, t21, t22, t23])))]) [4, 0, 1, 2, 3] (by decide) rfl
  refine W.widen (k := 0) (n := 0) (by omega) (by omega) ?_
  exact W.iret (v := (-1)) hx hb hr (fun t ht hW => ⟨⟨(-1), [(mo, .inr (6, [.int 0, .ref q1, .int (nI g), .ref q3, .ref q4, .ref q5, .ref q6, .int 1, .int gr, .int kd, .long w10, .ref q11, .int mk, .long w13, .long w14])), (q3, .inl (cI, 800, .inl m3)), (q4, .inl (cI, 800, .inl m4)), (q5, .inl (cI, 800, .inl m5)), (q11, .inl (cI, 24, .inl (jl [t0, t1, t2, t3, t4, t5, t6, t7, t8, 0, t10, t11, t12, t13, t14, t15, t16, t17, t18, t19, t20, t21, t22, t23])))], rfl, (⟨_, rfl, rfl⟩), by rw [ht]; exact hP, hD⟩, hS.F ht⟩) hS.2.2 dX6_pair_198
set_option maxHeartbeats 1000000 in
set_option maxRecDepth 100000 in
theorem gM_pair_04 (l : Launch) (D : va_G) (cI cL cQ : ClassId) (mo : Nat) (g : Nat) (q1 : Nat) (q3 : Nat) (q4 : Nat) (q5 : Nat) (q6 : Nat) (q11 : Nat) (z0 : Int32) (gr : Int32) (kd : Int32) (mk : Int32) (w10 : Int64) (w13 : Int64) (w14 : Int64) (m3 : Nat → Int32) (m4 : Nat → Int32) (m5 : Nat → Int32) (t0 : Int32) (t1 : Int32) (t2 : Int32) (t3 : Int32) (t10 : Int32) (t11 : Int32) (t12 : Int32) (t13 : Int32) (t14 : Int32) (t15 : Int32) (t16 : Int32) (t17 : Int32) (t18 : Int32) (t19 : Int32) (t20 : Int32) (t21 : Int32) (t22 : Int32) (t23 : Int32) (d0 : Nat) (d1 : Nat) (r0 : Nat) (r1 : Nat) (sz : Nat) (h5 : jo5 m5) (hr0 : r0 < d0) (hr1 : r1 < d1) (hd0 : d0 ≤ 400) (hd1 : d1 ≤ 400) : Met l yX6_pair wsX6_pair ({ frames := 1, cells := 0, slots := 0, locals := 21 }) (jw_P D vwCl (jT cI cL cQ) cL cQ [.ref mo, .int 4] [(mo, .inr (6, [.int z0, .ref q1, .int (nI g), .ref q3, .ref q4, .ref q5, .ref q6, .int 1, .int gr, .int kd, .long w10, .ref q11, .int mk, .long w13, .long w14])), (q3, .inl (cI, 800, .inl m3)), (q4, .inl (cI, 800, .inl m4)), (q5, .inl (cI, 800, .inl m5)), (q11, .inl (cI, 24, .inl (jl [t0, t1, t2, t3, nI d0, nI d1, nI r0, nI r1, 0, 1, t10, t11, t12, t13, t14, t15, t16, t17, t18, t19, t20, t21, t22, t23])))] sz) (va_Qi (fun (r : Int32) (u : va_W) => ∃ (z9 : Int32), r = z9 ∧ u = [(mo, .inr (6, [.int 0, .ref q1, .int (nI g), .ref q3, .ref q4, .ref q5, .ref q6, .int 1, .int gr, .int kd, .long w10, .ref q11, .int mk, .long w13, .long w14])), (q3, .inl (cI, 800, .inl m3)), (q4, .inl (cI, 800, .inl m4)), (q5, .inl (cI, 800, .inl m5)), (q11, .inl (cI, 24, .inl (jl [t0, t1, t2, t3, nI d0, nI d1, nI r0, nI r1, 0, 1, t10, t11, t12, t13, t14, t15, t16, t17, t18, t19, t20, t21, t22, t23])))]) (jw_B D vwCl (va_A [(mo, .inr (6, [.int z0, .ref q1, .int (nI g), .ref q3, .ref q4, .ref q5, .ref q6, .int 1, .int gr, .int kd, .long w10, .ref q11, .int mk, .long w13, .long w14])), (q3, .inl (cI, 800, .inl m3)), (q4, .inl (cI, 800, .inl m4)), (q5, .inl (cI, 800, .inl m5)), (q11, .inl (cI, 24, .inl (jl [t0, t1, t2, t3, nI d0, nI d1, nI r0, nI r1, 0, 1, t10, t11, t12, t13, t14, t15, t16, t17, t18, t19, t20, t21, t22, t23])))] sz) (fun u : va_W => u)) (va_A [(mo, .inr (6, [.int z0, .ref q1, .int (nI g), .ref q3, .ref q4, .ref q5, .ref q6, .int 1, .int gr, .int kd, .long w10, .ref q11, .int mk, .long w13, .long w14])), (q3, .inl (cI, 800, .inl m3)), (q4, .inl (cI, 800, .inl m4)), (q5, .inl (cI, 800, .inl m5)), (q11, .inl (cI, 24, .inl (jl [t0, t1, t2, t3, nI d0, nI d1, nI r0, nI r1, 0, 1, t10, t11, t12, t13, t14, t15, t16, t17, t18, t19, t20, t21, t22, t23])))] sz)) 0 0 (va_A [(mo, .inr (6, [.int z0, .ref q1, .int (nI g), .ref q3, .ref q4, .ref q5, .ref q6, .int 1, .int gr, .int kd, .long w10, .ref q11, .int mk, .long w13, .long w14])), (q3, .inl (cI, 800, .inl m3)), (q4, .inl (cI, 800, .inl m4)), (q5, .inl (cI, 800, .inl m5)), (q11, .inl (cI, 24, .inl (jl [t0, t1, t2, t3, nI d0, nI d1, nI r0, nI r1, 0, 1, t10, t11, t12, t13, t14, t15, t16, t17, t18, t19, t20, t21, t22, t23])))] sz) := by
  refine Met.ofW (cc := cX6_pair) (maxL := 5) (ret := (some .int)) (by decide) rfl ?_
  intro p e s m args below meth c s₁ B hml hv
  obtain ⟨rfl, hsz, hP, hK, hN, hD0⟩ := hv
  have hx := B.exec
  have hb := B.bytes
  have hr := B.returns
  have hts := atoms_spec (ws := wsX6_pair) B.pre
  have hown : s.vm.findClass RX6 = some m.cls := findClass_of_methodNamed B.named
  have hlocks := B.notSynchronized
  subst hsz
  have hD := hD0.self (sz := s.heap.size)
  generalize hAe : va_A [(mo, .inr (6, [.int z0, .ref q1, .int (nI g), .ref q3, .ref q4, .ref q5, .ref q6, .int 1, .int gr, .int kd, .long w10, .ref q11, .int mk, .long w13, .long w14])), (q3, .inl (cI, 800, .inl m3)), (q4, .inl (cI, 800, .inl m4)), (q5, .inl (cI, 800, .inl m5)), (q11, .inl (cI, 24, .inl (jl [t0, t1, t2, t3, nI d0, nI d1, nI r0, nI r1, 0, 1, t10, t11, t12, t13, t14, t15, t16, t17, t18, t19, t20, t21, t22, t23])))] s.heap.size = A at hD ⊢
  have hA : ∀ q : Nat, s.heap.size ≤ q → A q := fun q h => by rw [← hAe]; exact Or.inr h
  have hS : va_S A s.heap s.heap [] := va_S.rf
  have hl := lv_entry ([.ref mo, .int 4]) (n := 5) (Nat.le_of_ble_eq_true rfl)
  rw [lg_entry_eq]
  generalize (lg_sl ([.ref mo, .int 4]) ++ List.replicate (5 - (lg_sl ([.ref mo, .int 4])).length) Slot.unset).toArray = ls at hl ⊢
  have hl : lv_has ls 5 [(0, .ref mo), (1, .int 4)] := hl
  refine lv_aload_n hx hb dX6_pair_0 rfl (lv_at hl 0 rfl) ?_
  refine lv_iload_n hx hb dX6_pair_1 rfl (lv_at hl 1 rfl) ?_
  refine lv_if_lt (tgt := 10) hx hb dX6_pair_2 (by decide) (fun c_1 => absurd c_1 (by decide)) (fun c_1 => ?_)
  refine lv_iload_n hx hb dX6_pair_5 rfl (lv_at hl 1 rfl) ?_
  refine lv_iconst (v := 4) hx hb dX6_pair_6 (by decide) ?_
  refine lv_icmp_le (tgt := 14) hx hb dX6_pair_7 (by decide) (fun c_2 => ?_) (fun c_2 => absurd c_2 (by decide))
  refine lv_iconst (v := 0) hx hb dX6_pair_14 (by decide) ?_
  refine jw_i (wr := [(q3, .inl (cI, 800, .inl m3)), (q4, .inl (cI, 800, .inl m4)), (q5, .inl (cI, 800, .inl m5)), (q11, .inl (cI, 24, .inl (jl [t0, t1, t2, t3, nI d0, nI d1, nI r0, nI r1, 0, 1, t10, t11, t12, t13, t14, t15, t16, t17, t18, t19, t20, t21, t22, t23])))]) (va_runV (As := [.int 0]) (rest := []) ⟨hx, hb, hml, hown, hts⟩ (gM_refuses_0 l D cI cL cQ mo g q1 q3 q4 q5 q6 q11 z0 1 gr kd mk w10 w13 w14 _) (cwV 1 hts gX6_pair_X6_refuses rfl rfl rfl (by decide +kernel) ⟨Nat.le_of_ble_eq_true rfl, Nat.le_of_ble_eq_true rfl⟩) (jw_V hK hN hP hD [0] (by decide) rfl 6 0 rfl rfl rfl) rfl rfl hl.1 rfl (lv_room (Nat.le_of_ble_eq_true rfl)) dX6_pair_15 ⟨Nat.le_of_ble_eq_true rfl, Nat.le_of_ble_eq_true rfl⟩) hP hD hS hA [0] [1, 2, 3, 4] rfl rfl (by decide) (by decide) (fun r u H locs f_3 hP hD hS => ?_)
  obtain ⟨rfl, rfl⟩ := f_3
  have hP : va_P D vwCl [(q3, .inl (cI, 800, .inl m3)), (q4, .inl (cI, 800, .inl m4)), (q5, .inl (cI, 800, .inl m5)), (q11, .inl (cI, 24, .inl (jl [t0, t1, t2, t3, nI d0, nI d1, nI r0, nI r1, 0, 1, t10, t11, t12, t13, t14, t15, t16, t17, t18, t19, t20, t21, t22, t23]))), (mo, .inr (6, [.int 0, .ref q1, .int (nI g), .ref q3, .ref q4, .ref q5, .ref q6, .int 1, .int gr, .int kd, .long w10, .ref q11, .int mk, .long w13, .long w14]))] H := hP
  have hD : va_D A [(q3, .inl (cI, 800, .inl m3)), (q4, .inl (cI, 800, .inl m4)), (q5, .inl (cI, 800, .inl m5)), (q11, .inl (cI, 24, .inl (jl [t0, t1, t2, t3, nI d0, nI d1, nI r0, nI r1, 0, 1, t10, t11, t12, t13, t14, t15, t16, t17, t18, t19, t20, t21, t22, t23]))), (mo, .inr (6, [.int 0, .ref q1, .int (nI g), .ref q3, .ref q4, .ref q5, .ref q6, .int 1, .int gr, .int kd, .long w10, .ref q11, .int mk, .long w13, .long w14]))] := hD
  refine lv_if_eq (tgt := 23) hx hb dX6_pair_18 (by decide) (fun c_4 => ?_) (fun c_4 => absurd c_4 (by decide))
  refine lv_aload_n hx hb dX6_pair_23 rfl (lv_at hl 0 rfl) ?_
  refine va_get (D := D) (ci := 6) (v := .int 1) (C := RX6) (T := TX6) (N := 15) hx hb hts (by decide +kernel) hown hK hP 4 rfl rfl 7 (by decide) (hts (.fieldLink RX6 43 "JoinDeskModel" "prepared" "Z") (by decide +kernel)) (fun _ h9 => h9) rfl dX6_pair_24 ?_
  refine lv_if_eq (tgt := 45) hx hb dX6_pair_27 (by decide) (fun c_5 => absurd c_5 (by decide)) (fun c_5 => ?_)
  refine lv_aload_n hx hb dX6_pair_30 rfl (lv_at hl 0 rfl) ?_
  refine va_get (D := D) (ci := 6) (v := .ref q11) (C := RX6) (T := TX6) (N := 15) hx hb hts (by decide +kernel) hown hK hP 4 rfl rfl 11 (by decide) (hts (.fieldLink RX6 25 "JoinDeskModel" "at" "[I") (by decide +kernel)) (fun _ h9 => h9) rfl dX6_pair_31 ?_
  refine lv_bipush (v := 9) hx hb dX6_pair_34 (by decide) ?_
  refine va_iald hx hb hK hP 3 0 rfl rfl (by unfold vp_in; decide) dX6_pair_36 ?_
  refine W.eq (g2 := F0 m 37 ls [.int 1]) rfl ?_
  refine lv_iconst (v := 1) hx hb dX6_pair_37 (by decide) ?_
  refine lv_icmp_ne (tgt := 45) hx hb dX6_pair_38 (by decide) (fun c_6 => absurd c_6 (by decide)) (fun c_6 => ?_)
  refine lv_iconst (v := 1) hx hb dX6_pair_41 (by decide) ?_
  refine lv_goto (tgt := 46) hx hb dX6_pair_42 (by decide) ?_
  refine lv_istore_n (lv' := [(2, .int 1), (0, .ref mo), (1, .int 4)]) hx hb dX6_pair_46 rfl hl (by decide) rfl (fun ls hl => ?_)
  refine lv_iload_n hx hb dX6_pair_47 rfl (lv_at hl 2 rfl) ?_
  refine lv_iconst (v := 1) hx hb dX6_pair_48 (by decide) ?_
  refine lv_icmp_eq (tgt := 57) hx hb dX6_pair_49 (by decide) (fun c_7 => absurd c_7 (by decide)) (fun c_7 => ?_)
  refine lv_iload_n hx hb dX6_pair_52 rfl (lv_at hl 2 rfl) ?_
  refine lv_iconst (v := 3) hx hb dX6_pair_53 (by decide) ?_
  refine lv_icmp_ne (tgt := 61) hx hb dX6_pair_54 (by decide) (fun c_8 => ?_) (fun c_8 => absurd c_8 (by decide))
  refine lv_iconst (v := 1) hx hb dX6_pair_61 (by decide) ?_
  refine lv_istore_n (lv' := [(3, .int 1), (2, .int 1), (0, .ref mo), (1, .int 4)]) hx hb dX6_pair_62 rfl hl (by decide) rfl (fun ls hl => ?_)
  refine lv_iload_n hx hb dX6_pair_63 rfl (lv_at hl 3 rfl) ?_
  refine lv_if_ne (tgt := 114) hx hb dX6_pair_64 (by decide) (fun c_9 => ?_) (fun c_9 => absurd c_9 (by decide))
  refine lv_iload_n hx hb dX6_pair_114 rfl (lv_at hl 1 rfl) ?_
  refine lv_if_eq (tgt := 135) hx hb dX6_pair_115 (by decide) (fun c_10 => absurd c_10 (by decide)) (fun c_10 => ?_)
  refine lv_aload_n hx hb dX6_pair_118 rfl (lv_at hl 2 rfl) ?_
  refine va_get (D := D) (ci := 6) (v := .ref q11) (C := RX6) (T := TX6) (N := 15) hx hb hts (by decide +kernel) hown hK hP 4 rfl rfl 11 (by decide) (hts (.fieldLink RX6 25 "JoinDeskModel" "at" "[I") (by decide +kernel)) (fun _ h9 => h9) rfl dX6_pair_119 ?_
  refine lv_bipush (v := 8) hx hb dX6_pair_122 (by decide) ?_
  refine va_iald hx hb hK hP 3 0 rfl rfl (by unfold vp_in; decide) dX6_pair_124 ?_
  refine W.eq (g2 := F0 m 125 ls [.int 0]) rfl ?_
  refine lv_iconst (v := 2) hx hb dX6_pair_125 (by decide) ?_
  refine lv_iload_n hx hb dX6_pair_126 rfl (lv_at hl 0 rfl) ?_
  refine lv_isub hx hb dX6_pair_127 ?_
  refine lv_topi (fun z_11 e_z_11 => ?_)
  obtain rfl : z_11 = 1 := e_z_11.trans (by decide)
  refine lv_icmp_eq (tgt := 135) hx hb dX6_pair_128 (by decide) (fun c_12 => absurd c_12 (by decide)) (fun c_12 => ?_)
  refine lv_iconst (v := 1) hx hb dX6_pair_131 (by decide) ?_
  refine lv_goto (tgt := 136) hx hb dX6_pair_132 (by decide) ?_
  refine lv_istore (lv' := [(4, .int 1), (3, .int 1), (2, .int 1), (0, .ref mo), (1, .int 4)]) hx hb dX6_pair_136 hl (by decide) rfl (fun ls hl => ?_)
  refine lv_iload_n hx hb dX6_pair_138 rfl (lv_at hl 4 rfl) ?_
  refine lv_iconst (v := 3) hx hb dX6_pair_139 (by decide) ?_
  refine lv_icmp_ge (tgt := 169) hx hb dX6_pair_140 (by decide) (fun c_13 => ?_) (fun c_13 => absurd c_13 (by decide))
  refine lv_iload hx hb dX6_pair_169 (lv_at hl 0 rfl) ?_
  refine lv_if_eq (tgt := 197) hx hb dX6_pair_171 (by decide) (fun c_14 => absurd c_14 (by decide)) (fun c_14 => ?_)
  refine lv_aload_n hx hb dX6_pair_174 rfl (lv_at hl 3 rfl) ?_
  refine va_get (D := D) (ci := 6) (v := .ref q5) (C := RX6) (T := TX6) (N := 15) hx hb hts (by decide +kernel) hown hK hP 4 rfl rfl 5 (by decide) (hts (.fieldLink RX6 19 "JoinDeskModel" "order" "[I") (by decide +kernel)) (fun _ h9 => h9) rfl dX6_pair_175 ?_
  refine lv_sipush (v := 400) hx hb dX6_pair_178 (by decide) ?_
  refine lv_iload_n hx hb dX6_pair_181 rfl (lv_at hl 1 rfl) ?_
  refine lv_imul hx hb dX6_pair_182 ?_
  refine lv_topi (fun z_15 e_z_15 => ?_)
  obtain rfl : z_15 = 400 := e_z_15.trans (by decide)
  refine lv_aload_n hx hb dX6_pair_183 rfl (lv_at hl 3 rfl) ?_
  refine va_get (D := D) (ci := 6) (v := .ref q11) (C := RX6) (T := TX6) (N := 15) hx hb hts (by decide +kernel) hown hK hP 4 rfl rfl 11 (by decide) (hts (.fieldLink RX6 25 "JoinDeskModel" "at" "[I") (by decide +kernel)) (fun _ h9 => h9) rfl dX6_pair_184 ?_
  refine lv_bipush (v := 6) hx hb dX6_pair_187 (by decide) ?_
  refine lv_iload_n hx hb dX6_pair_189 rfl (lv_at hl 1 rfl) ?_
  refine lv_iadd hx hb dX6_pair_190 ?_
  refine lv_topi (fun z_16 e_z_16 => ?_)
  obtain rfl : z_16 = 7 := e_z_16.trans (by decide)
  refine va_iald hx hb hK hP 3 0 rfl rfl (by unfold vp_in; decide) dX6_pair_191 ?_
  refine W.eq (g2 := F0 m 192 ls [.int (nI r1), .int 400, .ref q5]) rfl ?_
  refine lv_iadd hx hb dX6_pair_192 ?_
  refine lv_topi (fun z_17 e_z_17 => ?_)
  obtain rfl : z_17 = nI (400 + r1) := e_z_17.trans (nI_add 400 r1)
  refine va_iald hx hb hK hP 2 0 rfl rfl (vp_in_nI (show 400 + r1 < 800 by omega) (by omega)) dX6_pair_193 ?_
  refine lv_goto (tgt := 198) hx hb dX6_pair_194 (by decide) ?_
  have hP := hP.sub (ws' := [(mo, .inr (6, [.int 0, .ref q1, .int (nI g), .ref q3, .ref q4, .ref q5, .ref q6, .int 1, .int gr, .int kd, .long w10, .ref q11, .int mk, .long w13, .long w14])), (q3, .inl (cI, 800, .inl m3)), (q4, .inl (cI, 800, .inl m4)), (q5, .inl (cI, 800, .inl m5)), (q11, .inl (cI, 24, .inl (jl [t0, t1, t2, t3, nI d0, nI d1, nI r0, nI r1, 0, 1, t10, t11, t12, t13, t14, t15, t16, t17, t18, t19, t20, t21, t22, t23])))]) [4, 0, 1, 2, 3] rfl
  have hD := hD.sub (ws' := [(mo, .inr (6, [.int 0, .ref q1, .int (nI g), .ref q3, .ref q4, .ref q5, .ref q6, .int 1, .int gr, .int kd, .long w10, .ref q11, .int mk, .long w13, .long w14])), (q3, .inl (cI, 800, .inl m3)), (q4, .inl (cI, 800, .inl m4)), (q5, .inl (cI, 800, .inl m5)), (q11, .inl (cI, 24, .inl (jl [t0, t1, t2, t3, nI d0, nI d1, nI r0, nI r1, 0, 1, t10, t11, t12, t13, t14, t15, t16, t17, t18, t19, t20, t21, t22, t23])))]) [4, 0, 1, 2, 3] (by decide) rfl
  refine W.widen (k := 0) (n := 0) (by omega) (by omega) ?_
  exact W.iret (v := m5 (nI (400 + r1)).toNatClampNeg) hx hb hr (fun t ht hW => ⟨⟨(m5 (nI (400 + r1)).toNatClampNeg), [(mo, .inr (6, [.int 0, .ref q1, .int (nI g), .ref q3, .ref q4, .ref q5, .ref q6, .int 1, .int gr, .int kd, .long w10, .ref q11, .int mk, .long w13, .long w14])), (q3, .inl (cI, 800, .inl m3)), (q4, .inl (cI, 800, .inl m4)), (q5, .inl (cI, 800, .inl m5)), (q11, .inl (cI, 24, .inl (jl [t0, t1, t2, t3, nI d0, nI d1, nI r0, nI r1, 0, 1, t10, t11, t12, t13, t14, t15, t16, t17, t18, t19, t20, t21, t22, t23])))], rfl, (⟨_, rfl, rfl⟩), by rw [ht]; exact hP, hD⟩, hS.F ht⟩) hS.2.2 dX6_pair_198
set_option maxHeartbeats 1000000 in
set_option maxRecDepth 100000 in
theorem gM_pair_14 (l : Launch) (D : va_G) (cI cL cQ : ClassId) (mo : Nat) (g : Nat) (q1 : Nat) (q3 : Nat) (q4 : Nat) (q5 : Nat) (q6 : Nat) (q11 : Nat) (z0 : Int32) (gr : Int32) (kd : Int32) (mk : Int32) (w10 : Int64) (w13 : Int64) (w14 : Int64) (m3 : Nat → Int32) (m4 : Nat → Int32) (m5 : Nat → Int32) (t0 : Int32) (t1 : Int32) (t2 : Int32) (t3 : Int32) (t5 : Int32) (t7 : Int32) (t10 : Int32) (t11 : Int32) (t12 : Int32) (t13 : Int32) (t14 : Int32) (t15 : Int32) (t16 : Int32) (t17 : Int32) (t18 : Int32) (t19 : Int32) (t20 : Int32) (t21 : Int32) (t22 : Int32) (t23 : Int32) (d0 : Nat) (r0 : Nat) (sz : Nat) (h5 : jo5 m5) (hr0 : r0 < d0) (hd0 : d0 ≤ 400) : Met l yX6_pair wsX6_pair ({ frames := 1, cells := 0, slots := 0, locals := 21 }) (jw_P D vwCl (jT cI cL cQ) cL cQ [.ref mo, .int 4] [(mo, .inr (6, [.int z0, .ref q1, .int (nI g), .ref q3, .ref q4, .ref q5, .ref q6, .int 1, .int gr, .int kd, .long w10, .ref q11, .int mk, .long w13, .long w14])), (q3, .inl (cI, 800, .inl m3)), (q4, .inl (cI, 800, .inl m4)), (q5, .inl (cI, 800, .inl m5)), (q11, .inl (cI, 24, .inl (jl [t0, t1, t2, t3, nI d0, t5, nI r0, t7, 1, 1, t10, t11, t12, t13, t14, t15, t16, t17, t18, t19, t20, t21, t22, t23])))] sz) (va_Qi (fun (r : Int32) (u : va_W) => ∃ (z9 : Int32), r = z9 ∧ u = [(mo, .inr (6, [.int 0, .ref q1, .int (nI g), .ref q3, .ref q4, .ref q5, .ref q6, .int 1, .int gr, .int kd, .long w10, .ref q11, .int mk, .long w13, .long w14])), (q3, .inl (cI, 800, .inl m3)), (q4, .inl (cI, 800, .inl m4)), (q5, .inl (cI, 800, .inl m5)), (q11, .inl (cI, 24, .inl (jl [t0, t1, t2, t3, nI d0, t5, nI r0, t7, 1, 1, t10, t11, t12, t13, t14, t15, t16, t17, t18, t19, t20, t21, t22, t23])))]) (jw_B D vwCl (va_A [(mo, .inr (6, [.int z0, .ref q1, .int (nI g), .ref q3, .ref q4, .ref q5, .ref q6, .int 1, .int gr, .int kd, .long w10, .ref q11, .int mk, .long w13, .long w14])), (q3, .inl (cI, 800, .inl m3)), (q4, .inl (cI, 800, .inl m4)), (q5, .inl (cI, 800, .inl m5)), (q11, .inl (cI, 24, .inl (jl [t0, t1, t2, t3, nI d0, t5, nI r0, t7, 1, 1, t10, t11, t12, t13, t14, t15, t16, t17, t18, t19, t20, t21, t22, t23])))] sz) (fun u : va_W => u)) (va_A [(mo, .inr (6, [.int z0, .ref q1, .int (nI g), .ref q3, .ref q4, .ref q5, .ref q6, .int 1, .int gr, .int kd, .long w10, .ref q11, .int mk, .long w13, .long w14])), (q3, .inl (cI, 800, .inl m3)), (q4, .inl (cI, 800, .inl m4)), (q5, .inl (cI, 800, .inl m5)), (q11, .inl (cI, 24, .inl (jl [t0, t1, t2, t3, nI d0, t5, nI r0, t7, 1, 1, t10, t11, t12, t13, t14, t15, t16, t17, t18, t19, t20, t21, t22, t23])))] sz)) 0 0 (va_A [(mo, .inr (6, [.int z0, .ref q1, .int (nI g), .ref q3, .ref q4, .ref q5, .ref q6, .int 1, .int gr, .int kd, .long w10, .ref q11, .int mk, .long w13, .long w14])), (q3, .inl (cI, 800, .inl m3)), (q4, .inl (cI, 800, .inl m4)), (q5, .inl (cI, 800, .inl m5)), (q11, .inl (cI, 24, .inl (jl [t0, t1, t2, t3, nI d0, t5, nI r0, t7, 1, 1, t10, t11, t12, t13, t14, t15, t16, t17, t18, t19, t20, t21, t22, t23])))] sz) := by
  refine Met.ofW (cc := cX6_pair) (maxL := 5) (ret := (some .int)) (by decide) rfl ?_
  intro p e s m args below meth c s₁ B hml hv
  obtain ⟨rfl, hsz, hP, hK, hN, hD0⟩ := hv
  have hx := B.exec
  have hb := B.bytes
  have hr := B.returns
  have hts := atoms_spec (ws := wsX6_pair) B.pre
  have hown : s.vm.findClass RX6 = some m.cls := findClass_of_methodNamed B.named
  have hlocks := B.notSynchronized
  subst hsz
  have hD := hD0.self (sz := s.heap.size)
  generalize hAe : va_A [(mo, .inr (6, [.int z0, .ref q1, .int (nI g), .ref q3, .ref q4, .ref q5, .ref q6, .int 1, .int gr, .int kd, .long w10, .ref q11, .int mk, .long w13, .long w14])), (q3, .inl (cI, 800, .inl m3)), (q4, .inl (cI, 800, .inl m4)), (q5, .inl (cI, 800, .inl m5)), (q11, .inl (cI, 24, .inl (jl [t0, t1, t2, t3, nI d0, t5, nI r0, t7, 1, 1, t10, t11, t12, t13, t14, t15, t16, t17, t18, t19, t20, t21, t22, t23])))] s.heap.size = A at hD ⊢
  have hA : ∀ q : Nat, s.heap.size ≤ q → A q := fun q h => by rw [← hAe]; exact Or.inr h
  have hS : va_S A s.heap s.heap [] := va_S.rf
  have hl := lv_entry ([.ref mo, .int 4]) (n := 5) (Nat.le_of_ble_eq_true rfl)
  rw [lg_entry_eq]
  generalize (lg_sl ([.ref mo, .int 4]) ++ List.replicate (5 - (lg_sl ([.ref mo, .int 4])).length) Slot.unset).toArray = ls at hl ⊢
  have hl : lv_has ls 5 [(0, .ref mo), (1, .int 4)] := hl
  refine lv_aload_n hx hb dX6_pair_0 rfl (lv_at hl 0 rfl) ?_
  refine lv_iload_n hx hb dX6_pair_1 rfl (lv_at hl 1 rfl) ?_
  refine lv_if_lt (tgt := 10) hx hb dX6_pair_2 (by decide) (fun c_1 => absurd c_1 (by decide)) (fun c_1 => ?_)
  refine lv_iload_n hx hb dX6_pair_5 rfl (lv_at hl 1 rfl) ?_
  refine lv_iconst (v := 4) hx hb dX6_pair_6 (by decide) ?_
  refine lv_icmp_le (tgt := 14) hx hb dX6_pair_7 (by decide) (fun c_2 => ?_) (fun c_2 => absurd c_2 (by decide))
  refine lv_iconst (v := 0) hx hb dX6_pair_14 (by decide) ?_
  refine jw_i (wr := [(q3, .inl (cI, 800, .inl m3)), (q4, .inl (cI, 800, .inl m4)), (q5, .inl (cI, 800, .inl m5)), (q11, .inl (cI, 24, .inl (jl [t0, t1, t2, t3, nI d0, t5, nI r0, t7, 1, 1, t10, t11, t12, t13, t14, t15, t16, t17, t18, t19, t20, t21, t22, t23])))]) (va_runV (As := [.int 0]) (rest := []) ⟨hx, hb, hml, hown, hts⟩ (gM_refuses_0 l D cI cL cQ mo g q1 q3 q4 q5 q6 q11 z0 1 gr kd mk w10 w13 w14 _) (cwV 1 hts gX6_pair_X6_refuses rfl rfl rfl (by decide +kernel) ⟨Nat.le_of_ble_eq_true rfl, Nat.le_of_ble_eq_true rfl⟩) (jw_V hK hN hP hD [0] (by decide) rfl 6 0 rfl rfl rfl) rfl rfl hl.1 rfl (lv_room (Nat.le_of_ble_eq_true rfl)) dX6_pair_15 ⟨Nat.le_of_ble_eq_true rfl, Nat.le_of_ble_eq_true rfl⟩) hP hD hS hA [0] [1, 2, 3, 4] rfl rfl (by decide) (by decide) (fun r u H locs f_3 hP hD hS => ?_)
  obtain ⟨rfl, rfl⟩ := f_3
  have hP : va_P D vwCl [(q3, .inl (cI, 800, .inl m3)), (q4, .inl (cI, 800, .inl m4)), (q5, .inl (cI, 800, .inl m5)), (q11, .inl (cI, 24, .inl (jl [t0, t1, t2, t3, nI d0, t5, nI r0, t7, 1, 1, t10, t11, t12, t13, t14, t15, t16, t17, t18, t19, t20, t21, t22, t23]))), (mo, .inr (6, [.int 0, .ref q1, .int (nI g), .ref q3, .ref q4, .ref q5, .ref q6, .int 1, .int gr, .int kd, .long w10, .ref q11, .int mk, .long w13, .long w14]))] H := hP
  have hD : va_D A [(q3, .inl (cI, 800, .inl m3)), (q4, .inl (cI, 800, .inl m4)), (q5, .inl (cI, 800, .inl m5)), (q11, .inl (cI, 24, .inl (jl [t0, t1, t2, t3, nI d0, t5, nI r0, t7, 1, 1, t10, t11, t12, t13, t14, t15, t16, t17, t18, t19, t20, t21, t22, t23]))), (mo, .inr (6, [.int 0, .ref q1, .int (nI g), .ref q3, .ref q4, .ref q5, .ref q6, .int 1, .int gr, .int kd, .long w10, .ref q11, .int mk, .long w13, .long w14]))] := hD
  refine lv_if_eq (tgt := 23) hx hb dX6_pair_18 (by decide) (fun c_4 => ?_) (fun c_4 => absurd c_4 (by decide))
  refine lv_aload_n hx hb dX6_pair_23 rfl (lv_at hl 0 rfl) ?_
  refine va_get (D := D) (ci := 6) (v := .int 1) (C := RX6) (T := TX6) (N := 15) hx hb hts (by decide +kernel) hown hK hP 4 rfl rfl 7 (by decide) (hts (.fieldLink RX6 43 "JoinDeskModel" "prepared" "Z") (by decide +kernel)) (fun _ h9 => h9) rfl dX6_pair_24 ?_
  refine lv_if_eq (tgt := 45) hx hb dX6_pair_27 (by decide) (fun c_5 => absurd c_5 (by decide)) (fun c_5 => ?_)
  refine lv_aload_n hx hb dX6_pair_30 rfl (lv_at hl 0 rfl) ?_
  refine va_get (D := D) (ci := 6) (v := .ref q11) (C := RX6) (T := TX6) (N := 15) hx hb hts (by decide +kernel) hown hK hP 4 rfl rfl 11 (by decide) (hts (.fieldLink RX6 25 "JoinDeskModel" "at" "[I") (by decide +kernel)) (fun _ h9 => h9) rfl dX6_pair_31 ?_
  refine lv_bipush (v := 9) hx hb dX6_pair_34 (by decide) ?_
  refine va_iald hx hb hK hP 3 0 rfl rfl (by unfold vp_in; decide) dX6_pair_36 ?_
  refine W.eq (g2 := F0 m 37 ls [.int 1]) rfl ?_
  refine lv_iconst (v := 1) hx hb dX6_pair_37 (by decide) ?_
  refine lv_icmp_ne (tgt := 45) hx hb dX6_pair_38 (by decide) (fun c_6 => absurd c_6 (by decide)) (fun c_6 => ?_)
  refine lv_iconst (v := 1) hx hb dX6_pair_41 (by decide) ?_
  refine lv_goto (tgt := 46) hx hb dX6_pair_42 (by decide) ?_
  refine lv_istore_n (lv' := [(2, .int 1), (0, .ref mo), (1, .int 4)]) hx hb dX6_pair_46 rfl hl (by decide) rfl (fun ls hl => ?_)
  refine lv_iload_n hx hb dX6_pair_47 rfl (lv_at hl 2 rfl) ?_
  refine lv_iconst (v := 1) hx hb dX6_pair_48 (by decide) ?_
  refine lv_icmp_eq (tgt := 57) hx hb dX6_pair_49 (by decide) (fun c_7 => absurd c_7 (by decide)) (fun c_7 => ?_)
  refine lv_iload_n hx hb dX6_pair_52 rfl (lv_at hl 2 rfl) ?_
  refine lv_iconst (v := 3) hx hb dX6_pair_53 (by decide) ?_
  refine lv_icmp_ne (tgt := 61) hx hb dX6_pair_54 (by decide) (fun c_8 => ?_) (fun c_8 => absurd c_8 (by decide))
  refine lv_iconst (v := 1) hx hb dX6_pair_61 (by decide) ?_
  refine lv_istore_n (lv' := [(3, .int 1), (2, .int 1), (0, .ref mo), (1, .int 4)]) hx hb dX6_pair_62 rfl hl (by decide) rfl (fun ls hl => ?_)
  refine lv_iload_n hx hb dX6_pair_63 rfl (lv_at hl 3 rfl) ?_
  refine lv_if_ne (tgt := 114) hx hb dX6_pair_64 (by decide) (fun c_9 => ?_) (fun c_9 => absurd c_9 (by decide))
  refine lv_iload_n hx hb dX6_pair_114 rfl (lv_at hl 1 rfl) ?_
  refine lv_if_eq (tgt := 135) hx hb dX6_pair_115 (by decide) (fun c_10 => absurd c_10 (by decide)) (fun c_10 => ?_)
  refine lv_aload_n hx hb dX6_pair_118 rfl (lv_at hl 2 rfl) ?_
  refine va_get (D := D) (ci := 6) (v := .ref q11) (C := RX6) (T := TX6) (N := 15) hx hb hts (by decide +kernel) hown hK hP 4 rfl rfl 11 (by decide) (hts (.fieldLink RX6 25 "JoinDeskModel" "at" "[I") (by decide +kernel)) (fun _ h9 => h9) rfl dX6_pair_119 ?_
  refine lv_bipush (v := 8) hx hb dX6_pair_122 (by decide) ?_
  refine va_iald hx hb hK hP 3 0 rfl rfl (by unfold vp_in; decide) dX6_pair_124 ?_
  refine W.eq (g2 := F0 m 125 ls [.int 1]) rfl ?_
  refine lv_iconst (v := 2) hx hb dX6_pair_125 (by decide) ?_
  refine lv_iload_n hx hb dX6_pair_126 rfl (lv_at hl 0 rfl) ?_
  refine lv_isub hx hb dX6_pair_127 ?_
  refine lv_topi (fun z_11 e_z_11 => ?_)
  obtain rfl : z_11 = 1 := e_z_11.trans (by decide)
  refine lv_icmp_eq (tgt := 135) hx hb dX6_pair_128 (by decide) (fun c_12 => ?_) (fun c_12 => absurd c_12 (by decide))
  refine lv_iconst (v := 0) hx hb dX6_pair_135 (by decide) ?_
  refine lv_istore (lv' := [(4, .int 0), (3, .int 1), (2, .int 1), (0, .ref mo), (1, .int 4)]) hx hb dX6_pair_136 hl (by decide) rfl (fun ls hl => ?_)
  refine lv_iload_n hx hb dX6_pair_138 rfl (lv_at hl 4 rfl) ?_
  refine lv_iconst (v := 3) hx hb dX6_pair_139 (by decide) ?_
  refine lv_icmp_ge (tgt := 169) hx hb dX6_pair_140 (by decide) (fun c_13 => ?_) (fun c_13 => absurd c_13 (by decide))
  refine lv_iload hx hb dX6_pair_169 (lv_at hl 0 rfl) ?_
  refine lv_if_eq (tgt := 197) hx hb dX6_pair_171 (by decide) (fun c_14 => ?_) (fun c_14 => absurd c_14 (by decide))
  refine lv_iconst (v := (-1)) hx hb dX6_pair_197 (by decide) ?_
  have hP := hP.sub (ws' := [(mo, .inr (6, [.int 0, .ref q1, .int (nI g), .ref q3, .ref q4, .ref q5, .ref q6, .int 1, .int gr, .int kd, .long w10, .ref q11, .int mk, .long w13, .long w14])), (q3, .inl (cI, 800, .inl m3)), (q4, .inl (cI, 800, .inl m4)), (q5, .inl (cI, 800, .inl m5)), (q11, .inl (cI, 24, .inl (jl [t0, t1, t2, t3, nI d0, t5, nI r0, t7, 1, 1, t10, t11, t12, t13, t14, t15, t16, t17, t18, t19, t20, t21, t22, t23])))]) [4, 0, 1, 2, 3] rfl
  have hD := hD.sub (ws' := [(mo, .inr (6, [.int 0, .ref q1, .int (nI g), .ref q3, .ref q4, .ref q5, .ref q6, .int 1, .int gr, .int kd, .long w10, .ref q11, .int mk, .long w13, .long w14])), (q3, .inl (cI, 800, .inl m3)), (q4, .inl (cI, 800, .inl m4)), (q5, .inl (cI, 800, .inl m5)), (q11, .inl (cI, 24, .inl (jl [t0, t1, t2, t3, nI d0, t5, nI r0, t7, 1, 1, t10, t11, t12, t13, t14, t15, t16, t17, t18, t19, t20, t21, t22, t23])))]) [4, 0, 1, 2, 3] (by decide) rfl
  refine W.widen (k := 0) (n := 0) (by omega) (by omega) ?_
  exact W.iret (v := (-1)) hx hb hr (fun t ht hW => ⟨⟨(-1), [(mo, .inr (6, [.int 0, .ref q1, .int (nI g), .ref q3, .ref q4, .ref q5, .ref q6, .int 1, .int gr, .int kd, .long w10, .ref q11, .int mk, .long w13, .long w14])), (q3, .inl (cI, 800, .inl m3)), (q4, .inl (cI, 800, .inl m4)), (q5, .inl (cI, 800, .inl m5)), (q11, .inl (cI, 24, .inl (jl [t0, t1, t2, t3, nI d0, t5, nI r0, t7, 1, 1, t10, t11, t12, t13, t14, t15, t16, t17, t18, t19, t20, t21, t22, t23])))], rfl, (⟨_, rfl, rfl⟩), by rw [ht]; exact hP, hD⟩, hS.F ht⟩) hS.2.2 dX6_pair_198
set_option maxHeartbeats 1000000 in
set_option maxRecDepth 100000 in
theorem gM_pair_24 (l : Launch) (D : va_G) (cI cL cQ : ClassId) (mo : Nat) (g : Nat) (q1 : Nat) (q3 : Nat) (q4 : Nat) (q5 : Nat) (q6 : Nat) (q11 : Nat) (z0 : Int32) (gr : Int32) (kd : Int32) (mk : Int32) (w10 : Int64) (w13 : Int64) (w14 : Int64) (m3 : Nat → Int32) (m4 : Nat → Int32) (m5 : Nat → Int32) (t0 : Int32) (t1 : Int32) (t2 : Int32) (t3 : Int32) (t4 : Int32) (t6 : Int32) (t10 : Int32) (t11 : Int32) (t12 : Int32) (t13 : Int32) (t14 : Int32) (t15 : Int32) (t16 : Int32) (t17 : Int32) (t18 : Int32) (t19 : Int32) (t20 : Int32) (t21 : Int32) (t22 : Int32) (t23 : Int32) (d1 : Nat) (r1 : Nat) (sz : Nat) (h5 : jo5 m5) (hr1 : r1 < d1) (hd1 : d1 ≤ 400) : Met l yX6_pair wsX6_pair ({ frames := 1, cells := 0, slots := 0, locals := 21 }) (jw_P D vwCl (jT cI cL cQ) cL cQ [.ref mo, .int 4] [(mo, .inr (6, [.int z0, .ref q1, .int (nI g), .ref q3, .ref q4, .ref q5, .ref q6, .int 1, .int gr, .int kd, .long w10, .ref q11, .int mk, .long w13, .long w14])), (q3, .inl (cI, 800, .inl m3)), (q4, .inl (cI, 800, .inl m4)), (q5, .inl (cI, 800, .inl m5)), (q11, .inl (cI, 24, .inl (jl [t0, t1, t2, t3, t4, nI d1, t6, nI r1, 2, 1, t10, t11, t12, t13, t14, t15, t16, t17, t18, t19, t20, t21, t22, t23])))] sz) (va_Qi (fun (r : Int32) (u : va_W) => ∃ (z9 : Int32), r = z9 ∧ u = [(mo, .inr (6, [.int 0, .ref q1, .int (nI g), .ref q3, .ref q4, .ref q5, .ref q6, .int 1, .int gr, .int kd, .long w10, .ref q11, .int mk, .long w13, .long w14])), (q3, .inl (cI, 800, .inl m3)), (q4, .inl (cI, 800, .inl m4)), (q5, .inl (cI, 800, .inl m5)), (q11, .inl (cI, 24, .inl (jl [t0, t1, t2, t3, t4, nI d1, t6, nI r1, 2, 1, t10, t11, t12, t13, t14, t15, t16, t17, t18, t19, t20, t21, t22, t23])))]) (jw_B D vwCl (va_A [(mo, .inr (6, [.int z0, .ref q1, .int (nI g), .ref q3, .ref q4, .ref q5, .ref q6, .int 1, .int gr, .int kd, .long w10, .ref q11, .int mk, .long w13, .long w14])), (q3, .inl (cI, 800, .inl m3)), (q4, .inl (cI, 800, .inl m4)), (q5, .inl (cI, 800, .inl m5)), (q11, .inl (cI, 24, .inl (jl [t0, t1, t2, t3, t4, nI d1, t6, nI r1, 2, 1, t10, t11, t12, t13, t14, t15, t16, t17, t18, t19, t20, t21, t22, t23])))] sz) (fun u : va_W => u)) (va_A [(mo, .inr (6, [.int z0, .ref q1, .int (nI g), .ref q3, .ref q4, .ref q5, .ref q6, .int 1, .int gr, .int kd, .long w10, .ref q11, .int mk, .long w13, .long w14])), (q3, .inl (cI, 800, .inl m3)), (q4, .inl (cI, 800, .inl m4)), (q5, .inl (cI, 800, .inl m5)), (q11, .inl (cI, 24, .inl (jl [t0, t1, t2, t3, t4, nI d1, t6, nI r1, 2, 1, t10, t11, t12, t13, t14, t15, t16, t17, t18, t19, t20, t21, t22, t23])))] sz)) 0 0 (va_A [(mo, .inr (6, [.int z0, .ref q1, .int (nI g), .ref q3, .ref q4, .ref q5, .ref q6, .int 1, .int gr, .int kd, .long w10, .ref q11, .int mk, .long w13, .long w14])), (q3, .inl (cI, 800, .inl m3)), (q4, .inl (cI, 800, .inl m4)), (q5, .inl (cI, 800, .inl m5)), (q11, .inl (cI, 24, .inl (jl [t0, t1, t2, t3, t4, nI d1, t6, nI r1, 2, 1, t10, t11, t12, t13, t14, t15, t16, t17, t18, t19, t20, t21, t22, t23])))] sz) := by
  refine Met.ofW (cc := cX6_pair) (maxL := 5) (ret := (some .int)) (by decide) rfl ?_
  intro p e s m args below meth c s₁ B hml hv
  obtain ⟨rfl, hsz, hP, hK, hN, hD0⟩ := hv
  have hx := B.exec
  have hb := B.bytes
  have hr := B.returns
  have hts := atoms_spec (ws := wsX6_pair) B.pre
  have hown : s.vm.findClass RX6 = some m.cls := findClass_of_methodNamed B.named
  have hlocks := B.notSynchronized
  subst hsz
  have hD := hD0.self (sz := s.heap.size)
  generalize hAe : va_A [(mo, .inr (6, [.int z0, .ref q1, .int (nI g), .ref q3, .ref q4, .ref q5, .ref q6, .int 1, .int gr, .int kd, .long w10, .ref q11, .int mk, .long w13, .long w14])), (q3, .inl (cI, 800, .inl m3)), (q4, .inl (cI, 800, .inl m4)), (q5, .inl (cI, 800, .inl m5)), (q11, .inl (cI, 24, .inl (jl [t0, t1, t2, t3, t4, nI d1, t6, nI r1, 2, 1, t10, t11, t12, t13, t14, t15, t16, t17, t18, t19, t20, t21, t22, t23])))] s.heap.size = A at hD ⊢
  have hA : ∀ q : Nat, s.heap.size ≤ q → A q := fun q h => by rw [← hAe]; exact Or.inr h
  have hS : va_S A s.heap s.heap [] := va_S.rf
  have hl := lv_entry ([.ref mo, .int 4]) (n := 5) (Nat.le_of_ble_eq_true rfl)
  rw [lg_entry_eq]
  generalize (lg_sl ([.ref mo, .int 4]) ++ List.replicate (5 - (lg_sl ([.ref mo, .int 4])).length) Slot.unset).toArray = ls at hl ⊢
  have hl : lv_has ls 5 [(0, .ref mo), (1, .int 4)] := hl
  refine lv_aload_n hx hb dX6_pair_0 rfl (lv_at hl 0 rfl) ?_
  refine lv_iload_n hx hb dX6_pair_1 rfl (lv_at hl 1 rfl) ?_
  refine lv_if_lt (tgt := 10) hx hb dX6_pair_2 (by decide) (fun c_1 => absurd c_1 (by decide)) (fun c_1 => ?_)
  refine lv_iload_n hx hb dX6_pair_5 rfl (lv_at hl 1 rfl) ?_
  refine lv_iconst (v := 4) hx hb dX6_pair_6 (by decide) ?_
  refine lv_icmp_le (tgt := 14) hx hb dX6_pair_7 (by decide) (fun c_2 => ?_) (fun c_2 => absurd c_2 (by decide))
  refine lv_iconst (v := 0) hx hb dX6_pair_14 (by decide) ?_
  refine jw_i (wr := [(q3, .inl (cI, 800, .inl m3)), (q4, .inl (cI, 800, .inl m4)), (q5, .inl (cI, 800, .inl m5)), (q11, .inl (cI, 24, .inl (jl [t0, t1, t2, t3, t4, nI d1, t6, nI r1, 2, 1, t10, t11, t12, t13, t14, t15, t16, t17, t18, t19, t20, t21, t22, t23])))]) (va_runV (As := [.int 0]) (rest := []) ⟨hx, hb, hml, hown, hts⟩ (gM_refuses_0 l D cI cL cQ mo g q1 q3 q4 q5 q6 q11 z0 1 gr kd mk w10 w13 w14 _) (cwV 1 hts gX6_pair_X6_refuses rfl rfl rfl (by decide +kernel) ⟨Nat.le_of_ble_eq_true rfl, Nat.le_of_ble_eq_true rfl⟩) (jw_V hK hN hP hD [0] (by decide) rfl 6 0 rfl rfl rfl) rfl rfl hl.1 rfl (lv_room (Nat.le_of_ble_eq_true rfl)) dX6_pair_15 ⟨Nat.le_of_ble_eq_true rfl, Nat.le_of_ble_eq_true rfl⟩) hP hD hS hA [0] [1, 2, 3, 4] rfl rfl (by decide) (by decide) (fun r u H locs f_3 hP hD hS => ?_)
  obtain ⟨rfl, rfl⟩ := f_3
  have hP : va_P D vwCl [(q3, .inl (cI, 800, .inl m3)), (q4, .inl (cI, 800, .inl m4)), (q5, .inl (cI, 800, .inl m5)), (q11, .inl (cI, 24, .inl (jl [t0, t1, t2, t3, t4, nI d1, t6, nI r1, 2, 1, t10, t11, t12, t13, t14, t15, t16, t17, t18, t19, t20, t21, t22, t23]))), (mo, .inr (6, [.int 0, .ref q1, .int (nI g), .ref q3, .ref q4, .ref q5, .ref q6, .int 1, .int gr, .int kd, .long w10, .ref q11, .int mk, .long w13, .long w14]))] H := hP
  have hD : va_D A [(q3, .inl (cI, 800, .inl m3)), (q4, .inl (cI, 800, .inl m4)), (q5, .inl (cI, 800, .inl m5)), (q11, .inl (cI, 24, .inl (jl [t0, t1, t2, t3, t4, nI d1, t6, nI r1, 2, 1, t10, t11, t12, t13, t14, t15, t16, t17, t18, t19, t20, t21, t22, t23]))), (mo, .inr (6, [.int 0, .ref q1, .int (nI g), .ref q3, .ref q4, .ref q5, .ref q6, .int 1, .int gr, .int kd, .long w10, .ref q11, .int mk, .long w13, .long w14]))] := hD
  refine lv_if_eq (tgt := 23) hx hb dX6_pair_18 (by decide) (fun c_4 => ?_) (fun c_4 => absurd c_4 (by decide))
  refine lv_aload_n hx hb dX6_pair_23 rfl (lv_at hl 0 rfl) ?_
  refine va_get (D := D) (ci := 6) (v := .int 1) (C := RX6) (T := TX6) (N := 15) hx hb hts (by decide +kernel) hown hK hP 4 rfl rfl 7 (by decide) (hts (.fieldLink RX6 43 "JoinDeskModel" "prepared" "Z") (by decide +kernel)) (fun _ h9 => h9) rfl dX6_pair_24 ?_
  refine lv_if_eq (tgt := 45) hx hb dX6_pair_27 (by decide) (fun c_5 => absurd c_5 (by decide)) (fun c_5 => ?_)
  refine lv_aload_n hx hb dX6_pair_30 rfl (lv_at hl 0 rfl) ?_
  refine va_get (D := D) (ci := 6) (v := .ref q11) (C := RX6) (T := TX6) (N := 15) hx hb hts (by decide +kernel) hown hK hP 4 rfl rfl 11 (by decide) (hts (.fieldLink RX6 25 "JoinDeskModel" "at" "[I") (by decide +kernel)) (fun _ h9 => h9) rfl dX6_pair_31 ?_
  refine lv_bipush (v := 9) hx hb dX6_pair_34 (by decide) ?_
  refine va_iald hx hb hK hP 3 0 rfl rfl (by unfold vp_in; decide) dX6_pair_36 ?_
  refine W.eq (g2 := F0 m 37 ls [.int 1]) rfl ?_
  refine lv_iconst (v := 1) hx hb dX6_pair_37 (by decide) ?_
  refine lv_icmp_ne (tgt := 45) hx hb dX6_pair_38 (by decide) (fun c_6 => absurd c_6 (by decide)) (fun c_6 => ?_)
  refine lv_iconst (v := 1) hx hb dX6_pair_41 (by decide) ?_
  refine lv_goto (tgt := 46) hx hb dX6_pair_42 (by decide) ?_
  refine lv_istore_n (lv' := [(2, .int 1), (0, .ref mo), (1, .int 4)]) hx hb dX6_pair_46 rfl hl (by decide) rfl (fun ls hl => ?_)
  refine lv_iload_n hx hb dX6_pair_47 rfl (lv_at hl 2 rfl) ?_
  refine lv_iconst (v := 1) hx hb dX6_pair_48 (by decide) ?_
  refine lv_icmp_eq (tgt := 57) hx hb dX6_pair_49 (by decide) (fun c_7 => absurd c_7 (by decide)) (fun c_7 => ?_)
  refine lv_iload_n hx hb dX6_pair_52 rfl (lv_at hl 2 rfl) ?_
  refine lv_iconst (v := 3) hx hb dX6_pair_53 (by decide) ?_
  refine lv_icmp_ne (tgt := 61) hx hb dX6_pair_54 (by decide) (fun c_8 => ?_) (fun c_8 => absurd c_8 (by decide))
  refine lv_iconst (v := 1) hx hb dX6_pair_61 (by decide) ?_
  refine lv_istore_n (lv' := [(3, .int 1), (2, .int 1), (0, .ref mo), (1, .int 4)]) hx hb dX6_pair_62 rfl hl (by decide) rfl (fun ls hl => ?_)
  refine lv_iload_n hx hb dX6_pair_63 rfl (lv_at hl 3 rfl) ?_
  refine lv_if_ne (tgt := 114) hx hb dX6_pair_64 (by decide) (fun c_9 => ?_) (fun c_9 => absurd c_9 (by decide))
  refine lv_iload_n hx hb dX6_pair_114 rfl (lv_at hl 1 rfl) ?_
  refine lv_if_eq (tgt := 135) hx hb dX6_pair_115 (by decide) (fun c_10 => absurd c_10 (by decide)) (fun c_10 => ?_)
  refine lv_aload_n hx hb dX6_pair_118 rfl (lv_at hl 2 rfl) ?_
  refine va_get (D := D) (ci := 6) (v := .ref q11) (C := RX6) (T := TX6) (N := 15) hx hb hts (by decide +kernel) hown hK hP 4 rfl rfl 11 (by decide) (hts (.fieldLink RX6 25 "JoinDeskModel" "at" "[I") (by decide +kernel)) (fun _ h9 => h9) rfl dX6_pair_119 ?_
  refine lv_bipush (v := 8) hx hb dX6_pair_122 (by decide) ?_
  refine va_iald hx hb hK hP 3 0 rfl rfl (by unfold vp_in; decide) dX6_pair_124 ?_
  refine W.eq (g2 := F0 m 125 ls [.int 2]) rfl ?_
  refine lv_iconst (v := 2) hx hb dX6_pair_125 (by decide) ?_
  refine lv_iload_n hx hb dX6_pair_126 rfl (lv_at hl 0 rfl) ?_
  refine lv_isub hx hb dX6_pair_127 ?_
  refine lv_topi (fun z_11 e_z_11 => ?_)
  obtain rfl : z_11 = 1 := e_z_11.trans (by decide)
  refine lv_icmp_eq (tgt := 135) hx hb dX6_pair_128 (by decide) (fun c_12 => absurd c_12 (by decide)) (fun c_12 => ?_)
  refine lv_iconst (v := 1) hx hb dX6_pair_131 (by decide) ?_
  refine lv_goto (tgt := 136) hx hb dX6_pair_132 (by decide) ?_
  refine lv_istore (lv' := [(4, .int 1), (3, .int 1), (2, .int 1), (0, .ref mo), (1, .int 4)]) hx hb dX6_pair_136 hl (by decide) rfl (fun ls hl => ?_)
  refine lv_iload_n hx hb dX6_pair_138 rfl (lv_at hl 4 rfl) ?_
  refine lv_iconst (v := 3) hx hb dX6_pair_139 (by decide) ?_
  refine lv_icmp_ge (tgt := 169) hx hb dX6_pair_140 (by decide) (fun c_13 => ?_) (fun c_13 => absurd c_13 (by decide))
  refine lv_iload hx hb dX6_pair_169 (lv_at hl 0 rfl) ?_
  refine lv_if_eq (tgt := 197) hx hb dX6_pair_171 (by decide) (fun c_14 => absurd c_14 (by decide)) (fun c_14 => ?_)
  refine lv_aload_n hx hb dX6_pair_174 rfl (lv_at hl 3 rfl) ?_
  refine va_get (D := D) (ci := 6) (v := .ref q5) (C := RX6) (T := TX6) (N := 15) hx hb hts (by decide +kernel) hown hK hP 4 rfl rfl 5 (by decide) (hts (.fieldLink RX6 19 "JoinDeskModel" "order" "[I") (by decide +kernel)) (fun _ h9 => h9) rfl dX6_pair_175 ?_
  refine lv_sipush (v := 400) hx hb dX6_pair_178 (by decide) ?_
  refine lv_iload_n hx hb dX6_pair_181 rfl (lv_at hl 1 rfl) ?_
  refine lv_imul hx hb dX6_pair_182 ?_
  refine lv_topi (fun z_15 e_z_15 => ?_)
  obtain rfl : z_15 = 400 := e_z_15.trans (by decide)
  refine lv_aload_n hx hb dX6_pair_183 rfl (lv_at hl 3 rfl) ?_
  refine va_get (D := D) (ci := 6) (v := .ref q11) (C := RX6) (T := TX6) (N := 15) hx hb hts (by decide +kernel) hown hK hP 4 rfl rfl 11 (by decide) (hts (.fieldLink RX6 25 "JoinDeskModel" "at" "[I") (by decide +kernel)) (fun _ h9 => h9) rfl dX6_pair_184 ?_
  refine lv_bipush (v := 6) hx hb dX6_pair_187 (by decide) ?_
  refine lv_iload_n hx hb dX6_pair_189 rfl (lv_at hl 1 rfl) ?_
  refine lv_iadd hx hb dX6_pair_190 ?_
  refine lv_topi (fun z_16 e_z_16 => ?_)
  obtain rfl : z_16 = 7 := e_z_16.trans (by decide)
  refine va_iald hx hb hK hP 3 0 rfl rfl (by unfold vp_in; decide) dX6_pair_191 ?_
  refine W.eq (g2 := F0 m 192 ls [.int (nI r1), .int 400, .ref q5]) rfl ?_
  refine lv_iadd hx hb dX6_pair_192 ?_
  refine lv_topi (fun z_17 e_z_17 => ?_)
  obtain rfl : z_17 = nI (400 + r1) := e_z_17.trans (nI_add 400 r1)
  refine va_iald hx hb hK hP 2 0 rfl rfl (vp_in_nI (show 400 + r1 < 800 by omega) (by omega)) dX6_pair_193 ?_
  refine lv_goto (tgt := 198) hx hb dX6_pair_194 (by decide) ?_
  have hP := hP.sub (ws' := [(mo, .inr (6, [.int 0, .ref q1, .int (nI g), .ref q3, .ref q4, .ref q5, .ref q6, .int 1, .int gr, .int kd, .long w10, .ref q11, .int mk, .long w13, .long w14])), (q3, .inl (cI, 800, .inl m3)), (q4, .inl (cI, 800, .inl m4)), (q5, .inl (cI, 800, .inl m5)), (q11, .inl (cI, 24, .inl (jl [t0, t1, t2, t3, t4, nI d1, t6, nI r1, 2, 1, t10, t11, t12, t13, t14, t15, t16, t17, t18, t19, t20, t21, t22, t23])))]) [4, 0, 1, 2, 3] rfl
  have hD := hD.sub (ws' := [(mo, .inr (6, [.int 0, .ref q1, .int (nI g), .ref q3, .ref q4, .ref q5, .ref q6, .int 1, .int gr, .int kd, .long w10, .ref q11, .int mk, .long w13, .long w14])), (q3, .inl (cI, 800, .inl m3)), (q4, .inl (cI, 800, .inl m4)), (q5, .inl (cI, 800, .inl m5)), (q11, .inl (cI, 24, .inl (jl [t0, t1, t2, t3, t4, nI d1, t6, nI r1, 2, 1, t10, t11, t12, t13, t14, t15, t16, t17, t18, t19, t20, t21, t22, t23])))]) [4, 0, 1, 2, 3] (by decide) rfl
  refine W.widen (k := 0) (n := 0) (by omega) (by omega) ?_
  exact W.iret (v := m5 (nI (400 + r1)).toNatClampNeg) hx hb hr (fun t ht hW => ⟨⟨(m5 (nI (400 + r1)).toNatClampNeg), [(mo, .inr (6, [.int 0, .ref q1, .int (nI g), .ref q3, .ref q4, .ref q5, .ref q6, .int 1, .int gr, .int kd, .long w10, .ref q11, .int mk, .long w13, .long w14])), (q3, .inl (cI, 800, .inl m3)), (q4, .inl (cI, 800, .inl m4)), (q5, .inl (cI, 800, .inl m5)), (q11, .inl (cI, 24, .inl (jl [t0, t1, t2, t3, t4, nI d1, t6, nI r1, 2, 1, t10, t11, t12, t13, t14, t15, t16, t17, t18, t19, t20, t21, t22, t23])))], rfl, (⟨_, rfl, rfl⟩), by rw [ht]; exact hP, hD⟩, hS.F ht⟩) hS.2.2 dX6_pair_198
