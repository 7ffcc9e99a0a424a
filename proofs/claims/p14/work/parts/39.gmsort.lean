set_option maxHeartbeats 1000000 in
set_option maxRecDepth 100000 in
theorem gM_sorted_1a (l : Launch) (D : va_G) (cI cL cQ : ClassId) (mo : Nat) (g : Nat) (n : Nat) (n2 : Nat) (q1 : Nat) (q3 : Nat) (q4 : Nat) (q5 : Nat) (q6 : Nat) (q11 : Nat) (z0 : Int32) (pr : Int32) (gr : Int32) (kd : Int32) (mk : Int32) (w10 : Int64) (w13 : Int64) (w14 : Int64) (x : Int32) (y : Int32) (sz : Nat) (h1 : (x < 0 ∨ nI n ≤ x) ∨ (y < 0 ∨ 2 < y)) : Met l yX6_sorted wsX6_sorted ({ frames := 1, cells := 0, slots := 0, locals := 21 }) (jw_P D vwCl (jT cI cL cQ) cL cQ [.ref mo, .int 1, .int x, .int y] [(mo, .inr (6, [.int z0, .ref q1, .int (nI g), .ref q3, .ref q4, .ref q5, .ref q6, .int pr, .int gr, .int kd, .long w10, .ref q11, .int mk, .long w13, .long w14])), (q6, .inl (cI, 2, .inl (jl [nI n, nI n2])))] sz) (va_Qi (fun (r : Int32) (u : va_W) => r = 0 ∧ u = [(mo, .inr (6, [.int 1, .ref q1, .int (nI g), .ref q3, .ref q4, .ref q5, .ref q6, .int pr, .int gr, .int kd, .long w10, .ref q11, .int mk, .long w13, .long w14])), (q6, .inl (cI, 2, .inl (jl [nI n, nI n2])))]) (jw_B D vwCl (va_A [(mo, .inr (6, [.int z0, .ref q1, .int (nI g), .ref q3, .ref q4, .ref q5, .ref q6, .int pr, .int gr, .int kd, .long w10, .ref q11, .int mk, .long w13, .long w14])), (q6, .inl (cI, 2, .inl (jl [nI n, nI n2])))] sz) (fun u : va_W => u)) (va_A [(mo, .inr (6, [.int z0, .ref q1, .int (nI g), .ref q3, .ref q4, .ref q5, .ref q6, .int pr, .int gr, .int kd, .long w10, .ref q11, .int mk, .long w13, .long w14])), (q6, .inl (cI, 2, .inl (jl [nI n, nI n2])))] sz)) 0 0 (va_A [(mo, .inr (6, [.int z0, .ref q1, .int (nI g), .ref q3, .ref q4, .ref q5, .ref q6, .int pr, .int gr, .int kd, .long w10, .ref q11, .int mk, .long w13, .long w14])), (q6, .inl (cI, 2, .inl (jl [nI n, nI n2])))] sz) := by
  refine Met.ofW (cc := cX6_sorted) (maxL := 5) (ret := (some .int)) (by decide) rfl ?_
  intro p e s m args below meth c s₁ B hml hv
  obtain ⟨rfl, hsz, hP, hK, hN, hD0⟩ := hv
  have hx := B.exec
  have hb := B.bytes
  have hr := B.returns
  have hts := atoms_spec (ws := wsX6_sorted) B.pre
  have hown : s.vm.findClass RX6 = some m.cls := findClass_of_methodNamed B.named
  have hlocks := B.notSynchronized
  subst hsz
  have hD := hD0.self (sz := s.heap.size)
  generalize hAe : va_A [(mo, .inr (6, [.int z0, .ref q1, .int (nI g), .ref q3, .ref q4, .ref q5, .ref q6, .int pr, .int gr, .int kd, .long w10, .ref q11, .int mk, .long w13, .long w14])), (q6, .inl (cI, 2, .inl (jl [nI n, nI n2])))] s.heap.size = A at hD ⊢
  have hA : ∀ q : Nat, s.heap.size ≤ q → A q := fun q h => by rw [← hAe]; exact Or.inr h
  have hS : va_S A s.heap s.heap [] := va_S.rf
  have hl := lv_entry ([.ref mo, .int 1, .int x, .int y]) (n := 5) (Nat.le_of_ble_eq_true rfl)
  rw [lg_entry_eq]
  generalize (lg_sl ([.ref mo, .int 1, .int x, .int y]) ++ List.replicate (5 - (lg_sl ([.ref mo, .int 1, .int x, .int y])).length) Slot.unset).toArray = ls at hl ⊢
  have hl : lv_has ls 5 [(0, .ref mo), (1, .int 1), (2, .int x), (3, .int y)] := hl
  refine lv_iload_n hx hb dX6_sorted_0 rfl (lv_at hl 1 rfl) ?_
  refine lv_if_eq (tgt := 8) hx hb dX6_sorted_1 (by decide) (fun c_1 => absurd c_1 (by decide)) (fun c_1 => ?_)
  refine lv_iconst (v := 0) hx hb dX6_sorted_4 (by decide) ?_
  refine lv_goto (tgt := 9) hx hb dX6_sorted_5 (by decide) ?_
  refine lv_istore (lv' := [(4, .int 0), (0, .ref mo), (1, .int 1), (2, .int x), (3, .int y)]) hx hb dX6_sorted_9 hl (by decide) rfl (fun ls hl => ?_)
  refine lv_aload_n hx hb dX6_sorted_11 rfl (lv_at hl 1 rfl) ?_
  refine lv_iload_n hx hb dX6_sorted_12 rfl (lv_at hl 3 rfl) ?_
  refine lv_if_lt (tgt := 36) hx hb dX6_sorted_13 (by decide) (fun c_2 => ?_) (fun c_2 => ?_)
  · refine lv_iconst (v := 1) hx hb dX6_sorted_36 (by decide) ?_
    refine lv_goto (tgt := 52) hx hb dX6_sorted_37 (by decide) ?_
    refine jw_i (wr := [(q6, .inl (cI, 2, .inl (jl [nI n, nI n2])))]) (va_runV (As := [.int 1]) (rest := []) ⟨hx, hb, hml, hown, hts⟩ (gM_refuses_1 l D cI cL cQ mo g q1 q3 q4 q5 q6 q11 z0 pr gr kd mk w10 w13 w14 _) (cwV 1 hts gX6_sorted_X6_refuses rfl rfl rfl (by decide +kernel) ⟨Nat.le_of_ble_eq_true rfl, Nat.le_of_ble_eq_true rfl⟩) (jw_V hK hN hP hD [0] (by decide) rfl 6 0 rfl rfl rfl) rfl rfl hl.1 rfl (lv_room (Nat.le_of_ble_eq_true rfl)) dX6_sorted_52 ⟨Nat.le_of_ble_eq_true rfl, Nat.le_of_ble_eq_true rfl⟩) hP hD hS hA [0] [1] rfl rfl (by decide) (by decide) (fun r u H locs f_3 hP hD hS => ?_)
    obtain ⟨rfl, rfl⟩ := f_3
    have hP : va_P D vwCl [(q6, .inl (cI, 2, .inl (jl [nI n, nI n2]))), (mo, .inr (6, [.int 1, .ref q1, .int (nI g), .ref q3, .ref q4, .ref q5, .ref q6, .int pr, .int gr, .int kd, .long w10, .ref q11, .int mk, .long w13, .long w14]))] H := hP
    have hD : va_D A [(q6, .inl (cI, 2, .inl (jl [nI n, nI n2]))), (mo, .inr (6, [.int 1, .ref q1, .int (nI g), .ref q3, .ref q4, .ref q5, .ref q6, .int pr, .int gr, .int kd, .long w10, .ref q11, .int mk, .long w13, .long w14]))] := hD
    refine lv_if_eq (tgt := 60) hx hb dX6_sorted_55 (by decide) (fun c_4 => absurd c_4 (by decide)) (fun c_4 => ?_)
    refine lv_iconst (v := 0) hx hb dX6_sorted_58 (by decide) ?_
    have hP := hP.sub (ws' := [(mo, .inr (6, [.int 1, .ref q1, .int (nI g), .ref q3, .ref q4, .ref q5, .ref q6, .int pr, .int gr, .int kd, .long w10, .ref q11, .int mk, .long w13, .long w14])), (q6, .inl (cI, 2, .inl (jl [nI n, nI n2])))]) [1, 0] rfl
    have hD := hD.sub (ws' := [(mo, .inr (6, [.int 1, .ref q1, .int (nI g), .ref q3, .ref q4, .ref q5, .ref q6, .int pr, .int gr, .int kd, .long w10, .ref q11, .int mk, .long w13, .long w14])), (q6, .inl (cI, 2, .inl (jl [nI n, nI n2])))]) [1, 0] (by decide) rfl
    refine W.widen (k := 0) (n := 0) (by omega) (by omega) ?_
    exact W.iret (v := 0) hx hb hr (fun t ht hW => ⟨⟨0, [(mo, .inr (6, [.int 1, .ref q1, .int (nI g), .ref q3, .ref q4, .ref q5, .ref q6, .int pr, .int gr, .int kd, .long w10, .ref q11, .int mk, .long w13, .long w14])), (q6, .inl (cI, 2, .inl (jl [nI n, nI n2])))], rfl, (by exact ⟨rfl, rfl⟩), by rw [ht]; exact hP, hD⟩, hS.F ht⟩) hS.2.2 dX6_sorted_59
  · refine lv_iload_n hx hb dX6_sorted_16 rfl (lv_at hl 3 rfl) ?_
    refine lv_aload_n hx hb dX6_sorted_17 rfl (lv_at hl 1 rfl) ?_
    refine va_get (D := D) (ci := 6) (v := .ref q6) (C := RX6) (T := TX6) (N := 15) hx hb hts (by decide +kernel) hown hK hP 0 rfl rfl 6 (by decide) (hts (.fieldLink RX6 22 "JoinDeskModel" "many" "[I") (by decide +kernel)) (fun _ h9 => h9) rfl dX6_sorted_18 ?_
    refine lv_iload hx hb dX6_sorted_21 (lv_at hl 0 rfl) ?_
    refine va_iald hx hb hK hP 1 0 rfl rfl (by unfold vp_in; decide) dX6_sorted_23 ?_
    refine W.eq (g2 := F0 m 24 ls [.int (nI n), .int x, .ref mo]) rfl ?_
    refine lv_icmp_ge (tgt := 36) hx hb dX6_sorted_24 (by decide) (fun c_5 => ?_) (fun c_5 => ?_)
    · refine lv_iconst (v := 1) hx hb dX6_sorted_36 (by decide) ?_
      refine lv_goto (tgt := 52) hx hb dX6_sorted_37 (by decide) ?_
      refine jw_i (wr := [(q6, .inl (cI, 2, .inl (jl [nI n, nI n2])))]) (va_runV (As := [.int 1]) (rest := []) ⟨hx, hb, hml, hown, hts⟩ (gM_refuses_1 l D cI cL cQ mo g q1 q3 q4 q5 q6 q11 z0 pr gr kd mk w10 w13 w14 _) (cwV 1 hts gX6_sorted_X6_refuses rfl rfl rfl (by decide +kernel) ⟨Nat.le_of_ble_eq_true rfl, Nat.le_of_ble_eq_true rfl⟩) (jw_V hK hN hP hD [0] (by decide) rfl 6 0 rfl rfl rfl) rfl rfl hl.1 rfl (lv_room (Nat.le_of_ble_eq_true rfl)) dX6_sorted_52 ⟨Nat.le_of_ble_eq_true rfl, Nat.le_of_ble_eq_true rfl⟩) hP hD hS hA [0] [1] rfl rfl (by decide) (by decide) (fun r u H locs f_6 hP hD hS => ?_)
      obtain ⟨rfl, rfl⟩ := f_6
      have hP : va_P D vwCl [(q6, .inl (cI, 2, .inl (jl [nI n, nI n2]))), (mo, .inr (6, [.int 1, .ref q1, .int (nI g), .ref q3, .ref q4, .ref q5, .ref q6, .int pr, .int gr, .int kd, .long w10, .ref q11, .int mk, .long w13, .long w14]))] H := hP
      have hD : va_D A [(q6, .inl (cI, 2, .inl (jl [nI n, nI n2]))), (mo, .inr (6, [.int 1, .ref q1, .int (nI g), .ref q3, .ref q4, .ref q5, .ref q6, .int pr, .int gr, .int kd, .long w10, .ref q11, .int mk, .long w13, .long w14]))] := hD
      refine lv_if_eq (tgt := 60) hx hb dX6_sorted_55 (by decide) (fun c_7 => absurd c_7 (by decide)) (fun c_7 => ?_)
      refine lv_iconst (v := 0) hx hb dX6_sorted_58 (by decide) ?_
      have hP := hP.sub (ws' := [(mo, .inr (6, [.int 1, .ref q1, .int (nI g), .ref q3, .ref q4, .ref q5, .ref q6, .int pr, .int gr, .int kd, .long w10, .ref q11, .int mk, .long w13, .long w14])), (q6, .inl (cI, 2, .inl (jl [nI n, nI n2])))]) [1, 0] rfl
      have hD := hD.sub (ws' := [(mo, .inr (6, [.int 1, .ref q1, .int (nI g), .ref q3, .ref q4, .ref q5, .ref q6, .int pr, .int gr, .int kd, .long w10, .ref q11, .int mk, .long w13, .long w14])), (q6, .inl (cI, 2, .inl (jl [nI n, nI n2])))]) [1, 0] (by decide) rfl
      refine W.widen (k := 0) (n := 0) (by omega) (by omega) ?_
      exact W.iret (v := 0) hx hb hr (fun t ht hW => ⟨⟨0, [(mo, .inr (6, [.int 1, .ref q1, .int (nI g), .ref q3, .ref q4, .ref q5, .ref q6, .int pr, .int gr, .int kd, .long w10, .ref q11, .int mk, .long w13, .long w14])), (q6, .inl (cI, 2, .inl (jl [nI n, nI n2])))], rfl, (by exact ⟨rfl, rfl⟩), by rw [ht]; exact hP, hD⟩, hS.F ht⟩) hS.2.2 dX6_sorted_59
    · refine lv_iload_n hx hb dX6_sorted_27 rfl (lv_at hl 4 rfl) ?_
      refine lv_if_lt (tgt := 36) hx hb dX6_sorted_28 (by decide) (fun c_8 => ?_) (fun c_8 => ?_)
      · refine lv_iconst (v := 1) hx hb dX6_sorted_36 (by decide) ?_
        refine lv_goto (tgt := 52) hx hb dX6_sorted_37 (by decide) ?_
        refine jw_i (wr := [(q6, .inl (cI, 2, .inl (jl [nI n, nI n2])))]) (va_runV (As := [.int 1]) (rest := []) ⟨hx, hb, hml, hown, hts⟩ (gM_refuses_1 l D cI cL cQ mo g q1 q3 q4 q5 q6 q11 z0 pr gr kd mk w10 w13 w14 _) (cwV 1 hts gX6_sorted_X6_refuses rfl rfl rfl (by decide +kernel) ⟨Nat.le_of_ble_eq_true rfl, Nat.le_of_ble_eq_true rfl⟩) (jw_V hK hN hP hD [0] (by decide) rfl 6 0 rfl rfl rfl) rfl rfl hl.1 rfl (lv_room (Nat.le_of_ble_eq_true rfl)) dX6_sorted_52 ⟨Nat.le_of_ble_eq_true rfl, Nat.le_of_ble_eq_true rfl⟩) hP hD hS hA [0] [1] rfl rfl (by decide) (by decide) (fun r u H locs f_9 hP hD hS => ?_)
        obtain ⟨rfl, rfl⟩ := f_9
        have hP : va_P D vwCl [(q6, .inl (cI, 2, .inl (jl [nI n, nI n2]))), (mo, .inr (6, [.int 1, .ref q1, .int (nI g), .ref q3, .ref q4, .ref q5, .ref q6, .int pr, .int gr, .int kd, .long w10, .ref q11, .int mk, .long w13, .long w14]))] H := hP
        have hD : va_D A [(q6, .inl (cI, 2, .inl (jl [nI n, nI n2]))), (mo, .inr (6, [.int 1, .ref q1, .int (nI g), .ref q3, .ref q4, .ref q5, .ref q6, .int pr, .int gr, .int kd, .long w10, .ref q11, .int mk, .long w13, .long w14]))] := hD
        refine lv_if_eq (tgt := 60) hx hb dX6_sorted_55 (by decide) (fun c_10 => absurd c_10 (by decide)) (fun c_10 => ?_)
        refine lv_iconst (v := 0) hx hb dX6_sorted_58 (by decide) ?_
        have hP := hP.sub (ws' := [(mo, .inr (6, [.int 1, .ref q1, .int (nI g), .ref q3, .ref q4, .ref q5, .ref q6, .int pr, .int gr, .int kd, .long w10, .ref q11, .int mk, .long w13, .long w14])), (q6, .inl (cI, 2, .inl (jl [nI n, nI n2])))]) [1, 0] rfl
        have hD := hD.sub (ws' := [(mo, .inr (6, [.int 1, .ref q1, .int (nI g), .ref q3, .ref q4, .ref q5, .ref q6, .int pr, .int gr, .int kd, .long w10, .ref q11, .int mk, .long w13, .long w14])), (q6, .inl (cI, 2, .inl (jl [nI n, nI n2])))]) [1, 0] (by decide) rfl
        refine W.widen (k := 0) (n := 0) (by omega) (by omega) ?_
        exact W.iret (v := 0) hx hb hr (fun t ht hW => ⟨⟨0, [(mo, .inr (6, [.int 1, .ref q1, .int (nI g), .ref q3, .ref q4, .ref q5, .ref q6, .int pr, .int gr, .int kd, .long w10, .ref q11, .int mk, .long w13, .long w14])), (q6, .inl (cI, 2, .inl (jl [nI n, nI n2])))], rfl, (by exact ⟨rfl, rfl⟩), by rw [ht]; exact hP, hD⟩, hS.F ht⟩) hS.2.2 dX6_sorted_59
      · refine lv_iload_n hx hb dX6_sorted_31 rfl (lv_at hl 4 rfl) ?_
        refine lv_iconst (v := 2) hx hb dX6_sorted_32 (by decide) ?_
        refine lv_icmp_le (tgt := 40) hx hb dX6_sorted_33 (by decide) (fun c_11 => absurd c_11 (by exact fun q => h1.elim (fun h => h.elim (by assumption) (by assumption)) (fun h => h.elim (by assumption) (fun z => j_nle z q)))) (fun c_11 => ?_)
        refine lv_iconst (v := 1) hx hb dX6_sorted_36 (by decide) ?_
        refine lv_goto (tgt := 52) hx hb dX6_sorted_37 (by decide) ?_
        refine jw_i (wr := [(q6, .inl (cI, 2, .inl (jl [nI n, nI n2])))]) (va_runV (As := [.int 1]) (rest := []) ⟨hx, hb, hml, hown, hts⟩ (gM_refuses_1 l D cI cL cQ mo g q1 q3 q4 q5 q6 q11 z0 pr gr kd mk w10 w13 w14 _) (cwV 1 hts gX6_sorted_X6_refuses rfl rfl rfl (by decide +kernel) ⟨Nat.le_of_ble_eq_true rfl, Nat.le_of_ble_eq_true rfl⟩) (jw_V hK hN hP hD [0] (by decide) rfl 6 0 rfl rfl rfl) rfl rfl hl.1 rfl (lv_room (Nat.le_of_ble_eq_true rfl)) dX6_sorted_52 ⟨Nat.le_of_ble_eq_true rfl, Nat.le_of_ble_eq_true rfl⟩) hP hD hS hA [0] [1] rfl rfl (by decide) (by decide) (fun r u H locs f_12 hP hD hS => ?_)
        obtain ⟨rfl, rfl⟩ := f_12
        have hP : va_P D vwCl [(q6, .inl (cI, 2, .inl (jl [nI n, nI n2]))), (mo, .inr (6, [.int 1, .ref q1, .int (nI g), .ref q3, .ref q4, .ref q5, .ref q6, .int pr, .int gr, .int kd, .long w10, .ref q11, .int mk, .long w13, .long w14]))] H := hP
        have hD : va_D A [(q6, .inl (cI, 2, .inl (jl [nI n, nI n2]))), (mo, .inr (6, [.int 1, .ref q1, .int (nI g), .ref q3, .ref q4, .ref q5, .ref q6, .int pr, .int gr, .int kd, .long w10, .ref q11, .int mk, .long w13, .long w14]))] := hD
        refine lv_if_eq (tgt := 60) hx hb dX6_sorted_55 (by decide) (fun c_13 => absurd c_13 (by decide)) (fun c_13 => ?_)
        refine lv_iconst (v := 0) hx hb dX6_sorted_58 (by decide) ?_
        have hP := hP.sub (ws' := [(mo, .inr (6, [.int 1, .ref q1, .int (nI g), .ref q3, .ref q4, .ref q5, .ref q6, .int pr, .int gr, .int kd, .long w10, .ref q11, .int mk, .long w13, .long w14])), (q6, .inl (cI, 2, .inl (jl [nI n, nI n2])))]) [1, 0] rfl
        have hD := hD.sub (ws' := [(mo, .inr (6, [.int 1, .ref q1, .int (nI g), .ref q3, .ref q4, .ref q5, .ref q6, .int pr, .int gr, .int kd, .long w10, .ref q11, .int mk, .long w13, .long w14])), (q6, .inl (cI, 2, .inl (jl [nI n, nI n2])))]) [1, 0] (by decide) rfl
        refine W.widen (k := 0) (n := 0) (by omega) (by omega) ?_
        exact W.iret (v := 0) hx hb hr (fun t ht hW => ⟨⟨0, [(mo, .inr (6, [.int 1, .ref q1, .int (nI g), .ref q3, .ref q4, .ref q5, .ref q6, .int pr, .int gr, .int kd, .long w10, .ref q11, .int mk, .long w13, .long w14])), (q6, .inl (cI, 2, .inl (jl [nI n, nI n2])))], rfl, (by exact ⟨rfl, rfl⟩), by rw [ht]; exact hP, hD⟩, hS.F ht⟩) hS.2.2 dX6_sorted_59
set_option maxHeartbeats 1000000 in
set_option maxRecDepth 100000 in
theorem gM_sorted_1s (l : Launch) (D : va_G) (cI cL cQ : ClassId) (mo : Nat) (g : Nat) (n : Nat) (n2 : Nat) (q1 : Nat) (q3 : Nat) (q4 : Nat) (q5 : Nat) (q6 : Nat) (q11 : Nat) (z0 : Int32) (gr : Int32) (kd : Int32) (mk : Int32) (w10 : Int64) (w13 : Int64) (w14 : Int64) (x : Int32) (y : Int32) (sz : Nat) (h1 : ¬ x < 0) (h2 : ¬ nI n ≤ x) (h3 : ¬ y < 0) (h4 : y ≤ 2) : Met l yX6_sorted wsX6_sorted ({ frames := 1, cells := 0, slots := 0, locals := 21 }) (jw_P D vwCl (jT cI cL cQ) cL cQ [.ref mo, .int 1, .int x, .int y] [(mo, .inr (6, [.int z0, .ref q1, .int (nI g), .ref q3, .ref q4, .ref q5, .ref q6, .int 0, .int gr, .int kd, .long w10, .ref q11, .int mk, .long w13, .long w14])), (q6, .inl (cI, 2, .inl (jl [nI n, nI n2])))] sz) (va_Qi (fun (r : Int32) (u : va_W) => r = 0 ∧ u = [(mo, .inr (6, [.int 2, .ref q1, .int (nI g), .ref q3, .ref q4, .ref q5, .ref q6, .int 0, .int gr, .int kd, .long w10, .ref q11, .int mk, .long w13, .long w14])), (q6, .inl (cI, 2, .inl (jl [nI n, nI n2])))]) (jw_B D vwCl (va_A [(mo, .inr (6, [.int z0, .ref q1, .int (nI g), .ref q3, .ref q4, .ref q5, .ref q6, .int 0, .int gr, .int kd, .long w10, .ref q11, .int mk, .long w13, .long w14])), (q6, .inl (cI, 2, .inl (jl [nI n, nI n2])))] sz) (fun u : va_W => u)) (va_A [(mo, .inr (6, [.int z0, .ref q1, .int (nI g), .ref q3, .ref q4, .ref q5, .ref q6, .int 0, .int gr, .int kd, .long w10, .ref q11, .int mk, .long w13, .long w14])), (q6, .inl (cI, 2, .inl (jl [nI n, nI n2])))] sz)) 0 0 (va_A [(mo, .inr (6, [.int z0, .ref q1, .int (nI g), .ref q3, .ref q4, .ref q5, .ref q6, .int 0, .int gr, .int kd, .long w10, .ref q11, .int mk, .long w13, .long w14])), (q6, .inl (cI, 2, .inl (jl [nI n, nI n2])))] sz) := by
  refine Met.ofW (cc := cX6_sorted) (maxL := 5) (ret := (some .int)) (by decide) rfl ?_
  intro p e s m args below meth c s₁ B hml hv
  obtain ⟨rfl, hsz, hP, hK, hN, hD0⟩ := hv
  have hx := B.exec
  have hb := B.bytes
  have hr := B.returns
  have hts := atoms_spec (ws := wsX6_sorted) B.pre
  have hown : s.vm.findClass RX6 = some m.cls := findClass_of_methodNamed B.named
  have hlocks := B.notSynchronized
  subst hsz
  have hD := hD0.self (sz := s.heap.size)
  generalize hAe : va_A [(mo, .inr (6, [.int z0, .ref q1, .int (nI g), .ref q3, .ref q4, .ref q5, .ref q6, .int 0, .int gr, .int kd, .long w10, .ref q11, .int mk, .long w13, .long w14])), (q6, .inl (cI, 2, .inl (jl [nI n, nI n2])))] s.heap.size = A at hD ⊢
  have hA : ∀ q : Nat, s.heap.size ≤ q → A q := fun q h => by rw [← hAe]; exact Or.inr h
  have hS : va_S A s.heap s.heap [] := va_S.rf
  have hl := lv_entry ([.ref mo, .int 1, .int x, .int y]) (n := 5) (Nat.le_of_ble_eq_true rfl)
  rw [lg_entry_eq]
  generalize (lg_sl ([.ref mo, .int 1, .int x, .int y]) ++ List.replicate (5 - (lg_sl ([.ref mo, .int 1, .int x, .int y])).length) Slot.unset).toArray = ls at hl ⊢
  have hl : lv_has ls 5 [(0, .ref mo), (1, .int 1), (2, .int x), (3, .int y)] := hl
  refine lv_iload_n hx hb dX6_sorted_0 rfl (lv_at hl 1 rfl) ?_
  refine lv_if_eq (tgt := 8) hx hb dX6_sorted_1 (by decide) (fun c_1 => absurd c_1 (by decide)) (fun c_1 => ?_)
  refine lv_iconst (v := 0) hx hb dX6_sorted_4 (by decide) ?_
  refine lv_goto (tgt := 9) hx hb dX6_sorted_5 (by decide) ?_
  refine lv_istore (lv' := [(4, .int 0), (0, .ref mo), (1, .int 1), (2, .int x), (3, .int y)]) hx hb dX6_sorted_9 hl (by decide) rfl (fun ls hl => ?_)
  refine lv_aload_n hx hb dX6_sorted_11 rfl (lv_at hl 1 rfl) ?_
  refine lv_iload_n hx hb dX6_sorted_12 rfl (lv_at hl 3 rfl) ?_
  refine lv_if_lt (tgt := 36) hx hb dX6_sorted_13 (by decide) (fun c_2 => absurd c_2 (by exact h1)) (fun c_2 => ?_)
  refine lv_iload_n hx hb dX6_sorted_16 rfl (lv_at hl 3 rfl) ?_
  refine lv_aload_n hx hb dX6_sorted_17 rfl (lv_at hl 1 rfl) ?_
  refine va_get (D := D) (ci := 6) (v := .ref q6) (C := RX6) (T := TX6) (N := 15) hx hb hts (by decide +kernel) hown hK hP 0 rfl rfl 6 (by decide) (hts (.fieldLink RX6 22 "JoinDeskModel" "many" "[I") (by decide +kernel)) (fun _ h9 => h9) rfl dX6_sorted_18 ?_
  refine lv_iload hx hb dX6_sorted_21 (lv_at hl 0 rfl) ?_
  refine va_iald hx hb hK hP 1 0 rfl rfl (by unfold vp_in; decide) dX6_sorted_23 ?_
  refine W.eq (g2 := F0 m 24 ls [.int (nI n), .int x, .ref mo]) rfl ?_
  refine lv_icmp_ge (tgt := 36) hx hb dX6_sorted_24 (by decide) (fun c_3 => absurd c_3 (by exact h2)) (fun c_3 => ?_)
  refine lv_iload_n hx hb dX6_sorted_27 rfl (lv_at hl 4 rfl) ?_
  refine lv_if_lt (tgt := 36) hx hb dX6_sorted_28 (by decide) (fun c_4 => absurd c_4 (by exact h3)) (fun c_4 => ?_)
  refine lv_iload_n hx hb dX6_sorted_31 rfl (lv_at hl 4 rfl) ?_
  refine lv_iconst (v := 2) hx hb dX6_sorted_32 (by decide) ?_
  refine lv_icmp_le (tgt := 40) hx hb dX6_sorted_33 (by decide) (fun c_5 => ?_) (fun c_5 => absurd c_5 (by exact fun h => h h4))
  refine lv_aload_n hx hb dX6_sorted_40 rfl (lv_at hl 1 rfl) ?_
  refine va_get (D := D) (ci := 6) (v := .int 0) (C := RX6) (T := TX6) (N := 15) hx hb hts (by decide +kernel) hown hK hP 0 rfl rfl 7 (by decide) (hts (.fieldLink RX6 43 "JoinDeskModel" "prepared" "Z") (by decide +kernel)) (fun _ h9 => h9) rfl dX6_sorted_41 ?_
  refine lv_if_eq (tgt := 51) hx hb dX6_sorted_44 (by decide) (fun c_6 => ?_) (fun c_6 => absurd c_6 (by decide))
  refine lv_iconst (v := 2) hx hb dX6_sorted_51 (by decide) ?_
  refine jw_i (wr := [(q6, .inl (cI, 2, .inl (jl [nI n, nI n2])))]) (va_runV (As := [.int 2]) (rest := []) ⟨hx, hb, hml, hown, hts⟩ (gM_refuses_2 l D cI cL cQ mo g q1 q3 q4 q5 q6 q11 z0 0 gr kd mk w10 w13 w14 _) (cwV 1 hts gX6_sorted_X6_refuses rfl rfl rfl (by decide +kernel) ⟨Nat.le_of_ble_eq_true rfl, Nat.le_of_ble_eq_true rfl⟩) (jw_V hK hN hP hD [0] (by decide) rfl 6 0 rfl rfl rfl) rfl rfl hl.1 rfl (lv_room (Nat.le_of_ble_eq_true rfl)) dX6_sorted_52 ⟨Nat.le_of_ble_eq_true rfl, Nat.le_of_ble_eq_true rfl⟩) hP hD hS hA [0] [1] rfl rfl (by decide) (by decide) (fun r u H locs f_7 hP hD hS => ?_)
  obtain ⟨rfl, rfl⟩ := f_7
  have hP : va_P D vwCl [(q6, .inl (cI, 2, .inl (jl [nI n, nI n2]))), (mo, .inr (6, [.int 2, .ref q1, .int (nI g), .ref q3, .ref q4, .ref q5, .ref q6, .int 0, .int gr, .int kd, .long w10, .ref q11, .int mk, .long w13, .long w14]))] H := hP
  have hD : va_D A [(q6, .inl (cI, 2, .inl (jl [nI n, nI n2]))), (mo, .inr (6, [.int 2, .ref q1, .int (nI g), .ref q3, .ref q4, .ref q5, .ref q6, .int 0, .int gr, .int kd, .long w10, .ref q11, .int mk, .long w13, .long w14]))] := hD
  refine lv_if_eq (tgt := 60) hx hb dX6_sorted_55 (by decide) (fun c_8 => absurd c_8 (by decide)) (fun c_8 => ?_)
  refine lv_iconst (v := 0) hx hb dX6_sorted_58 (by decide) ?_
  have hP := hP.sub (ws' := [(mo, .inr (6, [.int 2, .ref q1, .int (nI g), .ref q3, .ref q4, .ref q5, .ref q6, .int 0, .int gr, .int kd, .long w10, .ref q11, .int mk, .long w13, .long w14])), (q6, .inl (cI, 2, .inl (jl [nI n, nI n2])))]) [1, 0] rfl
  have hD := hD.sub (ws' := [(mo, .inr (6, [.int 2, .ref q1, .int (nI g), .ref q3, .ref q4, .ref q5, .ref q6, .int 0, .int gr, .int kd, .long w10, .ref q11, .int mk, .long w13, .long w14])), (q6, .inl (cI, 2, .inl (jl [nI n, nI n2])))]) [1, 0] (by decide) rfl
  refine W.widen (k := 0) (n := 0) (by omega) (by omega) ?_
  exact W.iret (v := 0) hx hb hr (fun t ht hW => ⟨⟨0, [(mo, .inr (6, [.int 2, .ref q1, .int (nI g), .ref q3, .ref q4, .ref q5, .ref q6, .int 0, .int gr, .int kd, .long w10, .ref q11, .int mk, .long w13, .long w14])), (q6, .inl (cI, 2, .inl (jl [nI n, nI n2])))], rfl, (by exact ⟨rfl, rfl⟩), by rw [ht]; exact hP, hD⟩, hS.F ht⟩) hS.2.2 dX6_sorted_59
set_option maxHeartbeats 1000000 in
set_option maxRecDepth 100000 in
theorem gM_sorted_10 (l : Launch) (D : va_G) (cI cL cQ : ClassId) (mo : Nat) (g : Nat) (n : Nat) (n2 : Nat) (q1 : Nat) (q3 : Nat) (q4 : Nat) (q5 : Nat) (q6 : Nat) (q11 : Nat) (z0 : Int32) (gr : Int32) (kd : Int32) (mk : Int32) (w10 : Int64) (w13 : Int64) (w14 : Int64) (m3 : Nat → Int32) (m4 : Nat → Int32) (m5 : Nat → Int32) (i : Nat) (sz : Nat) (hn : n ≤ 400) (h5 : jo5 m5) (hi : i < n) : Met l yX6_sorted wsX6_sorted ({ frames := 1, cells := 0, slots := 0, locals := 22 }) (jw_P D vwCl (jT cI cL cQ) cL cQ [.ref mo, .int 1, .int (nI i), .int 0] [(mo, .inr (6, [.int z0, .ref q1, .int (nI g), .ref q3, .ref q4, .ref q5, .ref q6, .int 1, .int gr, .int kd, .long w10, .ref q11, .int mk, .long w13, .long w14])), (q3, .inl (cI, 800, .inl m3)), (q4, .inl (cI, 800, .inl m4)), (q5, .inl (cI, 800, .inl m5)), (q6, .inl (cI, 2, .inl (jl [nI n, nI n2])))] sz) (va_Qi (fun (r : Int32) (u : va_W) => r = jmk 0 m3 m5 i ∧ u = [(mo, .inr (6, [.int 0, .ref q1, .int (nI g), .ref q3, .ref q4, .ref q5, .ref q6, .int 1, .int gr, .int kd, .long w10, .ref q11, .int mk, .long w13, .long w14])), (q3, .inl (cI, 800, .inl m3)), (q4, .inl (cI, 800, .inl m4)), (q5, .inl (cI, 800, .inl m5)), (q6, .inl (cI, 2, .inl (jl [nI n, nI n2])))]) (jw_B D vwCl (va_A [(mo, .inr (6, [.int z0, .ref q1, .int (nI g), .ref q3, .ref q4, .ref q5, .ref q6, .int 1, .int gr, .int kd, .long w10, .ref q11, .int mk, .long w13, .long w14])), (q3, .inl (cI, 800, .inl m3)), (q4, .inl (cI, 800, .inl m4)), (q5, .inl (cI, 800, .inl m5)), (q6, .inl (cI, 2, .inl (jl [nI n, nI n2])))] sz) (fun u : va_W => u)) (va_A [(mo, .inr (6, [.int z0, .ref q1, .int (nI g), .ref q3, .ref q4, .ref q5, .ref q6, .int 1, .int gr, .int kd, .long w10, .ref q11, .int mk, .long w13, .long w14])), (q3, .inl (cI, 800, .inl m3)), (q4, .inl (cI, 800, .inl m4)), (q5, .inl (cI, 800, .inl m5)), (q6, .inl (cI, 2, .inl (jl [nI n, nI n2])))] sz)) 0 0 (va_A [(mo, .inr (6, [.int z0, .ref q1, .int (nI g), .ref q3, .ref q4, .ref q5, .ref q6, .int 1, .int gr, .int kd, .long w10, .ref q11, .int mk, .long w13, .long w14])), (q3, .inl (cI, 800, .inl m3)), (q4, .inl (cI, 800, .inl m4)), (q5, .inl (cI, 800, .inl m5)), (q6, .inl (cI, 2, .inl (jl [nI n, nI n2])))] sz) := by
  refine Met.ofW (cc := cX6_sorted) (maxL := 5) (ret := (some .int)) (by decide) rfl ?_
  intro p e s m args below meth c s₁ B hml hv
  obtain ⟨rfl, hsz, hP, hK, hN, hD0⟩ := hv
  have hx := B.exec
  have hb := B.bytes
  have hr := B.returns
  have hts := atoms_spec (ws := wsX6_sorted) B.pre
  have hown : s.vm.findClass RX6 = some m.cls := findClass_of_methodNamed B.named
  have hlocks := B.notSynchronized
  subst hsz
  have hD := hD0.self (sz := s.heap.size)
  generalize hAe : va_A [(mo, .inr (6, [.int z0, .ref q1, .int (nI g), .ref q3, .ref q4, .ref q5, .ref q6, .int 1, .int gr, .int kd, .long w10, .ref q11, .int mk, .long w13, .long w14])), (q3, .inl (cI, 800, .inl m3)), (q4, .inl (cI, 800, .inl m4)), (q5, .inl (cI, 800, .inl m5)), (q6, .inl (cI, 2, .inl (jl [nI n, nI n2])))] s.heap.size = A at hD ⊢
  have hA : ∀ q : Nat, s.heap.size ≤ q → A q := fun q h => by rw [← hAe]; exact Or.inr h
  have hS : va_S A s.heap s.heap [] := va_S.rf
  have hl := lv_entry ([.ref mo, .int 1, .int (nI i), .int 0]) (n := 5) (Nat.le_of_ble_eq_true rfl)
  rw [lg_entry_eq]
  generalize (lg_sl ([.ref mo, .int 1, .int (nI i), .int 0]) ++ List.replicate (5 - (lg_sl ([.ref mo, .int 1, .int (nI i), .int 0])).length) Slot.unset).toArray = ls at hl ⊢
  have hl : lv_has ls 5 [(0, .ref mo), (1, .int 1), (2, .int (nI i)), (3, .int 0)] := hl
  refine lv_iload_n hx hb dX6_sorted_0 rfl (lv_at hl 1 rfl) ?_
  refine lv_if_eq (tgt := 8) hx hb dX6_sorted_1 (by decide) (fun c_1 => absurd c_1 (by decide)) (fun c_1 => ?_)
  refine lv_iconst (v := 0) hx hb dX6_sorted_4 (by decide) ?_
  refine lv_goto (tgt := 9) hx hb dX6_sorted_5 (by decide) ?_
  refine lv_istore (lv' := [(4, .int 0), (0, .ref mo), (1, .int 1), (2, .int (nI i)), (3, .int 0)]) hx hb dX6_sorted_9 hl (by decide) rfl (fun ls hl => ?_)
  refine lv_aload_n hx hb dX6_sorted_11 rfl (lv_at hl 1 rfl) ?_
  refine lv_iload_n hx hb dX6_sorted_12 rfl (lv_at hl 3 rfl) ?_
  refine lv_if_lt (tgt := 36) hx hb dX6_sorted_13 (by decide) (fun c_2 => absurd c_2 (by exact nI_pos (by omega))) (fun c_2 => ?_)
  refine lv_iload_n hx hb dX6_sorted_16 rfl (lv_at hl 3 rfl) ?_
  refine lv_aload_n hx hb dX6_sorted_17 rfl (lv_at hl 1 rfl) ?_
  refine va_get (D := D) (ci := 6) (v := .ref q6) (C := RX6) (T := TX6) (N := 15) hx hb hts (by decide +kernel) hown hK hP 0 rfl rfl 6 (by decide) (hts (.fieldLink RX6 22 "JoinDeskModel" "many" "[I") (by decide +kernel)) (fun _ h9 => h9) rfl dX6_sorted_18 ?_
  refine lv_iload hx hb dX6_sorted_21 (lv_at hl 0 rfl) ?_
  refine va_iald hx hb hK hP 4 0 rfl rfl (by unfold vp_in; decide) dX6_sorted_23 ?_
  refine W.eq (g2 := F0 m 24 ls [.int (nI n), .int (nI i), .ref mo]) rfl ?_
  refine lv_icmp_ge (tgt := 36) hx hb dX6_sorted_24 (by decide) (fun c_3 => absurd c_3 (by exact nI_ge hi (by omega))) (fun c_3 => ?_)
  refine lv_iload_n hx hb dX6_sorted_27 rfl (lv_at hl 4 rfl) ?_
  refine lv_if_lt (tgt := 36) hx hb dX6_sorted_28 (by decide) (fun c_4 => absurd c_4 (by decide)) (fun c_4 => ?_)
  refine lv_iload_n hx hb dX6_sorted_31 rfl (lv_at hl 4 rfl) ?_
  refine lv_iconst (v := 2) hx hb dX6_sorted_32 (by decide) ?_
  refine lv_icmp_le (tgt := 40) hx hb dX6_sorted_33 (by decide) (fun c_5 => ?_) (fun c_5 => absurd c_5 (by decide))
  refine lv_aload_n hx hb dX6_sorted_40 rfl (lv_at hl 1 rfl) ?_
  refine va_get (D := D) (ci := 6) (v := .int 1) (C := RX6) (T := TX6) (N := 15) hx hb hts (by decide +kernel) hown hK hP 0 rfl rfl 7 (by decide) (hts (.fieldLink RX6 43 "JoinDeskModel" "prepared" "Z") (by decide +kernel)) (fun _ h9 => h9) rfl dX6_sorted_41 ?_
  refine lv_if_eq (tgt := 51) hx hb dX6_sorted_44 (by decide) (fun c_6 => absurd c_6 (by decide)) (fun c_6 => ?_)
  refine lv_iconst (v := 0) hx hb dX6_sorted_47 (by decide) ?_
  refine lv_goto (tgt := 52) hx hb dX6_sorted_48 (by decide) ?_
  refine jw_i (wr := [(q3, .inl (cI, 800, .inl m3)), (q4, .inl (cI, 800, .inl m4)), (q5, .inl (cI, 800, .inl m5)), (q6, .inl (cI, 2, .inl (jl [nI n, nI n2])))]) (va_runV (As := [.int 0]) (rest := []) ⟨hx, hb, hml, hown, hts⟩ (gM_refuses_0 l D cI cL cQ mo g q1 q3 q4 q5 q6 q11 z0 1 gr kd mk w10 w13 w14 _) (cwV 1 hts gX6_sorted_X6_refuses rfl rfl rfl (by decide +kernel) ⟨Nat.le_of_ble_eq_true rfl, Nat.le_of_ble_eq_true rfl⟩) (jw_V hK hN hP hD [0] (by decide) rfl 6 0 rfl rfl rfl) rfl rfl hl.1 rfl (lv_room (Nat.le_of_ble_eq_true rfl)) dX6_sorted_52 ⟨Nat.le_of_ble_eq_true rfl, Nat.le_of_ble_eq_true rfl⟩) hP hD hS hA [0] [1, 2, 3, 4] rfl rfl (by decide) (by decide) (fun r u H locs f_7 hP hD hS => ?_)
  obtain ⟨rfl, rfl⟩ := f_7
  have hP : va_P D vwCl [(q3, .inl (cI, 800, .inl m3)), (q4, .inl (cI, 800, .inl m4)), (q5, .inl (cI, 800, .inl m5)), (q6, .inl (cI, 2, .inl (jl [nI n, nI n2]))), (mo, .inr (6, [.int 0, .ref q1, .int (nI g), .ref q3, .ref q4, .ref q5, .ref q6, .int 1, .int gr, .int kd, .long w10, .ref q11, .int mk, .long w13, .long w14]))] H := hP
  have hD : va_D A [(q3, .inl (cI, 800, .inl m3)), (q4, .inl (cI, 800, .inl m4)), (q5, .inl (cI, 800, .inl m5)), (q6, .inl (cI, 2, .inl (jl [nI n, nI n2]))), (mo, .inr (6, [.int 0, .ref q1, .int (nI g), .ref q3, .ref q4, .ref q5, .ref q6, .int 1, .int gr, .int kd, .long w10, .ref q11, .int mk, .long w13, .long w14]))] := hD
  refine lv_if_eq (tgt := 60) hx hb dX6_sorted_55 (by decide) (fun c_8 => ?_) (fun c_8 => absurd c_8 (by decide))
  refine lv_iload_n hx hb dX6_sorted_60 rfl (lv_at hl 4 rfl) ?_
  refine lv_if_ne (tgt := 74) hx hb dX6_sorted_61 (by decide) (fun c_9 => absurd c_9 (by decide)) (fun c_9 => ?_)
  refine lv_aload_n hx hb dX6_sorted_64 rfl (lv_at hl 1 rfl) ?_
  refine lv_iload hx hb dX6_sorted_65 (lv_at hl 0 rfl) ?_
  refine lv_iload_n hx hb dX6_sorted_67 rfl (lv_at hl 3 rfl) ?_
  refine vp_callSi (va_Run.run (va_runV (As := [.int 0, .int (nI i)]) (rest := []) ⟨hx, hb, hml, hown, hts⟩ (gM_key_0 l D cI cL cQ mo g q1 q3 q4 q5 q6 q11 0 1 gr kd mk w10 w13 w14 m3 m5 i (by first | assumption | decide | omega) (by omega)) (cwV 2 hts gX6_sorted_X6_key rfl rfl rfl (by decide +kernel) ⟨Nat.le_of_ble_eq_true rfl, Nat.le_of_ble_eq_true rfl⟩) (jr_V hK hN hP [4, 0, 2] rfl 6 4 rfl rfl rfl) rfl rfl hl.1 rfl (lv_room (Nat.le_of_ble_eq_true rfl)) dX6_sorted_68 ⟨Nat.le_of_ble_eq_true rfl, Nat.le_of_ble_eq_true rfl⟩)) (fun r f_10 => ?_)
  obtain rfl := f_10
  refine lv_goto (tgt := 102) hx hb dX6_sorted_71 (by decide) ?_
  have hP := hP.sub (ws' := [(mo, .inr (6, [.int 0, .ref q1, .int (nI g), .ref q3, .ref q4, .ref q5, .ref q6, .int 1, .int gr, .int kd, .long w10, .ref q11, .int mk, .long w13, .long w14])), (q3, .inl (cI, 800, .inl m3)), (q4, .inl (cI, 800, .inl m4)), (q5, .inl (cI, 800, .inl m5)), (q6, .inl (cI, 2, .inl (jl [nI n, nI n2])))]) [4, 0, 1, 2, 3] rfl
  have hD := hD.sub (ws' := [(mo, .inr (6, [.int 0, .ref q1, .int (nI g), .ref q3, .ref q4, .ref q5, .ref q6, .int 1, .int gr, .int kd, .long w10, .ref q11, .int mk, .long w13, .long w14])), (q3, .inl (cI, 800, .inl m3)), (q4, .inl (cI, 800, .inl m4)), (q5, .inl (cI, 800, .inl m5)), (q6, .inl (cI, 2, .inl (jl [nI n, nI n2])))]) [4, 0, 1, 2, 3] (by decide) rfl
  refine W.widen (k := 0) (n := 0) (by omega) (by omega) ?_
  exact W.iret (v := jmk 0 m3 m5 i) hx hb hr (fun t ht hW => ⟨⟨(jmk 0 m3 m5 i), [(mo, .inr (6, [.int 0, .ref q1, .int (nI g), .ref q3, .ref q4, .ref q5, .ref q6, .int 1, .int gr, .int kd, .long w10, .ref q11, .int mk, .long w13, .long w14])), (q3, .inl (cI, 800, .inl m3)), (q4, .inl (cI, 800, .inl m4)), (q5, .inl (cI, 800, .inl m5)), (q6, .inl (cI, 2, .inl (jl [nI n, nI n2])))], rfl, (⟨rfl, rfl⟩), by rw [ht]; exact hP, hD⟩, hS.F ht⟩) hS.2.2 dX6_sorted_102
set_option maxHeartbeats 1000000 in
set_option maxRecDepth 100000 in
theorem gM_sorted_11 (l : Launch) (D : va_G) (cI cL cQ : ClassId) (mo : Nat) (g : Nat) (n : Nat) (n2 : Nat) (q1 : Nat) (q3 : Nat) (q4 : Nat) (q5 : Nat) (q6 : Nat) (q11 : Nat) (z0 : Int32) (gr : Int32) (kd : Int32) (mk : Int32) (w10 : Int64) (w13 : Int64) (w14 : Int64) (m3 : Nat → Int32) (m4 : Nat → Int32) (m5 : Nat → Int32) (i : Nat) (sz : Nat) (hn : n ≤ 400) (h5 : jo5 m5) (hi : i < n) : Met l yX6_sorted wsX6_sorted ({ frames := 1, cells := 0, slots := 0, locals := 22 }) (jw_P D vwCl (jT cI cL cQ) cL cQ [.ref mo, .int 1, .int (nI i), .int 1] [(mo, .inr (6, [.int z0, .ref q1, .int (nI g), .ref q3, .ref q4, .ref q5, .ref q6, .int 1, .int gr, .int kd, .long w10, .ref q11, .int mk, .long w13, .long w14])), (q3, .inl (cI, 800, .inl m3)), (q4, .inl (cI, 800, .inl m4)), (q5, .inl (cI, 800, .inl m5)), (q6, .inl (cI, 2, .inl (jl [nI n, nI n2])))] sz) (va_Qi (fun (r : Int32) (u : va_W) => r = jmk 0 m4 m5 i ∧ u = [(mo, .inr (6, [.int 0, .ref q1, .int (nI g), .ref q3, .ref q4, .ref q5, .ref q6, .int 1, .int gr, .int kd, .long w10, .ref q11, .int mk, .long w13, .long w14])), (q3, .inl (cI, 800, .inl m3)), (q4, .inl (cI, 800, .inl m4)), (q5, .inl (cI, 800, .inl m5)), (q6, .inl (cI, 2, .inl (jl [nI n, nI n2])))]) (jw_B D vwCl (va_A [(mo, .inr (6, [.int z0, .ref q1, .int (nI g), .ref q3, .ref q4, .ref q5, .ref q6, .int 1, .int gr, .int kd, .long w10, .ref q11, .int mk, .long w13, .long w14])), (q3, .inl (cI, 800, .inl m3)), (q4, .inl (cI, 800, .inl m4)), (q5, .inl (cI, 800, .inl m5)), (q6, .inl (cI, 2, .inl (jl [nI n, nI n2])))] sz) (fun u : va_W => u)) (va_A [(mo, .inr (6, [.int z0, .ref q1, .int (nI g), .ref q3, .ref q4, .ref q5, .ref q6, .int 1, .int gr, .int kd, .long w10, .ref q11, .int mk, .long w13, .long w14])), (q3, .inl (cI, 800, .inl m3)), (q4, .inl (cI, 800, .inl m4)), (q5, .inl (cI, 800, .inl m5)), (q6, .inl (cI, 2, .inl (jl [nI n, nI n2])))] sz)) 0 0 (va_A [(mo, .inr (6, [.int z0, .ref q1, .int (nI g), .ref q3, .ref q4, .ref q5, .ref q6, .int 1, .int gr, .int kd, .long w10, .ref q11, .int mk, .long w13, .long w14])), (q3, .inl (cI, 800, .inl m3)), (q4, .inl (cI, 800, .inl m4)), (q5, .inl (cI, 800, .inl m5)), (q6, .inl (cI, 2, .inl (jl [nI n, nI n2])))] sz) := by
  refine Met.ofW (cc := cX6_sorted) (maxL := 5) (ret := (some .int)) (by decide) rfl ?_
  intro p e s m args below meth c s₁ B hml hv
  obtain ⟨rfl, hsz, hP, hK, hN, hD0⟩ := hv
  have hx := B.exec
  have hb := B.bytes
  have hr := B.returns
  have hts := atoms_spec (ws := wsX6_sorted) B.pre
  have hown : s.vm.findClass RX6 = some m.cls := findClass_of_methodNamed B.named
  have hlocks := B.notSynchronized
  subst hsz
  have hD := hD0.self (sz := s.heap.size)
  generalize hAe : va_A [(mo, .inr (6, [.int z0, .ref q1, .int (nI g), .ref q3, .ref q4, .ref q5, .ref q6, .int 1, .int gr, .int kd, .long w10, .ref q11, .int mk, .long w13, .long w14])), (q3, .inl (cI, 800, .inl m3)), (q4, .inl (cI, 800, .inl m4)), (q5, .inl (cI, 800, .inl m5)), (q6, .inl (cI, 2, .inl (jl [nI n, nI n2])))] s.heap.size = A at hD ⊢
  have hA : ∀ q : Nat, s.heap.size ≤ q → A q := fun q h => by rw [← hAe]; exact Or.inr h
  have hS : va_S A s.heap s.heap [] := va_S.rf
  have hl := lv_entry ([.ref mo, .int 1, .int (nI i), .int 1]) (n := 5) (Nat.le_of_ble_eq_true rfl)
  rw [lg_entry_eq]
  generalize (lg_sl ([.ref mo, .int 1, .int (nI i), .int 1]) ++ List.replicate (5 - (lg_sl ([.ref mo, .int 1, .int (nI i), .int 1])).length) Slot.unset).toArray = ls at hl ⊢
  have hl : lv_has ls 5 [(0, .ref mo), (1, .int 1), (2, .int (nI i)), (3, .int 1)] := hl
  refine lv_iload_n hx hb dX6_sorted_0 rfl (lv_at hl 1 rfl) ?_
  refine lv_if_eq (tgt := 8) hx hb dX6_sorted_1 (by decide) (fun c_1 => absurd c_1 (by decide)) (fun c_1 => ?_)
  refine lv_iconst (v := 0) hx hb dX6_sorted_4 (by decide) ?_
  refine lv_goto (tgt := 9) hx hb dX6_sorted_5 (by decide) ?_
  refine lv_istore (lv' := [(4, .int 0), (0, .ref mo), (1, .int 1), (2, .int (nI i)), (3, .int 1)]) hx hb dX6_sorted_9 hl (by decide) rfl (fun ls hl => ?_)
  refine lv_aload_n hx hb dX6_sorted_11 rfl (lv_at hl 1 rfl) ?_
  refine lv_iload_n hx hb dX6_sorted_12 rfl (lv_at hl 3 rfl) ?_
  refine lv_if_lt (tgt := 36) hx hb dX6_sorted_13 (by decide) (fun c_2 => absurd c_2 (by exact nI_pos (by omega))) (fun c_2 => ?_)
  refine lv_iload_n hx hb dX6_sorted_16 rfl (lv_at hl 3 rfl) ?_
  refine lv_aload_n hx hb dX6_sorted_17 rfl (lv_at hl 1 rfl) ?_
  refine va_get (D := D) (ci := 6) (v := .ref q6) (C := RX6) (T := TX6) (N := 15) hx hb hts (by decide +kernel) hown hK hP 0 rfl rfl 6 (by decide) (hts (.fieldLink RX6 22 "JoinDeskModel" "many" "[I") (by decide +kernel)) (fun _ h9 => h9) rfl dX6_sorted_18 ?_
  refine lv_iload hx hb dX6_sorted_21 (lv_at hl 0 rfl) ?_
  refine va_iald hx hb hK hP 4 0 rfl rfl (by unfold vp_in; decide) dX6_sorted_23 ?_
  refine W.eq (g2 := F0 m 24 ls [.int (nI n), .int (nI i), .ref mo]) rfl ?_
  refine lv_icmp_ge (tgt := 36) hx hb dX6_sorted_24 (by decide) (fun c_3 => absurd c_3 (by exact nI_ge hi (by omega))) (fun c_3 => ?_)
  refine lv_iload_n hx hb dX6_sorted_27 rfl (lv_at hl 4 rfl) ?_
  refine lv_if_lt (tgt := 36) hx hb dX6_sorted_28 (by decide) (fun c_4 => absurd c_4 (by decide)) (fun c_4 => ?_)
  refine lv_iload_n hx hb dX6_sorted_31 rfl (lv_at hl 4 rfl) ?_
  refine lv_iconst (v := 2) hx hb dX6_sorted_32 (by decide) ?_
  refine lv_icmp_le (tgt := 40) hx hb dX6_sorted_33 (by decide) (fun c_5 => ?_) (fun c_5 => absurd c_5 (by decide))
  refine lv_aload_n hx hb dX6_sorted_40 rfl (lv_at hl 1 rfl) ?_
  refine va_get (D := D) (ci := 6) (v := .int 1) (C := RX6) (T := TX6) (N := 15) hx hb hts (by decide +kernel) hown hK hP 0 rfl rfl 7 (by decide) (hts (.fieldLink RX6 43 "JoinDeskModel" "prepared" "Z") (by decide +kernel)) (fun _ h9 => h9) rfl dX6_sorted_41 ?_
  refine lv_if_eq (tgt := 51) hx hb dX6_sorted_44 (by decide) (fun c_6 => absurd c_6 (by decide)) (fun c_6 => ?_)
  refine lv_iconst (v := 0) hx hb dX6_sorted_47 (by decide) ?_
  refine lv_goto (tgt := 52) hx hb dX6_sorted_48 (by decide) ?_
  refine jw_i (wr := [(q3, .inl (cI, 800, .inl m3)), (q4, .inl (cI, 800, .inl m4)), (q5, .inl (cI, 800, .inl m5)), (q6, .inl (cI, 2, .inl (jl [nI n, nI n2])))]) (va_runV (As := [.int 0]) (rest := []) ⟨hx, hb, hml, hown, hts⟩ (gM_refuses_0 l D cI cL cQ mo g q1 q3 q4 q5 q6 q11 z0 1 gr kd mk w10 w13 w14 _) (cwV 1 hts gX6_sorted_X6_refuses rfl rfl rfl (by decide +kernel) ⟨Nat.le_of_ble_eq_true rfl, Nat.le_of_ble_eq_true rfl⟩) (jw_V hK hN hP hD [0] (by decide) rfl 6 0 rfl rfl rfl) rfl rfl hl.1 rfl (lv_room (Nat.le_of_ble_eq_true rfl)) dX6_sorted_52 ⟨Nat.le_of_ble_eq_true rfl, Nat.le_of_ble_eq_true rfl⟩) hP hD hS hA [0] [1, 2, 3, 4] rfl rfl (by decide) (by decide) (fun r u H locs f_7 hP hD hS => ?_)
  obtain ⟨rfl, rfl⟩ := f_7
  have hP : va_P D vwCl [(q3, .inl (cI, 800, .inl m3)), (q4, .inl (cI, 800, .inl m4)), (q5, .inl (cI, 800, .inl m5)), (q6, .inl (cI, 2, .inl (jl [nI n, nI n2]))), (mo, .inr (6, [.int 0, .ref q1, .int (nI g), .ref q3, .ref q4, .ref q5, .ref q6, .int 1, .int gr, .int kd, .long w10, .ref q11, .int mk, .long w13, .long w14]))] H := hP
  have hD : va_D A [(q3, .inl (cI, 800, .inl m3)), (q4, .inl (cI, 800, .inl m4)), (q5, .inl (cI, 800, .inl m5)), (q6, .inl (cI, 2, .inl (jl [nI n, nI n2]))), (mo, .inr (6, [.int 0, .ref q1, .int (nI g), .ref q3, .ref q4, .ref q5, .ref q6, .int 1, .int gr, .int kd, .long w10, .ref q11, .int mk, .long w13, .long w14]))] := hD
  refine lv_if_eq (tgt := 60) hx hb dX6_sorted_55 (by decide) (fun c_8 => ?_) (fun c_8 => absurd c_8 (by decide))
  refine lv_iload_n hx hb dX6_sorted_60 rfl (lv_at hl 4 rfl) ?_
  refine lv_if_ne (tgt := 74) hx hb dX6_sorted_61 (by decide) (fun c_9 => ?_) (fun c_9 => absurd c_9 (by decide))
  refine lv_iload_n hx hb dX6_sorted_74 rfl (lv_at hl 4 rfl) ?_
  refine lv_iconst (v := 1) hx hb dX6_sorted_75 (by decide) ?_
  refine lv_icmp_ne (tgt := 89) hx hb dX6_sorted_76 (by decide) (fun c_10 => absurd c_10 (by decide)) (fun c_10 => ?_)
  refine lv_aload_n hx hb dX6_sorted_79 rfl (lv_at hl 1 rfl) ?_
  refine lv_iload hx hb dX6_sorted_80 (lv_at hl 0 rfl) ?_
  refine lv_iload_n hx hb dX6_sorted_82 rfl (lv_at hl 3 rfl) ?_
  refine vp_callSi (va_Run.run (va_runV (As := [.int 0, .int (nI i)]) (rest := []) ⟨hx, hb, hml, hown, hts⟩ (gM_value_0 l D cI cL cQ mo g q1 q3 q4 q5 q6 q11 0 1 gr kd mk w10 w13 w14 m4 m5 i (by first | assumption | decide | omega) (by omega)) (cwV 2 hts gX6_sorted_X6_value rfl rfl rfl (by decide +kernel) ⟨Nat.le_of_ble_eq_true rfl, Nat.le_of_ble_eq_true rfl⟩) (jr_V hK hN hP [4, 1, 2] rfl 6 4 rfl rfl rfl) rfl rfl hl.1 rfl (lv_room (Nat.le_of_ble_eq_true rfl)) dX6_sorted_83 ⟨Nat.le_of_ble_eq_true rfl, Nat.le_of_ble_eq_true rfl⟩)) (fun r f_11 => ?_)
  obtain rfl := f_11
  refine lv_goto (tgt := 102) hx hb dX6_sorted_86 (by decide) ?_
  have hP := hP.sub (ws' := [(mo, .inr (6, [.int 0, .ref q1, .int (nI g), .ref q3, .ref q4, .ref q5, .ref q6, .int 1, .int gr, .int kd, .long w10, .ref q11, .int mk, .long w13, .long w14])), (q3, .inl (cI, 800, .inl m3)), (q4, .inl (cI, 800, .inl m4)), (q5, .inl (cI, 800, .inl m5)), (q6, .inl (cI, 2, .inl (jl [nI n, nI n2])))]) [4, 0, 1, 2, 3] rfl
  have hD := hD.sub (ws' := [(mo, .inr (6, [.int 0, .ref q1, .int (nI g), .ref q3, .ref q4, .ref q5, .ref q6, .int 1, .int gr, .int kd, .long w10, .ref q11, .int mk, .long w13, .long w14])), (q3, .inl (cI, 800, .inl m3)), (q4, .inl (cI, 800, .inl m4)), (q5, .inl (cI, 800, .inl m5)), (q6, .inl (cI, 2, .inl (jl [nI n, nI n2])))]) [4, 0, 1, 2, 3] (by decide) rfl
  refine W.widen (k := 0) (n := 0) (by omega) (by omega) ?_
  exact W.iret (v := jmk 0 m4 m5 i) hx hb hr (fun t ht hW => ⟨⟨(jmk 0 m4 m5 i), [(mo, .inr (6, [.int 0, .ref q1, .int (nI g), .ref q3, .ref q4, .ref q5, .ref q6, .int 1, .int gr, .int kd, .long w10, .ref q11, .int mk, .long w13, .long w14])), (q3, .inl (cI, 800, .inl m3)), (q4, .inl (cI, 800, .inl m4)), (q5, .inl (cI, 800, .inl m5)), (q6, .inl (cI, 2, .inl (jl [nI n, nI n2])))], rfl, (⟨rfl, rfl⟩), by rw [ht]; exact hP, hD⟩, hS.F ht⟩) hS.2.2 dX6_sorted_102
set_option maxHeartbeats 1000000 in
set_option maxRecDepth 100000 in
theorem gM_sorted_12 (l : Launch) (D : va_G) (cI cL cQ : ClassId) (mo : Nat) (g : Nat) (n : Nat) (n2 : Nat) (q1 : Nat) (q3 : Nat) (q4 : Nat) (q5 : Nat) (q6 : Nat) (q11 : Nat) (z0 : Int32) (gr : Int32) (kd : Int32) (mk : Int32) (w10 : Int64) (w13 : Int64) (w14 : Int64) (m3 : Nat → Int32) (m4 : Nat → Int32) (m5 : Nat → Int32) (i : Nat) (sz : Nat) (hn : n ≤ 400) (h5 : jo5 m5) (hi : i < n) : Met l yX6_sorted wsX6_sorted ({ frames := 1, cells := 0, slots := 0, locals := 21 }) (jw_P D vwCl (jT cI cL cQ) cL cQ [.ref mo, .int 1, .int (nI i), .int 2] [(mo, .inr (6, [.int z0, .ref q1, .int (nI g), .ref q3, .ref q4, .ref q5, .ref q6, .int 1, .int gr, .int kd, .long w10, .ref q11, .int mk, .long w13, .long w14])), (q3, .inl (cI, 800, .inl m3)), (q4, .inl (cI, 800, .inl m4)), (q5, .inl (cI, 800, .inl m5)), (q6, .inl (cI, 2, .inl (jl [nI n, nI n2])))] sz) (va_Qi (fun (r : Int32) (u : va_W) => r = m5 (nI (0 + i)).toNatClampNeg ∧ u = [(mo, .inr (6, [.int 0, .ref q1, .int (nI g), .ref q3, .ref q4, .ref q5, .ref q6, .int 1, .int gr, .int kd, .long w10, .ref q11, .int mk, .long w13, .long w14])), (q3, .inl (cI, 800, .inl m3)), (q4, .inl (cI, 800, .inl m4)), (q5, .inl (cI, 800, .inl m5)), (q6, .inl (cI, 2, .inl (jl [nI n, nI n2])))]) (jw_B D vwCl (va_A [(mo, .inr (6, [.int z0, .ref q1, .int (nI g), .ref q3, .ref q4, .ref q5, .ref q6, .int 1, .int gr, .int kd, .long w10, .ref q11, .int mk, .long w13, .long w14])), (q3, .inl (cI, 800, .inl m3)), (q4, .inl (cI, 800, .inl m4)), (q5, .inl (cI, 800, .inl m5)), (q6, .inl (cI, 2, .inl (jl [nI n, nI n2])))] sz) (fun u : va_W => u)) (va_A [(mo, .inr (6, [.int z0, .ref q1, .int (nI g), .ref q3, .ref q4, .ref q5, .ref q6, .int 1, .int gr, .int kd, .long w10, .ref q11, .int mk, .long w13, .long w14])), (q3, .inl (cI, 800, .inl m3)), (q4, .inl (cI, 800, .inl m4)), (q5, .inl (cI, 800, .inl m5)), (q6, .inl (cI, 2, .inl (jl [nI n, nI n2])))] sz)) 0 0 (va_A [(mo, .inr (6, [.int z0, .ref q1, .int (nI g), .ref q3, .ref q4, .ref q5, .ref q6, .int 1, .int gr, .int kd, .long w10, .ref q11, .int mk, .long w13, .long w14])), (q3, .inl (cI, 800, .inl m3)), (q4, .inl (cI, 800, .inl m4)), (q5, .inl (cI, 800, .inl m5)), (q6, .inl (cI, 2, .inl (jl [nI n, nI n2])))] sz) := by
  refine Met.ofW (cc := cX6_sorted) (maxL := 5) (ret := (some .int)) (by decide) rfl ?_
  intro p e s m args below meth c s₁ B hml hv
  obtain ⟨rfl, hsz, hP, hK, hN, hD0⟩ := hv
  have hx := B.exec
  have hb := B.bytes
  have hr := B.returns
  have hts := atoms_spec (ws := wsX6_sorted) B.pre
  have hown : s.vm.findClass RX6 = some m.cls := findClass_of_methodNamed B.named
  have hlocks := B.notSynchronized
  subst hsz
  have hD := hD0.self (sz := s.heap.size)
  generalize hAe : va_A [(mo, .inr (6, [.int z0, .ref q1, .int (nI g), .ref q3, .ref q4, .ref q5, .ref q6, .int 1, .int gr, .int kd, .long w10, .ref q11, .int mk, .long w13, .long w14])), (q3, .inl (cI, 800, .inl m3)), (q4, .inl (cI, 800, .inl m4)), (q5, .inl (cI, 800, .inl m5)), (q6, .inl (cI, 2, .inl (jl [nI n, nI n2])))] s.heap.size = A at hD ⊢
  have hA : ∀ q : Nat, s.heap.size ≤ q → A q := fun q h => by rw [← hAe]; exact Or.inr h
  have hS : va_S A s.heap s.heap [] := va_S.rf
  have hl := lv_entry ([.ref mo, .int 1, .int (nI i), .int 2]) (n := 5) (Nat.le_of_ble_eq_true rfl)
  rw [lg_entry_eq]
  generalize (lg_sl ([.ref mo, .int 1, .int (nI i), .int 2]) ++ List.replicate (5 - (lg_sl ([.ref mo, .int 1, .int (nI i), .int 2])).length) Slot.unset).toArray = ls at hl ⊢
  have hl : lv_has ls 5 [(0, .ref mo), (1, .int 1), (2, .int (nI i)), (3, .int 2)] := hl
  refine lv_iload_n hx hb dX6_sorted_0 rfl (lv_at hl 1 rfl) ?_
  refine lv_if_eq (tgt := 8) hx hb dX6_sorted_1 (by decide) (fun c_1 => absurd c_1 (by decide)) (fun c_1 => ?_)
  refine lv_iconst (v := 0) hx hb dX6_sorted_4 (by decide) ?_
  refine lv_goto (tgt := 9) hx hb dX6_sorted_5 (by decide) ?_
  refine lv_istore (lv' := [(4, .int 0), (0, .ref mo), (1, .int 1), (2, .int (nI i)), (3, .int 2)]) hx hb dX6_sorted_9 hl (by decide) rfl (fun ls hl => ?_)
  refine lv_aload_n hx hb dX6_sorted_11 rfl (lv_at hl 1 rfl) ?_
  refine lv_iload_n hx hb dX6_sorted_12 rfl (lv_at hl 3 rfl) ?_
  refine lv_if_lt (tgt := 36) hx hb dX6_sorted_13 (by decide) (fun c_2 => absurd c_2 (by exact nI_pos (by omega))) (fun c_2 => ?_)
  refine lv_iload_n hx hb dX6_sorted_16 rfl (lv_at hl 3 rfl) ?_
  refine lv_aload_n hx hb dX6_sorted_17 rfl (lv_at hl 1 rfl) ?_
  refine va_get (D := D) (ci := 6) (v := .ref q6) (C := RX6) (T := TX6) (N := 15) hx hb hts (by decide +kernel) hown hK hP 0 rfl rfl 6 (by decide) (hts (.fieldLink RX6 22 "JoinDeskModel" "many" "[I") (by decide +kernel)) (fun _ h9 => h9) rfl dX6_sorted_18 ?_
  refine lv_iload hx hb dX6_sorted_21 (lv_at hl 0 rfl) ?_
  refine va_iald hx hb hK hP 4 0 rfl rfl (by unfold vp_in; decide) dX6_sorted_23 ?_
  refine W.eq (g2 := F0 m 24 ls [.int (nI n), .int (nI i), .ref mo]) rfl ?_
  refine lv_icmp_ge (tgt := 36) hx hb dX6_sorted_24 (by decide) (fun c_3 => absurd c_3 (by exact nI_ge hi (by omega))) (fun c_3 => ?_)
  refine lv_iload_n hx hb dX6_sorted_27 rfl (lv_at hl 4 rfl) ?_
  refine lv_if_lt (tgt := 36) hx hb dX6_sorted_28 (by decide) (fun c_4 => absurd c_4 (by decide)) (fun c_4 => ?_)
  refine lv_iload_n hx hb dX6_sorted_31 rfl (lv_at hl 4 rfl) ?_
  refine lv_iconst (v := 2) hx hb dX6_sorted_32 (by decide) ?_
  refine lv_icmp_le (tgt := 40) hx hb dX6_sorted_33 (by decide) (fun c_5 => ?_) (fun c_5 => absurd c_5 (by decide))
  refine lv_aload_n hx hb dX6_sorted_40 rfl (lv_at hl 1 rfl) ?_
  refine va_get (D := D) (ci := 6) (v := .int 1) (C := RX6) (T := TX6) (N := 15) hx hb hts (by decide +kernel) hown hK hP 0 rfl rfl 7 (by decide) (hts (.fieldLink RX6 43 "JoinDeskModel" "prepared" "Z") (by decide +kernel)) (fun _ h9 => h9) rfl dX6_sorted_41 ?_
  refine lv_if_eq (tgt := 51) hx hb dX6_sorted_44 (by decide) (fun c_6 => absurd c_6 (by decide)) (fun c_6 => ?_)
  refine lv_iconst (v := 0) hx hb dX6_sorted_47 (by decide) ?_
  refine lv_goto (tgt := 52) hx hb dX6_sorted_48 (by decide) ?_
  refine jw_i (wr := [(q3, .inl (cI, 800, .inl m3)), (q4, .inl (cI, 800, .inl m4)), (q5, .inl (cI, 800, .inl m5)), (q6, .inl (cI, 2, .inl (jl [nI n, nI n2])))]) (va_runV (As := [.int 0]) (rest := []) ⟨hx, hb, hml, hown, hts⟩ (gM_refuses_0 l D cI cL cQ mo g q1 q3 q4 q5 q6 q11 z0 1 gr kd mk w10 w13 w14 _) (cwV 1 hts gX6_sorted_X6_refuses rfl rfl rfl (by decide +kernel) ⟨Nat.le_of_ble_eq_true rfl, Nat.le_of_ble_eq_true rfl⟩) (jw_V hK hN hP hD [0] (by decide) rfl 6 0 rfl rfl rfl) rfl rfl hl.1 rfl (lv_room (Nat.le_of_ble_eq_true rfl)) dX6_sorted_52 ⟨Nat.le_of_ble_eq_true rfl, Nat.le_of_ble_eq_true rfl⟩) hP hD hS hA [0] [1, 2, 3, 4] rfl rfl (by decide) (by decide) (fun r u H locs f_7 hP hD hS => ?_)
  obtain ⟨rfl, rfl⟩ := f_7
  have hP : va_P D vwCl [(q3, .inl (cI, 800, .inl m3)), (q4, .inl (cI, 800, .inl m4)), (q5, .inl (cI, 800, .inl m5)), (q6, .inl (cI, 2, .inl (jl [nI n, nI n2]))), (mo, .inr (6, [.int 0, .ref q1, .int (nI g), .ref q3, .ref q4, .ref q5, .ref q6, .int 1, .int gr, .int kd, .long w10, .ref q11, .int mk, .long w13, .long w14]))] H := hP
  have hD : va_D A [(q3, .inl (cI, 800, .inl m3)), (q4, .inl (cI, 800, .inl m4)), (q5, .inl (cI, 800, .inl m5)), (q6, .inl (cI, 2, .inl (jl [nI n, nI n2]))), (mo, .inr (6, [.int 0, .ref q1, .int (nI g), .ref q3, .ref q4, .ref q5, .ref q6, .int 1, .int gr, .int kd, .long w10, .ref q11, .int mk, .long w13, .long w14]))] := hD
  refine lv_if_eq (tgt := 60) hx hb dX6_sorted_55 (by decide) (fun c_8 => ?_) (fun c_8 => absurd c_8 (by decide))
  refine lv_iload_n hx hb dX6_sorted_60 rfl (lv_at hl 4 rfl) ?_
  refine lv_if_ne (tgt := 74) hx hb dX6_sorted_61 (by decide) (fun c_9 => ?_) (fun c_9 => absurd c_9 (by decide))
  refine lv_iload_n hx hb dX6_sorted_74 rfl (lv_at hl 4 rfl) ?_
  refine lv_iconst (v := 1) hx hb dX6_sorted_75 (by decide) ?_
  refine lv_icmp_ne (tgt := 89) hx hb dX6_sorted_76 (by decide) (fun c_10 => ?_) (fun c_10 => absurd c_10 (by decide))
  refine lv_aload_n hx hb dX6_sorted_89 rfl (lv_at hl 1 rfl) ?_
  refine va_get (D := D) (ci := 6) (v := .ref q5) (C := RX6) (T := TX6) (N := 15) hx hb hts (by decide +kernel) hown hK hP 4 rfl rfl 5 (by decide) (hts (.fieldLink RX6 19 "JoinDeskModel" "order" "[I") (by decide +kernel)) (fun _ h9 => h9) rfl dX6_sorted_90 ?_
  refine lv_sipush (v := 400) hx hb dX6_sorted_93 (by decide) ?_
  refine lv_iload hx hb dX6_sorted_96 (lv_at hl 0 rfl) ?_
  refine lv_imul hx hb dX6_sorted_98 ?_
  refine lv_topi (fun z_11 e_z_11 => ?_)
  obtain rfl : z_11 = 0 := e_z_11.trans (by decide)
  refine lv_iload_n hx hb dX6_sorted_99 rfl (lv_at hl 3 rfl) ?_
  refine lv_iadd hx hb dX6_sorted_100 ?_
  refine lv_topi (fun z_12 e_z_12 => ?_)
  obtain rfl : z_12 = nI (0 + i) := e_z_12.trans (nI_add 0 i)
  refine va_iald hx hb hK hP 2 0 rfl rfl (vp_in_nI (show 0 + i < 800 by omega) (by omega)) dX6_sorted_101 ?_
  have hP := hP.sub (ws' := [(mo, .inr (6, [.int 0, .ref q1, .int (nI g), .ref q3, .ref q4, .ref q5, .ref q6, .int 1, .int gr, .int kd, .long w10, .ref q11, .int mk, .long w13, .long w14])), (q3, .inl (cI, 800, .inl m3)), (q4, .inl (cI, 800, .inl m4)), (q5, .inl (cI, 800, .inl m5)), (q6, .inl (cI, 2, .inl (jl [nI n, nI n2])))]) [4, 0, 1, 2, 3] rfl
  have hD := hD.sub (ws' := [(mo, .inr (6, [.int 0, .ref q1, .int (nI g), .ref q3, .ref q4, .ref q5, .ref q6, .int 1, .int gr, .int kd, .long w10, .ref q11, .int mk, .long w13, .long w14])), (q3, .inl (cI, 800, .inl m3)), (q4, .inl (cI, 800, .inl m4)), (q5, .inl (cI, 800, .inl m5)), (q6, .inl (cI, 2, .inl (jl [nI n, nI n2])))]) [4, 0, 1, 2, 3] (by decide) rfl
  refine W.widen (k := 0) (n := 0) (by omega) (by omega) ?_
  exact W.iret (v := m5 (nI (0 + i)).toNatClampNeg) hx hb hr (fun t ht hW => ⟨⟨(m5 (nI (0 + i)).toNatClampNeg), [(mo, .inr (6, [.int 0, .ref q1, .int (nI g), .ref q3, .ref q4, .ref q5, .ref q6, .int 1, .int gr, .int kd, .long w10, .ref q11, .int mk, .long w13, .long w14])), (q3, .inl (cI, 800, .inl m3)), (q4, .inl (cI, 800, .inl m4)), (q5, .inl (cI, 800, .inl m5)), (q6, .inl (cI, 2, .inl (jl [nI n, nI n2])))], rfl, (⟨rfl, rfl⟩), by rw [ht]; exact hP, hD⟩, hS.F ht⟩) hS.2.2 dX6_sorted_102
set_option maxHeartbeats 1000000 in
set_option maxRecDepth 100000 in
theorem gM_sorted_0a (l : Launch) (D : va_G) (cI cL cQ : ClassId) (mo : Nat) (g : Nat) (n : Nat) (n2 : Nat) (q1 : Nat) (q3 : Nat) (q4 : Nat) (q5 : Nat) (q6 : Nat) (q11 : Nat) (z0 : Int32) (pr : Int32) (gr : Int32) (kd : Int32) (mk : Int32) (w10 : Int64) (w13 : Int64) (w14 : Int64) (x : Int32) (y : Int32) (sz : Nat) (h1 : (x < 0 ∨ nI n2 ≤ x) ∨ (y < 0 ∨ 2 < y)) : Met l yX6_sorted wsX6_sorted ({ frames := 1, cells := 0, slots := 0, locals := 21 }) (jw_P D vwCl (jT cI cL cQ) cL cQ [.ref mo, .int 0, .int x, .int y] [(mo, .inr (6, [.int z0, .ref q1, .int (nI g), .ref q3, .ref q4, .ref q5, .ref q6, .int pr, .int gr, .int kd, .long w10, .ref q11, .int mk, .long w13, .long w14])), (q6, .inl (cI, 2, .inl (jl [nI n, nI n2])))] sz) (va_Qi (fun (r : Int32) (u : va_W) => r = 0 ∧ u = [(mo, .inr (6, [.int 1, .ref q1, .int (nI g), .ref q3, .ref q4, .ref q5, .ref q6, .int pr, .int gr, .int kd, .long w10, .ref q11, .int mk, .long w13, .long w14])), (q6, .inl (cI, 2, .inl (jl [nI n, nI n2])))]) (jw_B D vwCl (va_A [(mo, .inr (6, [.int z0, .ref q1, .int (nI g), .ref q3, .ref q4, .ref q5, .ref q6, .int pr, .int gr, .int kd, .long w10, .ref q11, .int mk, .long w13, .long w14])), (q6, .inl (cI, 2, .inl (jl [nI n, nI n2])))] sz) (fun u : va_W => u)) (va_A [(mo, .inr (6, [.int z0, .ref q1, .int (nI g), .ref q3, .ref q4, .ref q5, .ref q6, .int pr, .int gr, .int kd, .long w10, .ref q11, .int mk, .long w13, .long w14])), (q6, .inl (cI, 2, .inl (jl [nI n, nI n2])))] sz)) 0 0 (va_A [(mo, .inr (6, [.int z0, .ref q1, .int (nI g), .ref q3, .ref q4, .ref q5, .ref q6, .int pr, .int gr, .int kd, .long w10, .ref q11, .int mk, .long w13, .long w14])), (q6, .inl (cI, 2, .inl (jl [nI n, nI n2])))] sz) := by
  refine Met.ofW (cc := cX6_sorted) (maxL := 5) (ret := (some .int)) (by decide) rfl ?_
  intro p e s m args below meth c s₁ B hml hv
  obtain ⟨rfl, hsz, hP, hK, hN, hD0⟩ := hv
  have hx := B.exec
  have hb := B.bytes
  have hr := B.returns
  have hts := atoms_spec (ws := wsX6_sorted) B.pre
  have hown : s.vm.findClass RX6 = some m.cls := findClass_of_methodNamed B.named
  have hlocks := B.notSynchronized
  subst hsz
  have hD := hD0.self (sz := s.heap.size)
  generalize hAe : va_A [(mo, .inr (6, [.int z0, .ref q1, .int (nI g), .ref q3, .ref q4, .ref q5, .ref q6, .int pr, .int gr, .int kd, .long w10, .ref q11, .int mk, .long w13, .long w14])), (q6, .inl (cI, 2, .inl (jl [nI n, nI n2])))] s.heap.size = A at hD ⊢
  have hA : ∀ q : Nat, s.heap.size ≤ q → A q := fun q h => by rw [← hAe]; exact Or.inr h
  have hS : va_S A s.heap s.heap [] := va_S.rf
  have hl := lv_entry ([.ref mo, .int 0, .int x, .int y]) (n := 5) (Nat.le_of_ble_eq_true rfl)
  rw [lg_entry_eq]
  generalize (lg_sl ([.ref mo, .int 0, .int x, .int y]) ++ List.replicate (5 - (lg_sl ([.ref mo, .int 0, .int x, .int y])).length) Slot.unset).toArray = ls at hl ⊢
  have hl : lv_has ls 5 [(0, .ref mo), (1, .int 0), (2, .int x), (3, .int y)] := hl
  refine lv_iload_n hx hb dX6_sorted_0 rfl (lv_at hl 1 rfl) ?_
  refine lv_if_eq (tgt := 8) hx hb dX6_sorted_1 (by decide) (fun c_1 => ?_) (fun c_1 => absurd c_1 (by decide))
  refine lv_iconst (v := 1) hx hb dX6_sorted_8 (by decide) ?_
  refine lv_istore (lv' := [(4, .int 1), (0, .ref mo), (1, .int 0), (2, .int x), (3, .int y)]) hx hb dX6_sorted_9 hl (by decide) rfl (fun ls hl => ?_)
  refine lv_aload_n hx hb dX6_sorted_11 rfl (lv_at hl 1 rfl) ?_
  refine lv_iload_n hx hb dX6_sorted_12 rfl (lv_at hl 3 rfl) ?_
  refine lv_if_lt (tgt := 36) hx hb dX6_sorted_13 (by decide) (fun c_2 => ?_) (fun c_2 => ?_)
  · refine lv_iconst (v := 1) hx hb dX6_sorted_36 (by decide) ?_
    refine lv_goto (tgt := 52) hx hb dX6_sorted_37 (by decide) ?_
    refine jw_i (wr := [(q6, .inl (cI, 2, .inl (jl [nI n, nI n2])))]) (va_runV (As := [.int 1]) (rest := []) ⟨hx, hb, hml, hown, hts⟩ (gM_refuses_1 l D cI cL cQ mo g q1 q3 q4 q5 q6 q11 z0 pr gr kd mk w10 w13 w14 _) (cwV 1 hts gX6_sorted_X6_refuses rfl rfl rfl (by decide +kernel) ⟨Nat.le_of_ble_eq_true rfl, Nat.le_of_ble_eq_true rfl⟩) (jw_V hK hN hP hD [0] (by decide) rfl 6 0 rfl rfl rfl) rfl rfl hl.1 rfl (lv_room (Nat.le_of_ble_eq_true rfl)) dX6_sorted_52 ⟨Nat.le_of_ble_eq_true rfl, Nat.le_of_ble_eq_true rfl⟩) hP hD hS hA [0] [1] rfl rfl (by decide) (by decide) (fun r u H locs f_3 hP hD hS => ?_)
    obtain ⟨rfl, rfl⟩ := f_3
    have hP : va_P D vwCl [(q6, .inl (cI, 2, .inl (jl [nI n, nI n2]))), (mo, .inr (6, [.int 1, .ref q1, .int (nI g), .ref q3, .ref q4, .ref q5, .ref q6, .int pr, .int gr, .int kd, .long w10, .ref q11, .int mk, .long w13, .long w14]))] H := hP
    have hD : va_D A [(q6, .inl (cI, 2, .inl (jl [nI n, nI n2]))), (mo, .inr (6, [.int 1, .ref q1, .int (nI g), .ref q3, .ref q4, .ref q5, .ref q6, .int pr, .int gr, .int kd, .long w10, .ref q11, .int mk, .long w13, .long w14]))] := hD
    refine lv_if_eq (tgt := 60) hx hb dX6_sorted_55 (by decide) (fun c_4 => absurd c_4 (by decide)) (fun c_4 => ?_)
    refine lv_iconst (v := 0) hx hb dX6_sorted_58 (by decide) ?_
    have hP := hP.sub (ws' := [(mo, .inr (6, [.int 1, .ref q1, .int (nI g), .ref q3, .ref q4, .ref q5, .ref q6, .int pr, .int gr, .int kd, .long w10, .ref q11, .int mk, .long w13, .long w14])), (q6, .inl (cI, 2, .inl (jl [nI n, nI n2])))]) [1, 0] rfl
    have hD := hD.sub (ws' := [(mo, .inr (6, [.int 1, .ref q1, .int (nI g), .ref q3, .ref q4, .ref q5, .ref q6, .int pr, .int gr, .int kd, .long w10, .ref q11, .int mk, .long w13, .long w14])), (q6, .inl (cI, 2, .inl (jl [nI n, nI n2])))]) [1, 0] (by decide) rfl
    refine W.widen (k := 0) (n := 0) (by omega) (by omega) ?_
    exact W.iret (v := 0) hx hb hr (fun t ht hW => ⟨⟨0, [(mo, .inr (6, [.int 1, .ref q1, .int (nI g), .ref q3, .ref q4, .ref q5, .ref q6, .int pr, .int gr, .int kd, .long w10, .ref q11, .int mk, .long w13, .long w14])), (q6, .inl (cI, 2, .inl (jl [nI n, nI n2])))], rfl, (by exact ⟨rfl, rfl⟩), by rw [ht]; exact hP, hD⟩, hS.F ht⟩) hS.2.2 dX6_sorted_59
  · refine lv_iload_n hx hb dX6_sorted_16 rfl (lv_at hl 3 rfl) ?_
    refine lv_aload_n hx hb dX6_sorted_17 rfl (lv_at hl 1 rfl) ?_
    refine va_get (D := D) (ci := 6) (v := .ref q6) (C := RX6) (T := TX6) (N := 15) hx hb hts (by decide +kernel) hown hK hP 0 rfl rfl 6 (by decide) (hts (.fieldLink RX6 22 "JoinDeskModel" "many" "[I") (by decide +kernel)) (fun _ h9 => h9) rfl dX6_sorted_18 ?_
    refine lv_iload hx hb dX6_sorted_21 (lv_at hl 0 rfl) ?_
    refine va_iald hx hb hK hP 1 0 rfl rfl (by unfold vp_in; decide) dX6_sorted_23 ?_
    refine W.eq (g2 := F0 m 24 ls [.int (nI n2), .int x, .ref mo]) rfl ?_
    refine lv_icmp_ge (tgt := 36) hx hb dX6_sorted_24 (by decide) (fun c_5 => ?_) (fun c_5 => ?_)
    · refine lv_iconst (v := 1) hx hb dX6_sorted_36 (by decide) ?_
      refine lv_goto (tgt := 52) hx hb dX6_sorted_37 (by decide) ?_
      refine jw_i (wr := [(q6, .inl (cI, 2, .inl (jl [nI n, nI n2])))]) (va_runV (As := [.int 1]) (rest := []) ⟨hx, hb, hml, hown, hts⟩ (gM_refuses_1 l D cI cL cQ mo g q1 q3 q4 q5 q6 q11 z0 pr gr kd mk w10 w13 w14 _) (cwV 1 hts gX6_sorted_X6_refuses rfl rfl rfl (by decide +kernel) ⟨Nat.le_of_ble_eq_true rfl, Nat.le_of_ble_eq_true rfl⟩) (jw_V hK hN hP hD [0] (by decide) rfl 6 0 rfl rfl rfl) rfl rfl hl.1 rfl (lv_room (Nat.le_of_ble_eq_true rfl)) dX6_sorted_52 ⟨Nat.le_of_ble_eq_true rfl, Nat.le_of_ble_eq_true rfl⟩) hP hD hS hA [0] [1] rfl rfl (by decide) (by decide) (fun r u H locs f_6 hP hD hS => ?_)
      obtain ⟨rfl, rfl⟩ := f_6
      have hP : va_P D vwCl [(q6, .inl (cI, 2, .inl (jl [nI n, nI n2]))), (mo, .inr (6, [.int 1, .ref q1, .int (nI g), .ref q3, .ref q4, .ref q5, .ref q6, .int pr, .int gr, .int kd, .long w10, .ref q11, .int mk, .long w13, .long w14]))] H := hP
      have hD : va_D A [(q6, .inl (cI, 2, .inl (jl [nI n, nI n2]))), (mo, .inr (6, [.int 1, .ref q1, .int (nI g), .ref q3, .ref q4, .ref q5, .ref q6, .int pr, .int gr, .int kd, .long w10, .ref q11, .int mk, .long w13, .long w14]))] := hD
      refine lv_if_eq (tgt := 60) hx hb dX6_sorted_55 (by decide) (fun c_7 => absurd c_7 (by decide)) (fun c_7 => ?_)
      refine lv_iconst (v := 0) hx hb dX6_sorted_58 (by decide) ?_
      have hP := hP.sub (ws' := [(mo, .inr (6, [.int 1, .ref q1, .int (nI g), .ref q3, .ref q4, .ref q5, .ref q6, .int pr, .int gr, .int kd, .long w10, .ref q11, .int mk, .long w13, .long w14])), (q6, .inl (cI, 2, .inl (jl [nI n, nI n2])))]) [1, 0] rfl
      have hD := hD.sub (ws' := [(mo, .inr (6, [.int 1, .ref q1, .int (nI g), .ref q3, .ref q4, .ref q5, .ref q6, .int pr, .int gr, .int kd, .long w10, .ref q11, .int mk, .long w13, .long w14])), (q6, .inl (cI, 2, .inl (jl [nI n, nI n2])))]) [1, 0] (by decide) rfl
      refine W.widen (k := 0) (n := 0) (by omega) (by omega) ?_
      exact W.iret (v := 0) hx hb hr (fun t ht hW => ⟨⟨0, [(mo, .inr (6, [.int 1, .ref q1, .int (nI g), .ref q3, .ref q4, .ref q5, .ref q6, .int pr, .int gr, .int kd, .long w10, .ref q11, .int mk, .long w13, .long w14])), (q6, .inl (cI, 2, .inl (jl [nI n, nI n2])))], rfl, (by exact ⟨rfl, rfl⟩), by rw [ht]; exact hP, hD⟩, hS.F ht⟩) hS.2.2 dX6_sorted_59
    · refine lv_iload_n hx hb dX6_sorted_27 rfl (lv_at hl 4 rfl) ?_
      refine lv_if_lt (tgt := 36) hx hb dX6_sorted_28 (by decide) (fun c_8 => ?_) (fun c_8 => ?_)
      · refine lv_iconst (v := 1) hx hb dX6_sorted_36 (by decide) ?_
        refine lv_goto (tgt := 52) hx hb dX6_sorted_37 (by decide) ?_
        refine jw_i (wr := [(q6, .inl (cI, 2, .inl (jl [nI n, nI n2])))]) (va_runV (As := [.int 1]) (rest := []) ⟨hx, hb, hml, hown, hts⟩ (gM_refuses_1 l D cI cL cQ mo g q1 q3 q4 q5 q6 q11 z0 pr gr kd mk w10 w13 w14 _) (cwV 1 hts gX6_sorted_X6_refuses rfl rfl rfl (by decide +kernel) ⟨Nat.le_of_ble_eq_true rfl, Nat.le_of_ble_eq_true rfl⟩) (jw_V hK hN hP hD [0] (by decide) rfl 6 0 rfl rfl rfl) rfl rfl hl.1 rfl (lv_room (Nat.le_of_ble_eq_true rfl)) dX6_sorted_52 ⟨Nat.le_of_ble_eq_true rfl, Nat.le_of_ble_eq_true rfl⟩) hP hD hS hA [0] [1] rfl rfl (by decide) (by decide) (fun r u H locs f_9 hP hD hS => ?_)
        obtain ⟨rfl, rfl⟩ := f_9
        have hP : va_P D vwCl [(q6, .inl (cI, 2, .inl (jl [nI n, nI n2]))), (mo, .inr (6, [.int 1, .ref q1, .int (nI g), .ref q3, .ref q4, .ref q5, .ref q6, .int pr, .int gr, .int kd, .long w10, .ref q11, .int mk, .long w13, .long w14]))] H := hP
        have hD : va_D A [(q6, .inl (cI, 2, .inl (jl [nI n, nI n2]))), (mo, .inr (6, [.int 1, .ref q1, .int (nI g), .ref q3, .ref q4, .ref q5, .ref q6, .int pr, .int gr, .int kd, .long w10, .ref q11, .int mk, .long w13, .long w14]))] := hD
        refine lv_if_eq (tgt := 60) hx hb dX6_sorted_55 (by decide) (fun c_10 => absurd c_10 (by decide)) (fun c_10 => ?_)
        refine lv_iconst (v := 0) hx hb dX6_sorted_58 (by decide) ?_
        have hP := hP.sub (ws' := [(mo, .inr (6, [.int 1, .ref q1, .int (nI g), .ref q3, .ref q4, .ref q5, .ref q6, .int pr, .int gr, .int kd, .long w10, .ref q11, .int mk, .long w13, .long w14])), (q6, .inl (cI, 2, .inl (jl [nI n, nI n2])))]) [1, 0] rfl
        have hD := hD.sub (ws' := [(mo, .inr (6, [.int 1, .ref q1, .int (nI g), .ref q3, .ref q4, .ref q5, .ref q6, .int pr, .int gr, .int kd, .long w10, .ref q11, .int mk, .long w13, .long w14])), (q6, .inl (cI, 2, .inl (jl [nI n, nI n2])))]) [1, 0] (by decide) rfl
        refine W.widen (k := 0) (n := 0) (by omega) (by omega) ?_
        exact W.iret (v := 0) hx hb hr (fun t ht hW => ⟨⟨0, [(mo, .inr (6, [.int 1, .ref q1, .int (nI g), .ref q3, .ref q4, .ref q5, .ref q6, .int pr, .int gr, .int kd, .long w10, .ref q11, .int mk, .long w13, .long w14])), (q6, .inl (cI, 2, .inl (jl [nI n, nI n2])))], rfl, (by exact ⟨rfl, rfl⟩), by rw [ht]; exact hP, hD⟩, hS.F ht⟩) hS.2.2 dX6_sorted_59
      · refine lv_iload_n hx hb dX6_sorted_31 rfl (lv_at hl 4 rfl) ?_
        refine lv_iconst (v := 2) hx hb dX6_sorted_32 (by decide) ?_
        refine lv_icmp_le (tgt := 40) hx hb dX6_sorted_33 (by decide) (fun c_11 => absurd c_11 (by exact fun q => h1.elim (fun h => h.elim (by assumption) (by assumption)) (fun h => h.elim (by assumption) (fun z => j_nle z q)))) (fun c_11 => ?_)
        refine lv_iconst (v := 1) hx hb dX6_sorted_36 (by decide) ?_
        refine lv_goto (tgt := 52) hx hb dX6_sorted_37 (by decide) ?_
        refine jw_i (wr := [(q6, .inl (cI, 2, .inl (jl [nI n, nI n2])))]) (va_runV (As := [.int 1]) (rest := []) ⟨hx, hb, hml, hown, hts⟩ (gM_refuses_1 l D cI cL cQ mo g q1 q3 q4 q5 q6 q11 z0 pr gr kd mk w10 w13 w14 _) (cwV 1 hts gX6_sorted_X6_refuses rfl rfl rfl (by decide +kernel) ⟨Nat.le_of_ble_eq_true rfl, Nat.le_of_ble_eq_true rfl⟩) (jw_V hK hN hP hD [0] (by decide) rfl 6 0 rfl rfl rfl) rfl rfl hl.1 rfl (lv_room (Nat.le_of_ble_eq_true rfl)) dX6_sorted_52 ⟨Nat.le_of_ble_eq_true rfl, Nat.le_of_ble_eq_true rfl⟩) hP hD hS hA [0] [1] rfl rfl (by decide) (by decide) (fun r u H locs f_12 hP hD hS => ?_)
        obtain ⟨rfl, rfl⟩ := f_12
        have hP : va_P D vwCl [(q6, .inl (cI, 2, .inl (jl [nI n, nI n2]))), (mo, .inr (6, [.int 1, .ref q1, .int (nI g), .ref q3, .ref q4, .ref q5, .ref q6, .int pr, .int gr, .int kd, .long w10, .ref q11, .int mk, .long w13, .long w14]))] H := hP
        have hD : va_D A [(q6, .inl (cI, 2, .inl (jl [nI n, nI n2]))), (mo, .inr (6, [.int 1, .ref q1, .int (nI g), .ref q3, .ref q4, .ref q5, .ref q6, .int pr, .int gr, .int kd, .long w10, .ref q11, .int mk, .long w13, .long w14]))] := hD
        refine lv_if_eq (tgt := 60) hx hb dX6_sorted_55 (by decide) (fun c_13 => absurd c_13 (by decide)) (fun c_13 => ?_)
        refine lv_iconst (v := 0) hx hb dX6_sorted_58 (by decide) ?_
        have hP := hP.sub (ws' := [(mo, .inr (6, [.int 1, .ref q1, .int (nI g), .ref q3, .ref q4, .ref q5, .ref q6, .int pr, .int gr, .int kd, .long w10, .ref q11, .int mk, .long w13, .long w14])), (q6, .inl (cI, 2, .inl (jl [nI n, nI n2])))]) [1, 0] rfl
        have hD := hD.sub (ws' := [(mo, .inr (6, [.int 1, .ref q1, .int (nI g), .ref q3, .ref q4, .ref q5, .ref q6, .int pr, .int gr, .int kd, .long w10, .ref q11, .int mk, .long w13, .long w14])), (q6, .inl (cI, 2, .inl (jl [nI n, nI n2])))]) [1, 0] (by decide) rfl
        refine W.widen (k := 0) (n := 0) (by omega) (by omega) ?_
        exact W.iret (v := 0) hx hb hr (fun t ht hW => ⟨⟨0, [(mo, .inr (6, [.int 1, .ref q1, .int (nI g), .ref q3, .ref q4, .ref q5, .ref q6, .int pr, .int gr, .int kd, .long w10, .ref q11, .int mk, .long w13, .long w14])), (q6, .inl (cI, 2, .inl (jl [nI n, nI n2])))], rfl, (by exact ⟨rfl, rfl⟩), by rw [ht]; exact hP, hD⟩, hS.F ht⟩) hS.2.2 dX6_sorted_59
set_option maxHeartbeats 1000000 in
set_option maxRecDepth 100000 in
theorem gM_sorted_0s (l : Launch) (D : va_G) (cI cL cQ : ClassId) (mo : Nat) (g : Nat) (n : Nat) (n2 : Nat) (q1 : Nat) (q3 : Nat) (q4 : Nat) (q5 : Nat) (q6 : Nat) (q11 : Nat) (z0 : Int32) (gr : Int32) (kd : Int32) (mk : Int32) (w10 : Int64) (w13 : Int64) (w14 : Int64) (x : Int32) (y : Int32) (sz : Nat) (h1 : ¬ x < 0) (h2 : ¬ nI n2 ≤ x) (h3 : ¬ y < 0) (h4 : y ≤ 2) : Met l yX6_sorted wsX6_sorted ({ frames := 1, cells := 0, slots := 0, locals := 21 }) (jw_P D vwCl (jT cI cL cQ) cL cQ [.ref mo, .int 0, .int x, .int y] [(mo, .inr (6, [.int z0, .ref q1, .int (nI g), .ref q3, .ref q4, .ref q5, .ref q6, .int 0, .int gr, .int kd, .long w10, .ref q11, .int mk, .long w13, .long w14])), (q6, .inl (cI, 2, .inl (jl [nI n, nI n2])))] sz) (va_Qi (fun (r : Int32) (u : va_W) => r = 0 ∧ u = [(mo, .inr (6, [.int 2, .ref q1, .int (nI g), .ref q3, .ref q4, .ref q5, .ref q6, .int 0, .int gr, .int kd, .long w10, .ref q11, .int mk, .long w13, .long w14])), (q6, .inl (cI, 2, .inl (jl [nI n, nI n2])))]) (jw_B D vwCl (va_A [(mo, .inr (6, [.int z0, .ref q1, .int (nI g), .ref q3, .ref q4, .ref q5, .ref q6, .int 0, .int gr, .int kd, .long w10, .ref q11, .int mk, .long w13, .long w14])), (q6, .inl (cI, 2, .inl (jl [nI n, nI n2])))] sz) (fun u : va_W => u)) (va_A [(mo, .inr (6, [.int z0, .ref q1, .int (nI g), .ref q3, .ref q4, .ref q5, .ref q6, .int 0, .int gr, .int kd, .long w10, .ref q11, .int mk, .long w13, .long w14])), (q6, .inl (cI, 2, .inl (jl [nI n, nI n2])))] sz)) 0 0 (va_A [(mo, .inr (6, [.int z0, .ref q1, .int (nI g), .ref q3, .ref q4, .ref q5, .ref q6, .int 0, .int gr, .int kd, .long w10, .ref q11, .int mk, .long w13, .long w14])), (q6, .inl (cI, 2, .inl (jl [nI n, nI n2])))] sz) := by
  refine Met.ofW (cc := cX6_sorted) (maxL := 5) (ret := (some .int)) (by decide) rfl ?_
  intro p e s m args below meth c s₁ B hml hv
  obtain ⟨rfl, hsz, hP, hK, hN, hD0⟩ := hv
  have hx := B.exec
  have hb := B.bytes
  have hr := B.returns
  have hts := atoms_spec (ws := wsX6_sorted) B.pre
  have hown : s.vm.findClass RX6 = some m.cls := findClass_of_methodNamed B.named
  have hlocks := B.notSynchronized
  subst hsz
  have hD := hD0.self (sz := s.heap.size)
  generalize hAe : va_A [(mo, .inr (6, [.int z0, .ref q1, .int (nI g), .ref q3, .ref q4, .ref q5, .ref q6, .int 0, .int gr, .int kd, .long w10, .ref q11, .int mk, .long w13, .long w14])), (q6, .inl (cI, 2, .inl (jl [nI n, nI n2])))] s.heap.size = A at hD ⊢
  have hA : ∀ q : Nat, s.heap.size ≤ q → A q := fun q h => by rw [← hAe]; exact Or.inr h
  have hS : va_S A s.heap s.heap [] := va_S.rf
  have hl := lv_entry ([.ref mo, .int 0, .int x, .int y]) (n := 5) (Nat.le_of_ble_eq_true rfl)
  rw [lg_entry_eq]
  generalize (lg_sl ([.ref mo, .int 0, .int x, .int y]) ++ List.replicate (5 - (lg_sl ([.ref mo, .int 0, .int x, .int y])).length) Slot.unset).toArray = ls at hl ⊢
  have hl : lv_has ls 5 [(0, .ref mo), (1, .int 0), (2, .int x), (3, .int y)] := hl
  refine lv_iload_n hx hb dX6_sorted_0 rfl (lv_at hl 1 rfl) ?_
  refine lv_if_eq (tgt := 8) hx hb dX6_sorted_1 (by decide) (fun c_1 => ?_) (fun c_1 => absurd c_1 (by decide))
  refine lv_iconst (v := 1) hx hb dX6_sorted_8 (by decide) ?_
  refine lv_istore (lv' := [(4, .int 1), (0, .ref mo), (1, .int 0), (2, .int x), (3, .int y)]) hx hb dX6_sorted_9 hl (by decide) rfl (fun ls hl => ?_)
  refine lv_aload_n hx hb dX6_sorted_11 rfl (lv_at hl 1 rfl) ?_
  refine lv_iload_n hx hb dX6_sorted_12 rfl (lv_at hl 3 rfl) ?_
  refine lv_if_lt (tgt := 36) hx hb dX6_sorted_13 (by decide) (fun c_2 => absurd c_2 (by exact h1)) (fun c_2 => ?_)
  refine lv_iload_n hx hb dX6_sorted_16 rfl (lv_at hl 3 rfl) ?_
  refine lv_aload_n hx hb dX6_sorted_17 rfl (lv_at hl 1 rfl) ?_
  refine va_get (D := D) (ci := 6) (v := .ref q6) (C := RX6) (T := TX6) (N := 15) hx hb hts (by decide +kernel) hown hK hP 0 rfl rfl 6 (by decide) (hts (.fieldLink RX6 22 "JoinDeskModel" "many" "[I") (by decide +kernel)) (fun _ h9 => h9) rfl dX6_sorted_18 ?_
  refine lv_iload hx hb dX6_sorted_21 (lv_at hl 0 rfl) ?_
  refine va_iald hx hb hK hP 1 0 rfl rfl (by unfold vp_in; decide) dX6_sorted_23 ?_
  refine W.eq (g2 := F0 m 24 ls [.int (nI n2), .int x, .ref mo]) rfl ?_
  refine lv_icmp_ge (tgt := 36) hx hb dX6_sorted_24 (by decide) (fun c_3 => absurd c_3 (by exact h2)) (fun c_3 => ?_)
  refine lv_iload_n hx hb dX6_sorted_27 rfl (lv_at hl 4 rfl) ?_
  refine lv_if_lt (tgt := 36) hx hb dX6_sorted_28 (by decide) (fun c_4 => absurd c_4 (by exact h3)) (fun c_4 => ?_)
  refine lv_iload_n hx hb dX6_sorted_31 rfl (lv_at hl 4 rfl) ?_
  refine lv_iconst (v := 2) hx hb dX6_sorted_32 (by decide) ?_
  refine lv_icmp_le (tgt := 40) hx hb dX6_sorted_33 (by decide) (fun c_5 => ?_) (fun c_5 => absurd c_5 (by exact fun h => h h4))
  refine lv_aload_n hx hb dX6_sorted_40 rfl (lv_at hl 1 rfl) ?_
  refine va_get (D := D) (ci := 6) (v := .int 0) (C := RX6) (T := TX6) (N := 15) hx hb hts (by decide +kernel) hown hK hP 0 rfl rfl 7 (by decide) (hts (.fieldLink RX6 43 "JoinDeskModel" "prepared" "Z") (by decide +kernel)) (fun _ h9 => h9) rfl dX6_sorted_41 ?_
  refine lv_if_eq (tgt := 51) hx hb dX6_sorted_44 (by decide) (fun c_6 => ?_) (fun c_6 => absurd c_6 (by decide))
  refine lv_iconst (v := 2) hx hb dX6_sorted_51 (by decide) ?_
  refine jw_i (wr := [(q6, .inl (cI, 2, .inl (jl [nI n, nI n2])))]) (va_runV (As := [.int 2]) (rest := []) ⟨hx, hb, hml, hown, hts⟩ (gM_refuses_2 l D cI cL cQ mo g q1 q3 q4 q5 q6 q11 z0 0 gr kd mk w10 w13 w14 _) (cwV 1 hts gX6_sorted_X6_refuses rfl rfl rfl (by decide +kernel) ⟨Nat.le_of_ble_eq_true rfl, Nat.le_of_ble_eq_true rfl⟩) (jw_V hK hN hP hD [0] (by decide) rfl 6 0 rfl rfl rfl) rfl rfl hl.1 rfl (lv_room (Nat.le_of_ble_eq_true rfl)) dX6_sorted_52 ⟨Nat.le_of_ble_eq_true rfl, Nat.le_of_ble_eq_true rfl⟩) hP hD hS hA [0] [1] rfl rfl (by decide) (by decide) (fun r u H locs f_7 hP hD hS => ?_)
  obtain ⟨rfl, rfl⟩ := f_7
  have hP : va_P D vwCl [(q6, .inl (cI, 2, .inl (jl [nI n, nI n2]))), (mo, .inr (6, [.int 2, .ref q1, .int (nI g), .ref q3, .ref q4, .ref q5, .ref q6, .int 0, .int gr, .int kd, .long w10, .ref q11, .int mk, .long w13, .long w14]))] H := hP
  have hD : va_D A [(q6, .inl (cI, 2, .inl (jl [nI n, nI n2]))), (mo, .inr (6, [.int 2, .ref q1, .int (nI g), .ref q3, .ref q4, .ref q5, .ref q6, .int 0, .int gr, .int kd, .long w10, .ref q11, .int mk, .long w13, .long w14]))] := hD
  refine lv_if_eq (tgt := 60) hx hb dX6_sorted_55 (by decide) (fun c_8 => absurd c_8 (by decide)) (fun c_8 => ?_)
  refine lv_iconst (v := 0) hx hb dX6_sorted_58 (by decide) ?_
  have hP := hP.sub (ws' := [(mo, .inr (6, [.int 2, .ref q1, .int (nI g), .ref q3, .ref q4, .ref q5, .ref q6, .int 0, .int gr, .int kd, .long w10, .ref q11, .int mk, .long w13, .long w14])), (q6, .inl (cI, 2, .inl (jl [nI n, nI n2])))]) [1, 0] rfl
  have hD := hD.sub (ws' := [(mo, .inr (6, [.int 2, .ref q1, .int (nI g), .ref q3, .ref q4, .ref q5, .ref q6, .int 0, .int gr, .int kd, .long w10, .ref q11, .int mk, .long w13, .long w14])), (q6, .inl (cI, 2, .inl (jl [nI n, nI n2])))]) [1, 0] (by decide) rfl
  refine W.widen (k := 0) (n := 0) (by omega) (by omega) ?_
  exact W.iret (v := 0) hx hb hr (fun t ht hW => ⟨⟨0, [(mo, .inr (6, [.int 2, .ref q1, .int (nI g), .ref q3, .ref q4, .ref q5, .ref q6, .int 0, .int gr, .int kd, .long w10, .ref q11, .int mk, .long w13, .long w14])), (q6, .inl (cI, 2, .inl (jl [nI n, nI n2])))], rfl, (by exact ⟨rfl, rfl⟩), by rw [ht]; exact hP, hD⟩, hS.F ht⟩) hS.2.2 dX6_sorted_59
set_option maxHeartbeats 1000000 in
set_option maxRecDepth 100000 in
theorem gM_sorted_00 (l : Launch) (D : va_G) (cI cL cQ : ClassId) (mo : Nat) (g : Nat) (n : Nat) (n2 : Nat) (q1 : Nat) (q3 : Nat) (q4 : Nat) (q5 : Nat) (q6 : Nat) (q11 : Nat) (z0 : Int32) (gr : Int32) (kd : Int32) (mk : Int32) (w10 : Int64) (w13 : Int64) (w14 : Int64) (m3 : Nat → Int32) (m4 : Nat → Int32) (m5 : Nat → Int32) (i : Nat) (sz : Nat) (hn2 : n2 ≤ 400) (h5 : jo5 m5) (hi : i < n2) : Met l yX6_sorted wsX6_sorted ({ frames := 1, cells := 0, slots := 0, locals := 22 }) (jw_P D vwCl (jT cI cL cQ) cL cQ [.ref mo, .int 0, .int (nI i), .int 0] [(mo, .inr (6, [.int z0, .ref q1, .int (nI g), .ref q3, .ref q4, .ref q5, .ref q6, .int 1, .int gr, .int kd, .long w10, .ref q11, .int mk, .long w13, .long w14])), (q3, .inl (cI, 800, .inl m3)), (q4, .inl (cI, 800, .inl m4)), (q5, .inl (cI, 800, .inl m5)), (q6, .inl (cI, 2, .inl (jl [nI n, nI n2])))] sz) (va_Qi (fun (r : Int32) (u : va_W) => r = jmk 400 m3 m5 i ∧ u = [(mo, .inr (6, [.int 0, .ref q1, .int (nI g), .ref q3, .ref q4, .ref q5, .ref q6, .int 1, .int gr, .int kd, .long w10, .ref q11, .int mk, .long w13, .long w14])), (q3, .inl (cI, 800, .inl m3)), (q4, .inl (cI, 800, .inl m4)), (q5, .inl (cI, 800, .inl m5)), (q6, .inl (cI, 2, .inl (jl [nI n, nI n2])))]) (jw_B D vwCl (va_A [(mo, .inr (6, [.int z0, .ref q1, .int (nI g), .ref q3, .ref q4, .ref q5, .ref q6, .int 1, .int gr, .int kd, .long w10, .ref q11, .int mk, .long w13, .long w14])), (q3, .inl (cI, 800, .inl m3)), (q4, .inl (cI, 800, .inl m4)), (q5, .inl (cI, 800, .inl m5)), (q6, .inl (cI, 2, .inl (jl [nI n, nI n2])))] sz) (fun u : va_W => u)) (va_A [(mo, .inr (6, [.int z0, .ref q1, .int (nI g), .ref q3, .ref q4, .ref q5, .ref q6, .int 1, .int gr, .int kd, .long w10, .ref q11, .int mk, .long w13, .long w14])), (q3, .inl (cI, 800, .inl m3)), (q4, .inl (cI, 800, .inl m4)), (q5, .inl (cI, 800, .inl m5)), (q6, .inl (cI, 2, .inl (jl [nI n, nI n2])))] sz)) 0 0 (va_A [(mo, .inr (6, [.int z0, .ref q1, .int (nI g), .ref q3, .ref q4, .ref q5, .ref q6, .int 1, .int gr, .int kd, .long w10, .ref q11, .int mk, .long w13, .long w14])), (q3, .inl (cI, 800, .inl m3)), (q4, .inl (cI, 800, .inl m4)), (q5, .inl (cI, 800, .inl m5)), (q6, .inl (cI, 2, .inl (jl [nI n, nI n2])))] sz) := by
  refine Met.ofW (cc := cX6_sorted) (maxL := 5) (ret := (some .int)) (by decide) rfl ?_
  intro p e s m args below meth c s₁ B hml hv
  obtain ⟨rfl, hsz, hP, hK, hN, hD0⟩ := hv
  have hx := B.exec
  have hb := B.bytes
  have hr := B.returns
  have hts := atoms_spec (ws := wsX6_sorted) B.pre
  have hown : s.vm.findClass RX6 = some m.cls := findClass_of_methodNamed B.named
  have hlocks := B.notSynchronized
  subst hsz
  have hD := hD0.self (sz := s.heap.size)
  generalize hAe : va_A [(mo, .inr (6, [.int z0, .ref q1, .int (nI g), .ref q3, .ref q4, .ref q5, .ref q6, .int 1, .int gr, .int kd, .long w10, .ref q11, .int mk, .long w13, .long w14])), (q3, .inl (cI, 800, .inl m3)), (q4, .inl (cI, 800, .inl m4)), (q5, .inl (cI, 800, .inl m5)), (q6, .inl (cI, 2, .inl (jl [nI n, nI n2])))] s.heap.size = A at hD ⊢
  have hA : ∀ q : Nat, s.heap.size ≤ q → A q := fun q h => by rw [← hAe]; exact Or.inr h
  have hS : va_S A s.heap s.heap [] := va_S.rf
  have hl := lv_entry ([.ref mo, .int 0, .int (nI i), .int 0]) (n := 5) (Nat.le_of_ble_eq_true rfl)
  rw [lg_entry_eq]
  generalize (lg_sl ([.ref mo, .int 0, .int (nI i), .int 0]) ++ List.replicate (5 - (lg_sl ([.ref mo, .int 0, .int (nI i), .int 0])).length) Slot.unset).toArray = ls at hl ⊢
  have hl : lv_has ls 5 [(0, .ref mo), (1, .int 0), (2, .int (nI i)), (3, .int 0)] := hl
  refine lv_iload_n hx hb dX6_sorted_0 rfl (lv_at hl 1 rfl) ?_
  refine lv_if_eq (tgt := 8) hx hb dX6_sorted_1 (by decide) (fun c_1 => ?_) (fun c_1 => absurd c_1 (by decide))
  refine lv_iconst (v := 1) hx hb dX6_sorted_8 (by decide) ?_
  refine lv_istore (lv' := [(4, .int 1), (0, .ref mo), (1, .int 0), (2, .int (nI i)), (3, .int 0)]) hx hb dX6_sorted_9 hl (by decide) rfl (fun ls hl => ?_)
  refine lv_aload_n hx hb dX6_sorted_11 rfl (lv_at hl 1 rfl) ?_
  refine lv_iload_n hx hb dX6_sorted_12 rfl (lv_at hl 3 rfl) ?_
  refine lv_if_lt (tgt := 36) hx hb dX6_sorted_13 (by decide) (fun c_2 => absurd c_2 (by exact nI_pos (by omega))) (fun c_2 => ?_)
  refine lv_iload_n hx hb dX6_sorted_16 rfl (lv_at hl 3 rfl) ?_
  refine lv_aload_n hx hb dX6_sorted_17 rfl (lv_at hl 1 rfl) ?_
  refine va_get (D := D) (ci := 6) (v := .ref q6) (C := RX6) (T := TX6) (N := 15) hx hb hts (by decide +kernel) hown hK hP 0 rfl rfl 6 (by decide) (hts (.fieldLink RX6 22 "JoinDeskModel" "many" "[I") (by decide +kernel)) (fun _ h9 => h9) rfl dX6_sorted_18 ?_
  refine lv_iload hx hb dX6_sorted_21 (lv_at hl 0 rfl) ?_
  refine va_iald hx hb hK hP 4 0 rfl rfl (by unfold vp_in; decide) dX6_sorted_23 ?_
  refine W.eq (g2 := F0 m 24 ls [.int (nI n2), .int (nI i), .ref mo]) rfl ?_
  refine lv_icmp_ge (tgt := 36) hx hb dX6_sorted_24 (by decide) (fun c_3 => absurd c_3 (by exact nI_ge hi (by omega))) (fun c_3 => ?_)
  refine lv_iload_n hx hb dX6_sorted_27 rfl (lv_at hl 4 rfl) ?_
  refine lv_if_lt (tgt := 36) hx hb dX6_sorted_28 (by decide) (fun c_4 => absurd c_4 (by decide)) (fun c_4 => ?_)
  refine lv_iload_n hx hb dX6_sorted_31 rfl (lv_at hl 4 rfl) ?_
  refine lv_iconst (v := 2) hx hb dX6_sorted_32 (by decide) ?_
  refine lv_icmp_le (tgt := 40) hx hb dX6_sorted_33 (by decide) (fun c_5 => ?_) (fun c_5 => absurd c_5 (by decide))
  refine lv_aload_n hx hb dX6_sorted_40 rfl (lv_at hl 1 rfl) ?_
  refine va_get (D := D) (ci := 6) (v := .int 1) (C := RX6) (T := TX6) (N := 15) hx hb hts (by decide +kernel) hown hK hP 0 rfl rfl 7 (by decide) (hts (.fieldLink RX6 43 "JoinDeskModel" "prepared" "Z") (by decide +kernel)) (fun _ h9 => h9) rfl dX6_sorted_41 ?_
  refine lv_if_eq (tgt := 51) hx hb dX6_sorted_44 (by decide) (fun c_6 => absurd c_6 (by decide)) (fun c_6 => ?_)
  refine lv_iconst (v := 0) hx hb dX6_sorted_47 (by decide) ?_
  refine lv_goto (tgt := 52) hx hb dX6_sorted_48 (by decide) ?_
  refine jw_i (wr := [(q3, .inl (cI, 800, .inl m3)), (q4, .inl (cI, 800, .inl m4)), (q5, .inl (cI, 800, .inl m5)), (q6, .inl (cI, 2, .inl (jl [nI n, nI n2])))]) (va_runV (As := [.int 0]) (rest := []) ⟨hx, hb, hml, hown, hts⟩ (gM_refuses_0 l D cI cL cQ mo g q1 q3 q4 q5 q6 q11 z0 1 gr kd mk w10 w13 w14 _) (cwV 1 hts gX6_sorted_X6_refuses rfl rfl rfl (by decide +kernel) ⟨Nat.le_of_ble_eq_true rfl, Nat.le_of_ble_eq_true rfl⟩) (jw_V hK hN hP hD [0] (by decide) rfl 6 0 rfl rfl rfl) rfl rfl hl.1 rfl (lv_room (Nat.le_of_ble_eq_true rfl)) dX6_sorted_52 ⟨Nat.le_of_ble_eq_true rfl, Nat.le_of_ble_eq_true rfl⟩) hP hD hS hA [0] [1, 2, 3, 4] rfl rfl (by decide) (by decide) (fun r u H locs f_7 hP hD hS => ?_)
  obtain ⟨rfl, rfl⟩ := f_7
  have hP : va_P D vwCl [(q3, .inl (cI, 800, .inl m3)), (q4, .inl (cI, 800, .inl m4)), (q5, .inl (cI, 800, .inl m5)), (q6, .inl (cI, 2, .inl (jl [nI n, nI n2]))), (mo, .inr (6, [.int 0, .ref q1, .int (nI g), .ref q3, .ref q4, .ref q5, .ref q6, .int 1, .int gr, .int kd, .long w10, .ref q11, .int mk, .long w13, .long w14]))] H := hP
  have hD : va_D A [(q3, .inl (cI, 800, .inl m3)), (q4, .inl (cI, 800, .inl m4)), (q5, .inl (cI, 800, .inl m5)), (q6, .inl (cI, 2, .inl (jl [nI n, nI n2]))), (mo, .inr (6, [.int 0, .ref q1, .int (nI g), .ref q3, .ref q4, .ref q5, .ref q6, .int 1, .int gr, .int kd, .long w10, .ref q11, .int mk, .long w13, .long w14]))] := hD
  refine lv_if_eq (tgt := 60) hx hb dX6_sorted_55 (by decide) (fun c_8 => ?_) (fun c_8 => absurd c_8 (by decide))
  refine lv_iload_n hx hb dX6_sorted_60 rfl (lv_at hl 4 rfl) ?_
  refine lv_if_ne (tgt := 74) hx hb dX6_sorted_61 (by decide) (fun c_9 => absurd c_9 (by decide)) (fun c_9 => ?_)
  refine lv_aload_n hx hb dX6_sorted_64 rfl (lv_at hl 1 rfl) ?_
  refine lv_iload hx hb dX6_sorted_65 (lv_at hl 0 rfl) ?_
  refine lv_iload_n hx hb dX6_sorted_67 rfl (lv_at hl 3 rfl) ?_
  refine vp_callSi (va_Run.run (va_runV (As := [.int 1, .int (nI i)]) (rest := []) ⟨hx, hb, hml, hown, hts⟩ (gM_key_1 l D cI cL cQ mo g q1 q3 q4 q5 q6 q11 0 1 gr kd mk w10 w13 w14 m3 m5 i (by first | assumption | decide | omega) (by omega)) (cwV 2 hts gX6_sorted_X6_key rfl rfl rfl (by decide +kernel) ⟨Nat.le_of_ble_eq_true rfl, Nat.le_of_ble_eq_true rfl⟩) (jr_V hK hN hP [4, 0, 2] rfl 6 4 rfl rfl rfl) rfl rfl hl.1 rfl (lv_room (Nat.le_of_ble_eq_true rfl)) dX6_sorted_68 ⟨Nat.le_of_ble_eq_true rfl, Nat.le_of_ble_eq_true rfl⟩)) (fun r f_10 => ?_)
  obtain rfl := f_10
  refine lv_goto (tgt := 102) hx hb dX6_sorted_71 (by decide) ?_
  have hP := hP.sub (ws' := [(mo, .inr (6, [.int 0, .ref q1, .int (nI g), .ref q3, .ref q4, .ref q5, .ref q6, .int 1, .int gr, .int kd, .long w10, .ref q11, .int mk, .long w13, .long w14])), (q3, .inl (cI, 800, .inl m3)), (q4, .inl (cI, 800, .inl m4)), (q5, .inl (cI, 800, .inl m5)), (q6, .inl (cI, 2, .inl (jl [nI n, nI n2])))]) [4, 0, 1, 2, 3] rfl
  have hD := hD.sub (ws' := [(mo, .inr (6, [.int 0, .ref q1, .int (nI g), .ref q3, .ref q4, .ref q5, .ref q6, .int 1, .int gr, .int kd, .long w10, .ref q11, .int mk, .long w13, .long w14])), (q3, .inl (cI, 800, .inl m3)), (q4, .inl (cI, 800, .inl m4)), (q5, .inl (cI, 800, .inl m5)), (q6, .inl (cI, 2, .inl (jl [nI n, nI n2])))]) [4, 0, 1, 2, 3] (by decide) rfl
  refine W.widen (k := 0) (n := 0) (by omega) (by omega) ?_
  exact W.iret (v := jmk 400 m3 m5 i) hx hb hr (fun t ht hW => ⟨⟨(jmk 400 m3 m5 i), [(mo, .inr (6, [.int 0, .ref q1, .int (nI g), .ref q3, .ref q4, .ref q5, .ref q6, .int 1, .int gr, .int kd, .long w10, .ref q11, .int mk, .long w13, .long w14])), (q3, .inl (cI, 800, .inl m3)), (q4, .inl (cI, 800, .inl m4)), (q5, .inl (cI, 800, .inl m5)), (q6, .inl (cI, 2, .inl (jl [nI n, nI n2])))], rfl, (⟨rfl, rfl⟩), by rw [ht]; exact hP, hD⟩, hS.F ht⟩) hS.2.2 dX6_sorted_102
set_option maxHeartbeats 1000000 in
set_option maxRecDepth 100000 in
theorem gM_sorted_01 (l : Launch) (D : va_G) (cI cL cQ : ClassId) (mo : Nat) (g : Nat) (n : Nat) (n2 : Nat) (q1 : Nat) (q3 : Nat) (q4 : Nat) (q5 : Nat) (q6 : Nat) (q11 : Nat) (z0 : Int32) (gr : Int32) (kd : Int32) (mk : Int32) (w10 : Int64) (w13 : Int64) (w14 : Int64) (m3 : Nat → Int32) (m4 : Nat → Int32) (m5 : Nat → Int32) (i : Nat) (sz : Nat) (hn2 : n2 ≤ 400) (h5 : jo5 m5) (hi : i < n2) : Met l yX6_sorted wsX6_sorted ({ frames := 1, cells := 0, slots := 0, locals := 22 }) (jw_P D vwCl (jT cI cL cQ) cL cQ [.ref mo, .int 0, .int (nI i), .int 1] [(mo, .inr (6, [.int z0, .ref q1, .int (nI g), .ref q3, .ref q4, .ref q5, .ref q6, .int 1, .int gr, .int kd, .long w10, .ref q11, .int mk, .long w13, .long w14])), (q3, .inl (cI, 800, .inl m3)), (q4, .inl (cI, 800, .inl m4)), (q5, .inl (cI, 800, .inl m5)), (q6, .inl (cI, 2, .inl (jl [nI n, nI n2])))] sz) (va_Qi (fun (r : Int32) (u : va_W) => r = jmk 400 m4 m5 i ∧ u = [(mo, .inr (6, [.int 0, .ref q1, .int (nI g), .ref q3, .ref q4, .ref q5, .ref q6, .int 1, .int gr, .int kd, .long w10, .ref q11, .int mk, .long w13, .long w14])), (q3, .inl (cI, 800, .inl m3)), (q4, .inl (cI, 800, .inl m4)), (q5, .inl (cI, 800, .inl m5)), (q6, .inl (cI, 2, .inl (jl [nI n, nI n2])))]) (jw_B D vwCl (va_A [(mo, .inr (6, [.int z0, .ref q1, .int (nI g), .ref q3, .ref q4, .ref q5, .ref q6, .int 1, .int gr, .int kd, .long w10, .ref q11, .int mk, .long w13, .long w14])), (q3, .inl (cI, 800, .inl m3)), (q4, .inl (cI, 800, .inl m4)), (q5, .inl (cI, 800, .inl m5)), (q6, .inl (cI, 2, .inl (jl [nI n, nI n2])))] sz) (fun u : va_W => u)) (va_A [(mo, .inr (6, [.int z0, .ref q1, .int (nI g), .ref q3, .ref q4, .ref q5, .ref q6, .int 1, .int gr, .int kd, .long w10, .ref q11, .int mk, .long w13, .long w14])), (q3, .inl (cI, 800, .inl m3)), (q4, .inl (cI, 800, .inl m4)), (q5, .inl (cI, 800, .inl m5)), (q6, .inl (cI, 2, .inl (jl [nI n, nI n2])))] sz)) 0 0 (va_A [(mo, .inr (6, [.int z0, .ref q1, .int (nI g), .ref q3, .ref q4, .ref q5, .ref q6, .int 1, .int gr, .int kd, .long w10, .ref q11, .int mk, .long w13, .long w14])), (q3, .inl (cI, 800, .inl m3)), (q4, .inl (cI, 800, .inl m4)), (q5, .inl (cI, 800, .inl m5)), (q6, .inl (cI, 2, .inl (jl [nI n, nI n2])))] sz) := by
  refine Met.ofW (cc := cX6_sorted) (maxL := 5) (ret := (some .int)) (by decide) rfl ?_
  intro p e s m args below meth c s₁ B hml hv
  obtain ⟨rfl, hsz, hP, hK, hN, hD0⟩ := hv
  have hx := B.exec
  have hb := B.bytes
  have hr := B.returns
  have hts := atoms_spec (ws := wsX6_sorted) B.pre
  have hown : s.vm.findClass RX6 = some m.cls := findClass_of_methodNamed B.named
  have hlocks := B.notSynchronized
  subst hsz
  have hD := hD0.self (sz := s.heap.size)
  generalize hAe : va_A [(mo, .inr (6, [.int z0, .ref q1, .int (nI g), .ref q3, .ref q4, .ref q5, .ref q6, .int 1, .int gr, .int kd, .long w10, .ref q11, .int mk, .long w13, .long w14])), (q3, .inl (cI, 800, .inl m3)), (q4, .inl (cI, 800, .inl m4)), (q5, .inl (cI, 800, .inl m5)), (q6, .inl (cI, 2, .inl (jl [nI n, nI n2])))] s.heap.size = A at hD ⊢
  have hA : ∀ q : Nat, s.heap.size ≤ q → A q := fun q h => by rw [← hAe]; exact Or.inr h
  have hS : va_S A s.heap s.heap [] := va_S.rf
  have hl := lv_entry ([.ref mo, .int 0, .int (nI i), .int 1]) (n := 5) (Nat.le_of_ble_eq_true rfl)
  rw [lg_entry_eq]
  generalize (lg_sl ([.ref mo, .int 0, .int (nI i), .int 1]) ++ List.replicate (5 - (lg_sl ([.ref mo, .int 0, .int (nI i), .int 1])).length) Slot.unset).toArray = ls at hl ⊢
  have hl : lv_has ls 5 [(0, .ref mo), (1, .int 0), (2, .int (nI i)), (3, .int 1)] := hl
  refine lv_iload_n hx hb dX6_sorted_0 rfl (lv_at hl 1 rfl) ?_
  refine lv_if_eq (tgt := 8) hx hb dX6_sorted_1 (by decide) (fun c_1 => ?_) (fun c_1 => absurd c_1 (by decide))
  refine lv_iconst (v := 1) hx hb dX6_sorted_8 (by decide) ?_
  refine lv_istore (lv' := [(4, .int 1), (0, .ref mo), (1, .int 0), (2, .int (nI i)), (3, .int 1)]) hx hb dX6_sorted_9 hl (by decide) rfl (fun ls hl => ?_)
  refine lv_aload_n hx hb dX6_sorted_11 rfl (lv_at hl 1 rfl) ?_
  refine lv_iload_n hx hb dX6_sorted_12 rfl (lv_at hl 3 rfl) ?_
  refine lv_if_lt (tgt := 36) hx hb dX6_sorted_13 (by decide) (fun c_2 => absurd c_2 (by exact nI_pos (by omega))) (fun c_2 => ?_)
  refine lv_iload_n hx hb dX6_sorted_16 rfl (lv_at hl 3 rfl) ?_
  refine lv_aload_n hx hb dX6_sorted_17 rfl (lv_at hl 1 rfl) ?_
  refine va_get (D := D) (ci := 6) (v := .ref q6) (C := RX6) (T := TX6) (N := 15) hx hb hts (by decide +kernel) hown hK hP 0 rfl rfl 6 (by decide) (hts (.fieldLink RX6 22 "JoinDeskModel" "many" "[I") (by decide +kernel)) (fun _ h9 => h9) rfl dX6_sorted_18 ?_
  refine lv_iload hx hb dX6_sorted_21 (lv_at hl 0 rfl) ?_
  refine va_iald hx hb hK hP 4 0 rfl rfl (by unfold vp_in; decide) dX6_sorted_23 ?_
  refine W.eq (g2 := F0 m 24 ls [.int (nI n2), .int (nI i), .ref mo]) rfl ?_
  refine lv_icmp_ge (tgt := 36) hx hb dX6_sorted_24 (by decide) (fun c_3 => absurd c_3 (by exact nI_ge hi (by omega))) (fun c_3 => ?_)
  refine lv_iload_n hx hb dX6_sorted_27 rfl (lv_at hl 4 rfl) ?_
  refine lv_if_lt (tgt := 36) hx hb dX6_sorted_28 (by decide) (fun c_4 => absurd c_4 (by decide)) (fun c_4 => ?_)
  refine lv_iload_n hx hb dX6_sorted_31 rfl (lv_at hl 4 rfl) ?_
  refine lv_iconst (v := 2) hx hb dX6_sorted_32 (by decide) ?_
  refine lv_icmp_le (tgt := 40) hx hb dX6_sorted_33 (by decide) (fun c_5 => ?_) (fun c_5 => absurd c_5 (by decide))
  refine lv_aload_n hx hb dX6_sorted_40 rfl (lv_at hl 1 rfl) ?_
  refine va_get (D := D) (ci := 6) (v := .int 1) (C := RX6) (T := TX6) (N := 15) hx hb hts (by decide +kernel) hown hK hP 0 rfl rfl 7 (by decide) (hts (.fieldLink RX6 43 "JoinDeskModel" "prepared" "Z") (by decide +kernel)) (fun _ h9 => h9) rfl dX6_sorted_41 ?_
  refine lv_if_eq (tgt := 51) hx hb dX6_sorted_44 (by decide) (fun c_6 => absurd c_6 (by decide)) (fun c_6 => ?_)
  refine lv_iconst (v := 0) hx hb dX6_sorted_47 (by decide) ?_
  refine lv_goto (tgt := 52) hx hb dX6_sorted_48 (by decide) ?_
  refine jw_i (wr := [(q3, .inl (cI, 800, .inl m3)), (q4, .inl (cI, 800, .inl m4)), (q5, .inl (cI, 800, .inl m5)), (q6, .inl (cI, 2, .inl (jl [nI n, nI n2])))]) (va_runV (As := [.int 0]) (rest := []) ⟨hx, hb, hml, hown, hts⟩ (gM_refuses_0 l D cI cL cQ mo g q1 q3 q4 q5 q6 q11 z0 1 gr kd mk w10 w13 w14 _) (cwV 1 hts gX6_sorted_X6_refuses rfl rfl rfl (by decide +kernel) ⟨Nat.le_of_ble_eq_true rfl, Nat.le_of_ble_eq_true rfl⟩) (jw_V hK hN hP hD [0] (by decide) rfl 6 0 rfl rfl rfl) rfl rfl hl.1 rfl (lv_room (Nat.le_of_ble_eq_true rfl)) dX6_sorted_52 ⟨Nat.le_of_ble_eq_true rfl, Nat.le_of_ble_eq_true rfl⟩) hP hD hS hA [0] [1, 2, 3, 4] rfl rfl (by decide) (by decide) (fun r u H locs f_7 hP hD hS => ?_)
  obtain ⟨rfl, rfl⟩ := f_7
  have hP : va_P D vwCl [(q3, .inl (cI, 800, .inl m3)), (q4, .inl (cI, 800, .inl m4)), (q5, .inl (cI, 800, .inl m5)), (q6, .inl (cI, 2, .inl (jl [nI n, nI n2]))), (mo, .inr (6, [.int 0, .ref q1, .int (nI g), .ref q3, .ref q4, .ref q5, .ref q6, .int 1, .int gr, .int kd, .long w10, .ref q11, .int mk, .long w13, .long w14]))] H := hP
  have hD : va_D A [(q3, .inl (cI, 800, .inl m3)), (q4, .inl (cI, 800, .inl m4)), (q5, .inl (cI, 800, .inl m5)), (q6, .inl (cI, 2, .inl (jl [nI n, nI n2]))), (mo, .inr (6, [.int 0, .ref q1, .int (nI g), .ref q3, .ref q4, .ref q5, .ref q6, .int 1, .int gr, .int kd, .long w10, .ref q11, .int mk, .long w13, .long w14]))] := hD
  refine lv_if_eq (tgt := 60) hx hb dX6_sorted_55 (by decide) (fun c_8 => ?_) (fun c_8 => absurd c_8 (by decide))
  refine lv_iload_n hx hb dX6_sorted_60 rfl (lv_at hl 4 rfl) ?_
  refine lv_if_ne (tgt := 74) hx hb dX6_sorted_61 (by decide) (fun c_9 => ?_) (fun c_9 => absurd c_9 (by decide))
  refine lv_iload_n hx hb dX6_sorted_74 rfl (lv_at hl 4 rfl) ?_
  refine lv_iconst (v := 1) hx hb dX6_sorted_75 (by decide) ?_
  refine lv_icmp_ne (tgt := 89) hx hb dX6_sorted_76 (by decide) (fun c_10 => absurd c_10 (by decide)) (fun c_10 => ?_)
  refine lv_aload_n hx hb dX6_sorted_79 rfl (lv_at hl 1 rfl) ?_
  refine lv_iload hx hb dX6_sorted_80 (lv_at hl 0 rfl) ?_
  refine lv_iload_n hx hb dX6_sorted_82 rfl (lv_at hl 3 rfl) ?_
  refine vp_callSi (va_Run.run (va_runV (As := [.int 1, .int (nI i)]) (rest := []) ⟨hx, hb, hml, hown, hts⟩ (gM_value_1 l D cI cL cQ mo g q1 q3 q4 q5 q6 q11 0 1 gr kd mk w10 w13 w14 m4 m5 i (by first | assumption | decide | omega) (by omega)) (cwV 2 hts gX6_sorted_X6_value rfl rfl rfl (by decide +kernel) ⟨Nat.le_of_ble_eq_true rfl, Nat.le_of_ble_eq_true rfl⟩) (jr_V hK hN hP [4, 1, 2] rfl 6 4 rfl rfl rfl) rfl rfl hl.1 rfl (lv_room (Nat.le_of_ble_eq_true rfl)) dX6_sorted_83 ⟨Nat.le_of_ble_eq_true rfl, Nat.le_of_ble_eq_true rfl⟩)) (fun r f_11 => ?_)
  obtain rfl := f_11
  refine lv_goto (tgt := 102) hx hb dX6_sorted_86 (by decide) ?_
  have hP := hP.sub (ws' := [(mo, .inr (6, [.int 0, .ref q1, .int (nI g), .ref q3, .ref q4, .ref q5, .ref q6, .int 1, .int gr, .int kd, .long w10, .ref q11, .int mk, .long w13, .long w14])), (q3, .inl (cI, 800, .inl m3)), (q4, .inl (cI, 800, .inl m4)), (q5, .inl (cI, 800, .inl m5)), (q6, .inl (cI, 2, .inl (jl [nI n, nI n2])))]) [4, 0, 1, 2, 3] rfl
  have hD := hD.sub (ws' := [(mo, .inr (6, [.int 0, .ref q1, .int (nI g), .ref q3, .ref q4, .ref q5, .ref q6, .int 1, .int gr, .int kd, .long w10, .ref q11, .int mk, .long w13, .long w14])), (q3, .inl (cI, 800, .inl m3)), (q4, .inl (cI, 800, .inl m4)), (q5, .inl (cI, 800, .inl m5)), (q6, .inl (cI, 2, .inl (jl [nI n, nI n2])))]) [4, 0, 1, 2, 3] (by decide) rfl
  refine W.widen (k := 0) (n := 0) (by omega) (by omega) ?_
  exact W.iret (v := jmk 400 m4 m5 i) hx hb hr (fun t ht hW => ⟨⟨(jmk 400 m4 m5 i), [(mo, .inr (6, [.int 0, .ref q1, .int (nI g), .ref q3, .ref q4, .ref q5, .ref q6, .int 1, .int gr, .int kd, .long w10, .ref q11, .int mk, .long w13, .long w14])), (q3, .inl (cI, 800, .inl m3)), (q4, .inl (cI, 800, .inl m4)), (q5, .inl (cI, 800, .inl m5)), (q6, .inl (cI, 2, .inl (jl [nI n, nI n2])))], rfl, (⟨rfl, rfl⟩), by rw [ht]; exact hP, hD⟩, hS.F ht⟩) hS.2.2 dX6_sorted_102
set_option maxHeartbeats 1000000 in
set_option maxRecDepth 100000 in
theorem gM_sorted_02 (l : Launch) (D : va_G) (cI cL cQ : ClassId) (mo : Nat) (g : Nat) (n : Nat) (n2 : Nat) (q1 : Nat) (q3 : Nat) (q4 : Nat) (q5 : Nat) (q6 : Nat) (q11 : Nat) (z0 : Int32) (gr : Int32) (kd : Int32) (mk : Int32) (w10 : Int64) (w13 : Int64) (w14 : Int64) (m3 : Nat → Int32) (m4 : Nat → Int32) (m5 : Nat → Int32) (i : Nat) (sz : Nat) (hn2 : n2 ≤ 400) (h5 : jo5 m5) (hi : i < n2) : Met l yX6_sorted wsX6_sorted ({ frames := 1, cells := 0, slots := 0, locals := 21 }) (jw_P D vwCl (jT cI cL cQ) cL cQ [.ref mo, .int 0, .int (nI i), .int 2] [(mo, .inr (6, [.int z0, .ref q1, .int (nI g), .ref q3, .ref q4, .ref q5, .ref q6, .int 1, .int gr, .int kd, .long w10, .ref q11, .int mk, .long w13, .long w14])), (q3, .inl (cI, 800, .inl m3)), (q4, .inl (cI, 800, .inl m4)), (q5, .inl (cI, 800, .inl m5)), (q6, .inl (cI, 2, .inl (jl [nI n, nI n2])))] sz) (va_Qi (fun (r : Int32) (u : va_W) => r = m5 (nI (400 + i)).toNatClampNeg ∧ u = [(mo, .inr (6, [.int 0, .ref q1, .int (nI g), .ref q3, .ref q4, .ref q5, .ref q6, .int 1, .int gr, .int kd, .long w10, .ref q11, .int mk, .long w13, .long w14])), (q3, .inl (cI, 800, .inl m3)), (q4, .inl (cI, 800, .inl m4)), (q5, .inl (cI, 800, .inl m5)), (q6, .inl (cI, 2, .inl (jl [nI n, nI n2])))]) (jw_B D vwCl (va_A [(mo, .inr (6, [.int z0, .ref q1, .int (nI g), .ref q3, .ref q4, .ref q5, .ref q6, .int 1, .int gr, .int kd, .long w10, .ref q11, .int mk, .long w13, .long w14])), (q3, .inl (cI, 800, .inl m3)), (q4, .inl (cI, 800, .inl m4)), (q5, .inl (cI, 800, .inl m5)), (q6, .inl (cI, 2, .inl (jl [nI n, nI n2])))] sz) (fun u : va_W => u)) (va_A [(mo, .inr (6, [.int z0, .ref q1, .int (nI g), .ref q3, .ref q4, .ref q5, .ref q6, .int 1, .int gr, .int kd, .long w10, .ref q11, .int mk, .long w13, .long w14])), (q3, .inl (cI, 800, .inl m3)), (q4, .inl (cI, 800, .inl m4)), (q5, .inl (cI, 800, .inl m5)), (q6, .inl (cI, 2, .inl (jl [nI n, nI n2])))] sz)) 0 0 (va_A [(mo, .inr (6, [.int z0, .ref q1, .int (nI g), .ref q3, .ref q4, .ref q5, .ref q6, .int 1, .int gr, .int kd, .long w10, .ref q11, .int mk, .long w13, .long w14])), (q3, .inl (cI, 800, .inl m3)), (q4, .inl (cI, 800, .inl m4)), (q5, .inl (cI, 800, .inl m5)), (q6, .inl (cI, 2, .inl (jl [nI n, nI n2])))] sz) := by
  refine Met.ofW (cc := cX6_sorted) (maxL := 5) (ret := (some .int)) (by decide) rfl ?_
  intro p e s m args below meth c s₁ B hml hv
  obtain ⟨rfl, hsz, hP, hK, hN, hD0⟩ := hv
  have hx := B.exec
  have hb := B.bytes
  have hr := B.returns
  have hts := atoms_spec (ws := wsX6_sorted) B.pre
  have hown : s.vm.findClass RX6 = some m.cls := findClass_of_methodNamed B.named
  have hlocks := B.notSynchronized
  subst hsz
  have hD := hD0.self (sz := s.heap.size)
  generalize hAe : va_A [(mo, .inr (6, [.int z0, .ref q1, .int (nI g), .ref q3, .ref q4, .ref q5, .ref q6, .int 1, .int gr, .int kd, .long w10, .ref q11, .int mk, .long w13, .long w14])), (q3, .inl (cI, 800, .inl m3)), (q4, .inl (cI, 800, .inl m4)), (q5, .inl (cI, 800, .inl m5)), (q6, .inl (cI, 2, .inl (jl [nI n, nI n2])))] s.heap.size = A at hD ⊢
  have hA : ∀ q : Nat, s.heap.size ≤ q → A q := fun q h => by rw [← hAe]; exact Or.inr h
  have hS : va_S A s.heap s.heap [] := va_S.rf
  have hl := lv_entry ([.ref mo, .int 0, .int (nI i), .int 2]) (n := 5) (Nat.le_of_ble_eq_true rfl)
  rw [lg_entry_eq]
  generalize (lg_sl ([.ref mo, .int 0, .int (nI i), .int 2]) ++ List.replicate (5 - (lg_sl ([.ref mo, .int 0, .int (nI i), .int 2])).length) Slot.unset).toArray = ls at hl ⊢
  have hl : lv_has ls 5 [(0, .ref mo), (1, .int 0), (2, .int (nI i)), (3, .int 2)] := hl
  refine lv_iload_n hx hb dX6_sorted_0 rfl (lv_at hl 1 rfl) ?_
  refine lv_if_eq (tgt := 8) hx hb dX6_sorted_1 (by decide) (fun c_1 => ?_) (fun c_1 => absurd c_1 (by decide))
  refine lv_iconst (v := 1) hx hb dX6_sorted_8 (by decide) ?_
  refine lv_istore (lv' := [(4, .int 1), (0, .ref mo), (1, .int 0), (2, .int (nI i)), (3, .int 2)]) hx hb dX6_sorted_9 hl (by decide) rfl (fun ls hl => ?_)
  refine lv_aload_n hx hb dX6_sorted_11 rfl (lv_at hl 1 rfl) ?_
  refine lv_iload_n hx hb dX6_sorted_12 rfl (lv_at hl 3 rfl) ?_
  refine lv_if_lt (tgt := 36) hx hb dX6_sorted_13 (by decide) (fun c_2 => absurd c_2 (by exact nI_pos (by omega))) (fun c_2 => ?_)
  refine lv_iload_n hx hb dX6_sorted_16 rfl (lv_at hl 3 rfl) ?_
  refine lv_aload_n hx hb dX6_sorted_17 rfl (lv_at hl 1 rfl) ?_
  refine va_get (D := D) (ci := 6) (v := .ref q6) (C := RX6) (T := TX6) (N := 15) hx hb hts (by decide +kernel) hown hK hP 0 rfl rfl 6 (by decide) (hts (.fieldLink RX6 22 "JoinDeskModel" "many" "[I") (by decide +kernel)) (fun _ h9 => h9) rfl dX6_sorted_18 ?_
  refine lv_iload hx hb dX6_sorted_21 (lv_at hl 0 rfl) ?_
  refine va_iald hx hb hK hP 4 0 rfl rfl (by unfold vp_in; decide) dX6_sorted_23 ?_
  refine W.eq (g2 := F0 m 24 ls [.int (nI n2), .int (nI i), .ref mo]) rfl ?_
  refine lv_icmp_ge (tgt := 36) hx hb dX6_sorted_24 (by decide) (fun c_3 => absurd c_3 (by exact nI_ge hi (by omega))) (fun c_3 => ?_)
  refine lv_iload_n hx hb dX6_sorted_27 rfl (lv_at hl 4 rfl) ?_
  refine lv_if_lt (tgt := 36) hx hb dX6_sorted_28 (by decide) (fun c_4 => absurd c_4 (by decide)) (fun c_4 => ?_)
  refine lv_iload_n hx hb dX6_sorted_31 rfl (lv_at hl 4 rfl) ?_
  refine lv_iconst (v := 2) hx hb dX6_sorted_32 (by decide) ?_
  refine lv_icmp_le (tgt := 40) hx hb dX6_sorted_33 (by decide) (fun c_5 => ?_) (fun c_5 => absurd c_5 (by decide))
  refine lv_aload_n hx hb dX6_sorted_40 rfl (lv_at hl 1 rfl) ?_
  refine va_get (D := D) (ci := 6) (v := .int 1) (C := RX6) (T := TX6) (N := 15) hx hb hts (by decide +kernel) hown hK hP 0 rfl rfl 7 (by decide) (hts (.fieldLink RX6 43 "JoinDeskModel" "prepared" "Z") (by decide +kernel)) (fun _ h9 => h9) rfl dX6_sorted_41 ?_
  refine lv_if_eq (tgt := 51) hx hb dX6_sorted_44 (by decide) (fun c_6 => absurd c_6 (by decide)) (fun c_6 => ?_)
  refine lv_iconst (v := 0) hx hb dX6_sorted_47 (by decide) ?_
  refine lv_goto (tgt := 52) hx hb dX6_sorted_48 (by decide) ?_
  refine jw_i (wr := [(q3, .inl (cI, 800, .inl m3)), (q4, .inl (cI, 800, .inl m4)), (q5, .inl (cI, 800, .inl m5)), (q6, .inl (cI, 2, .inl (jl [nI n, nI n2])))]) (va_runV (As := [.int 0]) (rest := []) ⟨hx, hb, hml, hown, hts⟩ (gM_refuses_0 l D cI cL cQ mo g q1 q3 q4 q5 q6 q11 z0 1 gr kd mk w10 w13 w14 _) (cwV 1 hts gX6_sorted_X6_refuses rfl rfl rfl (by decide +kernel) ⟨Nat.le_of_ble_eq_true rfl, Nat.le_of_ble_eq_true rfl⟩) (jw_V hK hN hP hD [0] (by decide) rfl 6 0 rfl rfl rfl) rfl rfl hl.1 rfl (lv_room (Nat.le_of_ble_eq_true rfl)) dX6_sorted_52 ⟨Nat.le_of_ble_eq_true rfl, Nat.le_of_ble_eq_true rfl⟩) hP hD hS hA [0] [1, 2, 3, 4] rfl rfl (by decide) (by decide) (fun r u H locs f_7 hP hD hS => ?_)
  obtain ⟨rfl, rfl⟩ := f_7
  have hP : va_P D vwCl [(q3, .inl (cI, 800, .inl m3)), (q4, .inl (cI, 800, .inl m4)), (q5, .inl (cI, 800, .inl m5)), (q6, .inl (cI, 2, .inl (jl [nI n, nI n2]))), (mo, .inr (6, [.int 0, .ref q1, .int (nI g), .ref q3, .ref q4, .ref q5, .ref q6, .int 1, .int gr, .int kd, .long w10, .ref q11, .int mk, .long w13, .long w14]))] H := hP
  have hD : va_D A [(q3, .inl (cI, 800, .inl m3)), (q4, .inl (cI, 800, .inl m4)), (q5, .inl (cI, 800, .inl m5)), (q6, .inl (cI, 2, .inl (jl [nI n, nI n2]))), (mo, .inr (6, [.int 0, .ref q1, .int (nI g), .ref q3, .ref q4, .ref q5, .ref q6, .int 1, .int gr, .int kd, .long w10, .ref q11, .int mk, .long w13, .long w14]))] := hD
  refine lv_if_eq (tgt := 60) hx hb dX6_sorted_55 (by decide) (fun c_8 => ?_) (fun c_8 => absurd c_8 (by decide))
  refine lv_iload_n hx hb dX6_sorted_60 rfl (lv_at hl 4 rfl) ?_
  refine lv_if_ne (tgt := 74) hx hb dX6_sorted_61 (by decide) (fun c_9 => ?_) (fun c_9 => absurd c_9 (by decide))
  refine lv_iload_n hx hb dX6_sorted_74 rfl (lv_at hl 4 rfl) ?_
  refine lv_iconst (v := 1) hx hb dX6_sorted_75 (by decide) ?_
  refine lv_icmp_ne (tgt := 89) hx hb dX6_sorted_76 (by decide) (fun c_10 => ?_) (fun c_10 => absurd c_10 (by decide))
  refine lv_aload_n hx hb dX6_sorted_89 rfl (lv_at hl 1 rfl) ?_
  refine va_get (D := D) (ci := 6) (v := .ref q5) (C := RX6) (T := TX6) (N := 15) hx hb hts (by decide +kernel) hown hK hP 4 rfl rfl 5 (by decide) (hts (.fieldLink RX6 19 "JoinDeskModel" "order" "[I") (by decide +kernel)) (fun _ h9 => h9) rfl dX6_sorted_90 ?_
  refine lv_sipush (v := 400) hx hb dX6_sorted_93 (by decide) ?_
  refine lv_iload hx hb dX6_sorted_96 (lv_at hl 0 rfl) ?_
  refine lv_imul hx hb dX6_sorted_98 ?_
  refine lv_topi (fun z_11 e_z_11 => ?_)
  obtain rfl : z_11 = 400 := e_z_11.trans (by decide)
  refine lv_iload_n hx hb dX6_sorted_99 rfl (lv_at hl 3 rfl) ?_
  refine lv_iadd hx hb dX6_sorted_100 ?_
  refine lv_topi (fun z_12 e_z_12 => ?_)
  obtain rfl : z_12 = nI (400 + i) := e_z_12.trans (nI_add 400 i)
  refine va_iald hx hb hK hP 2 0 rfl rfl (vp_in_nI (show 400 + i < 800 by omega) (by omega)) dX6_sorted_101 ?_
  have hP := hP.sub (ws' := [(mo, .inr (6, [.int 0, .ref q1, .int (nI g), .ref q3, .ref q4, .ref q5, .ref q6, .int 1, .int gr, .int kd, .long w10, .ref q11, .int mk, .long w13, .long w14])), (q3, .inl (cI, 800, .inl m3)), (q4, .inl (cI, 800, .inl m4)), (q5, .inl (cI, 800, .inl m5)), (q6, .inl (cI, 2, .inl (jl [nI n, nI n2])))]) [4, 0, 1, 2, 3] rfl
  have hD := hD.sub (ws' := [(mo, .inr (6, [.int 0, .ref q1, .int (nI g), .ref q3, .ref q4, .ref q5, .ref q6, .int 1, .int gr, .int kd, .long w10, .ref q11, .int mk, .long w13, .long w14])), (q3, .inl (cI, 800, .inl m3)), (q4, .inl (cI, 800, .inl m4)), (q5, .inl (cI, 800, .inl m5)), (q6, .inl (cI, 2, .inl (jl [nI n, nI n2])))]) [4, 0, 1, 2, 3] (by decide) rfl
  refine W.widen (k := 0) (n := 0) (by omega) (by omega) ?_
  exact W.iret (v := m5 (nI (400 + i)).toNatClampNeg) hx hb hr (fun t ht hW => ⟨⟨(m5 (nI (400 + i)).toNatClampNeg), [(mo, .inr (6, [.int 0, .ref q1, .int (nI g), .ref q3, .ref q4, .ref q5, .ref q6, .int 1, .int gr, .int kd, .long w10, .ref q11, .int mk, .long w13, .long w14])), (q3, .inl (cI, 800, .inl m3)), (q4, .inl (cI, 800, .inl m4)), (q5, .inl (cI, 800, .inl m5)), (q6, .inl (cI, 2, .inl (jl [nI n, nI n2])))], rfl, (⟨rfl, rfl⟩), by rw [ht]; exact hP, hD⟩, hS.F ht⟩) hS.2.2 dX6_sorted_102
