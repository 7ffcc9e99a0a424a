set_option maxHeartbeats 1000000 in
set_option maxRecDepth 100000 in
theorem gS_measure (l : Launch) (D : va_G) (cI cL cQ : ClassId) (h0 : Nat) (sz0 : Int32) (sa0 : Int64) (sb0 : Int64) (sc0 : Int64) (o0 : Nat) (a : Nat) (n : Nat) (pl : Nat) (ak : Nat) (av : Nat) (ao : Nat) (ap : Nat) (al : Nat) (af : Nat) (fk : Nat → Int32) (fv : Nat → Int32) (fo : Nat → Int32) (fr : Nat) (K : Nat → Int32) (V : Nat → Int32) (kx : Int32) (sz : Nat) (ha : a ≤ 400) (hn : n ≤ a) (ho : jord a fo) (hfr : fr < n) (hkk : ∀ i, i < n → jat n fk fo (nI i) = K i) (hvv : ∀ i, i < n → jat n fv fo (nI i) = V i) (hw : jMo n K) (hlb : jLb n K kx fr) (hx0 : K fr = kx) : Met l yX3_measure wsX3_measure ({ frames := 2, cells := 0, slots := 0, locals := 42 }) (jw_P D vwCl (jT cI cL cQ) cL cQ [.ref h0, .ref o0, .int (nI fr)] [(h0, .inr (3, [.int sz0, .long sa0, .long sb0, .long sc0])), (o0, .inr (4, [.int (nI a), .ref ak, .ref av, .ref ao, .ref ap, .ref al, .ref af, .int (nI n), .int (nI pl)])), (ak, .inl (cI, a, .inl fk)), (av, .inl (cI, a, .inl fv)), (ao, .inl (cI, a, .inl fo))] sz) (va_Qv (fun u : va_W => ∃ (ez : Int32) (ea : Int64) (eb : Int64) (ec : Int64), u = [(h0, .inr (3, [.int ez, .long ea, .long eb, .long ec])), (o0, .inr (4, [.int (nI a), .ref ak, .ref av, .ref ao, .ref ap, .ref al, .ref af, .int (nI n), .int (nI pl)])), (ak, .inl (cI, a, .inl fk)), (av, .inl (cI, a, .inl fv)), (ao, .inl (cI, a, .inl fo))] ∧ (jSp n K V kx ez ea eb ec)) (jw_B D vwCl (va_A [(h0, .inr (3, [.int sz0, .long sa0, .long sb0, .long sc0])), (o0, .inr (4, [.int (nI a), .ref ak, .ref av, .ref ao, .ref ap, .ref al, .ref af, .int (nI n), .int (nI pl)])), (ak, .inl (cI, a, .inl fk)), (av, .inl (cI, a, .inl fv)), (ao, .inl (cI, a, .inl fo))] sz) (fun u : va_W => u)) (va_A [(h0, .inr (3, [.int sz0, .long sa0, .long sb0, .long sc0])), (o0, .inr (4, [.int (nI a), .ref ak, .ref av, .ref ao, .ref ap, .ref al, .ref af, .int (nI n), .int (nI pl)])), (ak, .inl (cI, a, .inl fk)), (av, .inl (cI, a, .inl fv)), (ao, .inl (cI, a, .inl fo))] sz)) 0 0 (va_A [(h0, .inr (3, [.int sz0, .long sa0, .long sb0, .long sc0])), (o0, .inr (4, [.int (nI a), .ref ak, .ref av, .ref ao, .ref ap, .ref al, .ref af, .int (nI n), .int (nI pl)])), (ak, .inl (cI, a, .inl fk)), (av, .inl (cI, a, .inl fv)), (ao, .inl (cI, a, .inl fo))] sz) := by
  refine Met.ofW (cc := cX3_measure) (maxL := 7) (ret := none) (by decide) rfl ?_
  intro p e s m args below meth c s₁ B hml hv
  obtain ⟨rfl, hsz, hP, hK, hN, hD0⟩ := hv
  have hx := B.exec
  have hb := B.bytes
  have hr := B.returns
  have hts := atoms_spec (ws := wsX3_measure) B.pre
  have hown : s.vm.findClass RX3 = some m.cls := findClass_of_methodNamed B.named
  have hlocks := B.notSynchronized
  subst hsz
  have hD := hD0.self (sz := s.heap.size)
  generalize hAe : va_A [(h0, .inr (3, [.int sz0, .long sa0, .long sb0, .long sc0])), (o0, .inr (4, [.int (nI a), .ref ak, .ref av, .ref ao, .ref ap, .ref al, .ref af, .int (nI n), .int (nI pl)])), (ak, .inl (cI, a, .inl fk)), (av, .inl (cI, a, .inl fv)), (ao, .inl (cI, a, .inl fo))] s.heap.size = A at hD ⊢
  have hA : ∀ q : Nat, s.heap.size ≤ q → A q := fun q h => by rw [← hAe]; exact Or.inr h
  have hS : va_S A s.heap s.heap [] := va_S.rf
  have hl := lv_entry ([.ref h0, .ref o0, .int (nI fr)]) (n := 7) (Nat.le_of_ble_eq_true rfl)
  rw [lg_entry_eq]
  generalize (lg_sl ([.ref h0, .ref o0, .int (nI fr)]) ++ List.replicate (7 - (lg_sl ([.ref h0, .ref o0, .int (nI fr)])).length) Slot.unset).toArray = ls at hl ⊢
  have hl : lv_has ls 7 [(0, .ref h0), (1, .ref o0), (2, .int (nI fr))] := hl
  refine lv_aload_n hx hb dX3_measure_0 rfl (lv_at hl 0 rfl) ?_
  refine lv_iconst (v := 0) hx hb dX3_measure_1 (by decide) ?_
  refine va_put (D := D) (ci := 3) (v := .int 0) (ty := .int) (C := RX3) (T := TX3) (N := 4) hx hb hts (by decide +kernel) tyX3 tyX3_ok nmX3 hown hK hP hD hS 0 rfl rfl 0 (by decide) (hts (.fieldLink RX3 7 "JoinDesk$Span" "rows" "I") (by decide +kernel)) (fun _ h9 => h9) rfl (by decide +kernel) rfl rfl (Nat.le_of_ble_eq_true rfl) dX3_measure_2 (fun H locs hP hD hS => ?_)
  have hP : va_P D vwCl [(h0, .inr (3, [.int 0, .long sa0, .long sb0, .long sc0])), (o0, .inr (4, [.int (nI a), .ref ak, .ref av, .ref ao, .ref ap, .ref al, .ref af, .int (nI n), .int (nI pl)])), (ak, .inl (cI, a, .inl fk)), (av, .inl (cI, a, .inl fv)), (ao, .inl (cI, a, .inl fo))] H := hP
  have hD : va_D A [(h0, .inr (3, [.int 0, .long sa0, .long sb0, .long sc0])), (o0, .inr (4, [.int (nI a), .ref ak, .ref av, .ref ao, .ref ap, .ref al, .ref af, .int (nI n), .int (nI pl)])), (ak, .inl (cI, a, .inl fk)), (av, .inl (cI, a, .inl fv)), (ao, .inl (cI, a, .inl fo))] := hD
  refine lv_aload_n hx hb dX3_measure_5 rfl (lv_at hl 0 rfl) ?_
  refine lv_lconst (v := 0) hx hb dX3_measure_6 (by decide) ?_
  refine va_put (D := D) (ci := 3) (v := .long 0) (ty := .long) (C := RX3) (T := TX3) (N := 4) hx hb hts (by decide +kernel) tyX3 tyX3_ok nmX3 hown hK hP hD hS 0 rfl rfl 1 (by decide) (hts (.fieldLink RX3 13 "JoinDesk$Span" "sum" "J") (by decide +kernel)) (fun _ h9 => h9) rfl (by decide +kernel) rfl rfl (Nat.le_of_ble_eq_true rfl) dX3_measure_7 (fun H locs hP hD hS => ?_)
  have hP : va_P D vwCl [(h0, .inr (3, [.int 0, .long 0, .long sb0, .long sc0])), (o0, .inr (4, [.int (nI a), .ref ak, .ref av, .ref ao, .ref ap, .ref al, .ref af, .int (nI n), .int (nI pl)])), (ak, .inl (cI, a, .inl fk)), (av, .inl (cI, a, .inl fv)), (ao, .inl (cI, a, .inl fo))] H := hP
  have hD : va_D A [(h0, .inr (3, [.int 0, .long 0, .long sb0, .long sc0])), (o0, .inr (4, [.int (nI a), .ref ak, .ref av, .ref ao, .ref ap, .ref al, .ref af, .int (nI n), .int (nI pl)])), (ak, .inl (cI, a, .inl fk)), (av, .inl (cI, a, .inl fv)), (ao, .inl (cI, a, .inl fo))] := hD
  refine lv_aload_n hx hb dX3_measure_10 rfl (lv_at hl 0 rfl) ?_
  refine lv_aload_n hx hb dX3_measure_11 rfl (lv_at hl 1 rfl) ?_
  refine lv_iload_n hx hb dX3_measure_12 rfl (lv_at hl 2 rfl) ?_
  refine vp_callSi (va_Run.run (va_runV (As := [.int (nI fr)]) (rest := [.ref h0]) ⟨hx, hb, hml, hown, hts⟩ (gT_valueAt l D cI cL cQ o0 a n pl ak av ao ap al af fv fo (nI fr) (by first | assumption | decide | omega) (by first | assumption | decide | omega) (by first | assumption | decide | omega)) (cwV 1 hts gX3_measure_X4_valueAt rfl rfl rfl (by decide +kernel) ⟨Nat.le_of_ble_eq_true rfl, Nat.le_of_ble_eq_true rfl⟩) (jr_V hK hN hP [1, 3, 4] rfl 4 1 rfl rfl rfl) rfl rfl hl.1 rfl (lv_room (Nat.le_of_ble_eq_true rfl)) dX3_measure_13 ⟨Nat.le_of_ble_eq_true rfl, Nat.le_of_ble_eq_true rfl⟩)) (fun r f_1 => ?_)
  obtain rfl := f_1
  refine lv_i2l (v := (jat n fv fo (nI fr)).toInt64) hx hb dX3_measure_16 (by first | rfl | decide) ?_
  refine va_put (D := D) (ci := 3) (v := .long ((jat n fv fo (nI fr)).toInt64)) (ty := .long) (C := RX3) (T := TX3) (N := 4) hx hb hts (by decide +kernel) tyX3 tyX3_ok nmX3 hown hK hP hD hS 0 rfl rfl 2 (by decide) (hts (.fieldLink RX3 23 "JoinDesk$Span" "least" "J") (by decide +kernel)) (fun _ h9 => h9) rfl (by decide +kernel) rfl rfl (Nat.le_of_ble_eq_true rfl) dX3_measure_17 (fun H locs hP hD hS => ?_)
  have hP : va_P D vwCl [(h0, .inr (3, [.int 0, .long 0, .long ((jat n fv fo (nI fr)).toInt64), .long sc0])), (o0, .inr (4, [.int (nI a), .ref ak, .ref av, .ref ao, .ref ap, .ref al, .ref af, .int (nI n), .int (nI pl)])), (ak, .inl (cI, a, .inl fk)), (av, .inl (cI, a, .inl fv)), (ao, .inl (cI, a, .inl fo))] H := hP
  have hD : va_D A [(h0, .inr (3, [.int 0, .long 0, .long ((jat n fv fo (nI fr)).toInt64), .long sc0])), (o0, .inr (4, [.int (nI a), .ref ak, .ref av, .ref ao, .ref ap, .ref al, .ref af, .int (nI n), .int (nI pl)])), (ak, .inl (cI, a, .inl fk)), (av, .inl (cI, a, .inl fv)), (ao, .inl (cI, a, .inl fo))] := hD
  refine lv_aload_n hx hb dX3_measure_20 rfl (lv_at hl 0 rfl) ?_
  refine lv_aload_n hx hb dX3_measure_21 rfl (lv_at hl 0 rfl) ?_
  refine va_get (D := D) (ci := 3) (v := .long ((jat n fv fo (nI fr)).toInt64)) (C := RX3) (T := TX3) (N := 4) hx hb hts (by decide +kernel) hown hK hP 0 rfl rfl 2 (by decide) (hts (.fieldLink RX3 23 "JoinDesk$Span" "least" "J") (by decide +kernel)) (fun _ h9 => h9) rfl dX3_measure_22 ?_
  refine va_put (D := D) (ci := 3) (v := .long ((jat n fv fo (nI fr)).toInt64)) (ty := .long) (C := RX3) (T := TX3) (N := 4) hx hb hts (by decide +kernel) tyX3 tyX3_ok nmX3 hown hK hP hD hS 0 rfl rfl 3 (by decide) (hts (.fieldLink RX3 26 "JoinDesk$Span" "greatest" "J") (by decide +kernel)) (fun _ h9 => h9) rfl (by decide +kernel) rfl rfl (Nat.le_of_ble_eq_true rfl) dX3_measure_25 (fun H locs hP hD hS => ?_)
  have hP : va_P D vwCl [(h0, .inr (3, [.int 0, .long 0, .long ((jat n fv fo (nI fr)).toInt64), .long ((jat n fv fo (nI fr)).toInt64)])), (o0, .inr (4, [.int (nI a), .ref ak, .ref av, .ref ao, .ref ap, .ref al, .ref af, .int (nI n), .int (nI pl)])), (ak, .inl (cI, a, .inl fk)), (av, .inl (cI, a, .inl fv)), (ao, .inl (cI, a, .inl fo))] H := hP
  have hD : va_D A [(h0, .inr (3, [.int 0, .long 0, .long ((jat n fv fo (nI fr)).toInt64), .long ((jat n fv fo (nI fr)).toInt64)])), (o0, .inr (4, [.int (nI a), .ref ak, .ref av, .ref ao, .ref ap, .ref al, .ref af, .int (nI n), .int (nI pl)])), (ak, .inl (cI, a, .inl fk)), (av, .inl (cI, a, .inl fv)), (ao, .inl (cI, a, .inl fo))] := hD
  refine lv_aload_n hx hb dX3_measure_28 rfl (lv_at hl 1 rfl) ?_
  refine lv_iload_n hx hb dX3_measure_29 rfl (lv_at hl 2 rfl) ?_
  refine vp_callSi (va_Run.run (va_runV (As := [.int (nI fr)]) (rest := []) ⟨hx, hb, hml, hown, hts⟩ (gT_keyAt l D cI cL cQ o0 a n pl ak av ao ap al af fk fo (nI fr) (by first | assumption | decide | omega) (by first | assumption | decide | omega) (by first | assumption | decide | omega)) (cwV 1 hts gX3_measure_X4_keyAt rfl rfl rfl (by decide +kernel) ⟨Nat.le_of_ble_eq_true rfl, Nat.le_of_ble_eq_true rfl⟩) (jr_V hK hN hP [1, 2, 4] rfl 4 1 rfl rfl rfl) rfl rfl hl.1 rfl (lv_room (Nat.le_of_ble_eq_true rfl)) dX3_measure_30 ⟨Nat.le_of_ble_eq_true rfl, Nat.le_of_ble_eq_true rfl⟩)) (fun r f_2 => ?_)
  obtain rfl := f_2
  refine lv_istore_n (lv' := [(3, .int (jat n fk fo (nI fr))), (0, .ref h0), (1, .ref o0), (2, .int (nI fr))]) hx hb dX3_measure_33 rfl hl (by decide) rfl (fun ls hl => ?_)
  refine lv_iload_n hx hb dX3_measure_34 rfl (lv_at hl 3 rfl) ?_
  refine lv_istore (lv' := [(4, .int (nI fr)), (3, .int (jat n fk fo (nI fr))), (0, .ref h0), (1, .ref o0), (2, .int (nI fr))]) hx hb dX3_measure_35 hl (by decide) rfl (fun ls hl => ?_)
  have hloop_1 : ∀ (k_1 : Nat) (i : Nat) (uz : Int32) (ua : Int64) (ub : Int64) (uc : Int64), n - i < k_1 → (i ≤ n) → (fr ≤ i) → (jSw n K V kx i uz ua ub uc) → ∀ (H : Heap) (locs : List Loc), va_P D vwCl [(h0, .inr (3, [.int uz, .long ua, .long ub, .long uc])), (o0, .inr (4, [.int (nI a), .ref ak, .ref av, .ref ao, .ref ap, .ref al, .ref af, .int (nI n), .int (nI pl)])), (ak, .inl (cI, a, .inl fk)), (av, .inl (cI, a, .inl fv)), (ao, .inl (cI, a, .inl fo))] H → va_D A [(h0, .inr (3, [.int uz, .long ua, .long ub, .long uc])), (o0, .inr (4, [.int (nI a), .ref ak, .ref av, .ref ao, .ref ap, .ref al, .ref af, .int (nI n), .int (nI pl)])), (ak, .inl (cI, a, .inl fk)), (av, .inl (cI, a, .inl fv)), (ao, .inl (cI, a, .inl fo))] → va_S A s.heap H locs → ∀ ls : Array Slot, lv_has ls 7 [(0, .ref h0), (1, .ref o0), (2, .int (nI fr)), (3, .int (jat n fk fo (nI fr))), (4, .int (nI i))] → W p l e (headSpec wsX3_measure ({ frames := 2, cells := 0, slots := 0, locals := 42 })).room s m #[.ref h0, .ref o0, .int (nI fr)] below meth c H locs 0 0 (MQ below (va_Qv (fun u : va_W => ∃ (ez : Int32) (ea : Int64) (eb : Int64) (ec : Int64), u = [(h0, .inr (3, [.int ez, .long ea, .long eb, .long ec])), (o0, .inr (4, [.int (nI a), .ref ak, .ref av, .ref ao, .ref ap, .ref al, .ref af, .int (nI n), .int (nI pl)])), (ak, .inl (cI, a, .inl fk)), (av, .inl (cI, a, .inl fv)), (ao, .inl (cI, a, .inl fo))] ∧ (jSp n K V kx ez ea eb ec)) (jw_B D vwCl A (fun u : va_W => u)) A) #[.ref h0, .ref o0, .int (nI fr)] s 0 0 A) (F0 m 37 ls []) := by
    intro k_1
    induction k_1 with
    | zero => exact fun _ _ _ _ _ hm => absurd hm (Nat.not_lt_zero _)
    | succ k_1 ih_1 =>
      intro i uz ua ub uc hm1 hi hfi hsw H locs hP hD hS ls hl
      refine lv_iload hx hb dX3_measure_37 (lv_at hl 4 rfl) ?_
      refine lv_aload_n hx hb dX3_measure_39 rfl (lv_at hl 1 rfl) ?_
      refine vp_callSi (va_Run.run (va_runV (As := []) (rest := [.int (nI i)]) ⟨hx, hb, hml, hown, hts⟩ (gT_size l D cI cL cQ o0 a n pl ak av ao ap al af) (cwV 0 hts gX3_measure_X4_size rfl rfl rfl (by decide +kernel) ⟨Nat.le_of_ble_eq_true rfl, Nat.le_of_ble_eq_true rfl⟩) (jr_V hK hN hP [1] rfl 4 1 rfl rfl rfl) rfl rfl hl.1 rfl (lv_room (Nat.le_of_ble_eq_true rfl)) dX3_measure_40 ⟨Nat.le_of_ble_eq_true rfl, Nat.le_of_ble_eq_true rfl⟩)) (fun r f_3 => ?_)
      obtain rfl := f_3
      refine lv_icmp_ge (tgt := 118) hx hb dX3_measure_43 (by decide) (fun cge => ?_) (fun cge => ?_)
      · refine W.widen (k := 0) (n := 0) (by omega) (by omega) ?_
        exact W.vret hx hb hr (fun t ht hW => ⟨⟨[(h0, .inr (3, [.int uz, .long ua, .long ub, .long uc])), (o0, .inr (4, [.int (nI a), .ref ak, .ref av, .ref ao, .ref ap, .ref al, .ref af, .int (nI n), .int (nI pl)])), (ak, .inl (cI, a, .inl fk)), (av, .inl (cI, a, .inl fv)), (ao, .inl (cI, a, .inl fo))], rfl, (⟨_, _, _, _, rfl, jSw_n hsw hi (jrun_end hw hlb hfi (Or.inl (by rw [nI_leI (by omega) (by omega)] at cge; omega)))⟩), by rw [ht]; exact hP, hD⟩, hS.F ht⟩) hS.2.2 dX3_measure_118
      · refine lv_aload_n hx hb dX3_measure_46 rfl (lv_at hl 1 rfl) ?_
        refine lv_iload hx hb dX3_measure_47 (lv_at hl 4 rfl) ?_
        refine vp_callSi (va_Run.run (va_runV (As := [.int (nI i)]) (rest := []) ⟨hx, hb, hml, hown, hts⟩ (gT_keyAt l D cI cL cQ o0 a n pl ak av ao ap al af fk fo (nI i) (by first | assumption | decide | omega) (by first | assumption | decide | omega) (by first | assumption | decide | omega)) (cwV 1 hts gX3_measure_X4_keyAt rfl rfl rfl (by decide +kernel) ⟨Nat.le_of_ble_eq_true rfl, Nat.le_of_ble_eq_true rfl⟩) (jr_V hK hN hP [1, 2, 4] rfl 4 1 rfl rfl rfl) rfl rfl hl.1 rfl (lv_room (Nat.le_of_ble_eq_true rfl)) dX3_measure_49 ⟨Nat.le_of_ble_eq_true rfl, Nat.le_of_ble_eq_true rfl⟩)) (fun r f_4 => ?_)
        obtain rfl := f_4
        refine lv_iload_n hx hb dX3_measure_52 rfl (lv_at hl 3 rfl) ?_
        refine lv_icmp_ne (tgt := 118) hx hb dX3_measure_53 (by decide) (fun ckk => ?_) (fun ckk => ?_)
        · refine W.widen (k := 0) (n := 0) (by omega) (by omega) ?_
          exact W.vret hx hb hr (fun t ht hW => ⟨⟨[(h0, .inr (3, [.int uz, .long ua, .long ub, .long uc])), (o0, .inr (4, [.int (nI a), .ref ak, .ref av, .ref ao, .ref ap, .ref al, .ref af, .int (nI n), .int (nI pl)])), (ak, .inl (cI, a, .inl fk)), (av, .inl (cI, a, .inl fv)), (ao, .inl (cI, a, .inl fo))], rfl, (⟨_, _, _, _, rfl, jSw_n hsw hi (jrun_end hw hlb hfi (Or.inr (by rw [hkk i (by rw [nI_leI (by omega) (by omega)] at cge; omega), hkk fr hfr, hx0] at ckk; exact ckk)))⟩), by rw [ht]; exact hP, hD⟩, hS.F ht⟩) hS.2.2 dX3_measure_118
        · refine lv_aload_n hx hb dX3_measure_56 rfl (lv_at hl 1 rfl) ?_
          refine lv_iload hx hb dX3_measure_57 (lv_at hl 4 rfl) ?_
          refine vp_callSi (va_Run.run (va_runV (As := [.int (nI i)]) (rest := []) ⟨hx, hb, hml, hown, hts⟩ (gT_valueAt l D cI cL cQ o0 a n pl ak av ao ap al af fv fo (nI i) (by first | assumption | decide | omega) (by first | assumption | decide | omega) (by first | assumption | decide | omega)) (cwV 1 hts gX3_measure_X4_valueAt rfl rfl rfl (by decide +kernel) ⟨Nat.le_of_ble_eq_true rfl, Nat.le_of_ble_eq_true rfl⟩) (jr_V hK hN hP [1, 3, 4] rfl 4 1 rfl rfl rfl) rfl rfl hl.1 rfl (lv_room (Nat.le_of_ble_eq_true rfl)) dX3_measure_59 ⟨Nat.le_of_ble_eq_true rfl, Nat.le_of_ble_eq_true rfl⟩)) (fun r f_5 => ?_)
          obtain rfl := f_5
          refine lv_i2l (v := (jat n fv fo (nI i)).toInt64) hx hb dX3_measure_62 (by first | rfl | decide) ?_
          refine lv_lstore (lv' := [(5, .long ((jat n fv fo (nI i)).toInt64)), (0, .ref h0), (1, .ref o0), (2, .int (nI fr)), (3, .int (jat n fk fo (nI fr))), (4, .int (nI i))]) hx hb dX3_measure_63 hl (by decide) rfl (fun ls hl => ?_)
          refine lv_aload_n hx hb dX3_measure_65 rfl (lv_at hl 1 rfl) ?_
          refine lv_dup hx hb dX3_measure_66 rfl ?_
          refine va_get (D := D) (ci := 3) (v := .int uz) (C := RX3) (T := TX3) (N := 4) hx hb hts (by decide +kernel) hown hK hP 0 rfl rfl 0 (by decide) (hts (.fieldLink RX3 7 "JoinDesk$Span" "rows" "I") (by decide +kernel)) (fun _ h9 => h9) rfl dX3_measure_67 ?_
          refine lv_iconst (v := 1) hx hb dX3_measure_70 (by decide) ?_
          refine lv_iadd hx hb dX3_measure_71 ?_
          refine va_put (D := D) (ci := 3) (v := .int (uz + 1)) (ty := .int) (C := RX3) (T := TX3) (N := 4) hx hb hts (by decide +kernel) tyX3 tyX3_ok nmX3 hown hK hP hD hS 0 rfl rfl 0 (by decide) (hts (.fieldLink RX3 7 "JoinDesk$Span" "rows" "I") (by decide +kernel)) (fun _ h9 => h9) rfl (by decide +kernel) rfl rfl (Nat.le_of_ble_eq_true rfl) dX3_measure_72 (fun H locs hP hD hS => ?_)
          have hP : va_P D vwCl [(h0, .inr (3, [.int (uz + 1), .long ua, .long ub, .long uc])), (o0, .inr (4, [.int (nI a), .ref ak, .ref av, .ref ao, .ref ap, .ref al, .ref af, .int (nI n), .int (nI pl)])), (ak, .inl (cI, a, .inl fk)), (av, .inl (cI, a, .inl fv)), (ao, .inl (cI, a, .inl fo))] H := hP
          have hD : va_D A [(h0, .inr (3, [.int (uz + 1), .long ua, .long ub, .long uc])), (o0, .inr (4, [.int (nI a), .ref ak, .ref av, .ref ao, .ref ap, .ref al, .ref af, .int (nI n), .int (nI pl)])), (ak, .inl (cI, a, .inl fk)), (av, .inl (cI, a, .inl fv)), (ao, .inl (cI, a, .inl fo))] := hD
          refine lv_aload_n hx hb dX3_measure_75 rfl (lv_at hl 1 rfl) ?_
          refine lv_dup hx hb dX3_measure_76 rfl ?_
          refine va_get (D := D) (ci := 3) (v := .long ua) (C := RX3) (T := TX3) (N := 4) hx hb hts (by decide +kernel) hown hK hP 0 rfl rfl 1 (by decide) (hts (.fieldLink RX3 13 "JoinDesk$Span" "sum" "J") (by decide +kernel)) (fun _ h9 => h9) rfl dX3_measure_77 ?_
          refine lv_lload hx hb dX3_measure_80 (lv_at hl 0 rfl) ?_
          refine lv_ladd hx hb dX3_measure_82 ?_
          refine va_put (D := D) (ci := 3) (v := .long (ua + ((jat n fv fo (nI i)).toInt64))) (ty := .long) (C := RX3) (T := TX3) (N := 4) hx hb hts (by decide +kernel) tyX3 tyX3_ok nmX3 hown hK hP hD hS 0 rfl rfl 1 (by decide) (hts (.fieldLink RX3 13 "JoinDesk$Span" "sum" "J") (by decide +kernel)) (fun _ h9 => h9) rfl (by decide +kernel) rfl rfl (Nat.le_of_ble_eq_true rfl) dX3_measure_83 (fun H locs hP hD hS => ?_)
          have hP : va_P D vwCl [(h0, .inr (3, [.int (uz + 1), .long (ua + ((jat n fv fo (nI i)).toInt64)), .long ub, .long uc])), (o0, .inr (4, [.int (nI a), .ref ak, .ref av, .ref ao, .ref ap, .ref al, .ref af, .int (nI n), .int (nI pl)])), (ak, .inl (cI, a, .inl fk)), (av, .inl (cI, a, .inl fv)), (ao, .inl (cI, a, .inl fo))] H := hP
          have hD : va_D A [(h0, .inr (3, [.int (uz + 1), .long (ua + ((jat n fv fo (nI i)).toInt64)), .long ub, .long uc])), (o0, .inr (4, [.int (nI a), .ref ak, .ref av, .ref ao, .ref ap, .ref al, .ref af, .int (nI n), .int (nI pl)])), (ak, .inl (cI, a, .inl fk)), (av, .inl (cI, a, .inl fv)), (ao, .inl (cI, a, .inl fo))] := hD
          refine lv_aload_n hx hb dX3_measure_86 rfl (lv_at hl 1 rfl) ?_
          refine lv_aload_n hx hb dX3_measure_87 rfl (lv_at hl 1 rfl) ?_
          refine va_get (D := D) (ci := 3) (v := .long ub) (C := RX3) (T := TX3) (N := 4) hx hb hts (by decide +kernel) hown hK hP 0 rfl rfl 2 (by decide) (hts (.fieldLink RX3 23 "JoinDesk$Span" "least" "J") (by decide +kernel)) (fun _ h9 => h9) rfl dX3_measure_88 ?_
          refine lv_lload hx hb dX3_measure_91 (lv_at hl 0 rfl) ?_
          refine va_mmin_long hx hb (by rw [hml]; exact hl.1.symm) hown (hts (.methodLink RX3 36 Lib.MathLoose.min_long.x) (by decide +kernel)) (hts (.static Lib.MathLoose.min_long.x) (by decide +kernel)) (hts (.initialized "java/lang/Math") (by decide +kernel)) (hts (.code Lib.MathLoose.min_long.x Lib.MathLoose.min_long.code 4 (some .long)) (by decide +kernel)) (Nat.le_of_ble_eq_true rfl) (Nat.le_of_ble_eq_true rfl) (Nat.le_of_ble_eq_true rfl) (Nat.le_of_ble_eq_true rfl) dX3_measure_93 ?_
          refine va_put (D := D) (ci := 3) (v := .long (if ((jat n fv fo (nI i)).toInt64) < ub then ((jat n fv fo (nI i)).toInt64) else ub)) (ty := .long) (C := RX3) (T := TX3) (N := 4) hx hb hts (by decide +kernel) tyX3 tyX3_ok nmX3 hown hK hP hD hS 0 rfl rfl 2 (by decide) (hts (.fieldLink RX3 23 "JoinDesk$Span" "least" "J") (by decide +kernel)) (fun _ h9 => h9) rfl (by decide +kernel) rfl rfl (Nat.le_of_ble_eq_true rfl) dX3_measure_96 (fun H locs hP hD hS => ?_)
          have hP : va_P D vwCl [(h0, .inr (3, [.int (uz + 1), .long (ua + ((jat n fv fo (nI i)).toInt64)), .long (if ((jat n fv fo (nI i)).toInt64) < ub then ((jat n fv fo (nI i)).toInt64) else ub), .long uc])), (o0, .inr (4, [.int (nI a), .ref ak, .ref av, .ref ao, .ref ap, .ref al, .ref af, .int (nI n), .int (nI pl)])), (ak, .inl (cI, a, .inl fk)), (av, .inl (cI, a, .inl fv)), (ao, .inl (cI, a, .inl fo))] H := hP
          have hD : va_D A [(h0, .inr (3, [.int (uz + 1), .long (ua + ((jat n fv fo (nI i)).toInt64)), .long (if ((jat n fv fo (nI i)).toInt64) < ub then ((jat n fv fo (nI i)).toInt64) else ub), .long uc])), (o0, .inr (4, [.int (nI a), .ref ak, .ref av, .ref ao, .ref ap, .ref al, .ref af, .int (nI n), .int (nI pl)])), (ak, .inl (cI, a, .inl fk)), (av, .inl (cI, a, .inl fv)), (ao, .inl (cI, a, .inl fo))] := hD
          refine lv_aload_n hx hb dX3_measure_99 rfl (lv_at hl 1 rfl) ?_
          refine lv_aload_n hx hb dX3_measure_100 rfl (lv_at hl 1 rfl) ?_
          refine va_get (D := D) (ci := 3) (v := .long uc) (C := RX3) (T := TX3) (N := 4) hx hb hts (by decide +kernel) hown hK hP 0 rfl rfl 3 (by decide) (hts (.fieldLink RX3 26 "JoinDesk$Span" "greatest" "J") (by decide +kernel)) (fun _ h9 => h9) rfl dX3_measure_101 ?_
          refine lv_lload hx hb dX3_measure_104 (lv_at hl 0 rfl) ?_
          refine va_mmax_long hx hb (by rw [hml]; exact hl.1.symm) hown (hts (.methodLink RX3 42 Lib.MathLoose.max_long.x) (by decide +kernel)) (hts (.static Lib.MathLoose.max_long.x) (by decide +kernel)) (hts (.initialized "java/lang/Math") (by decide +kernel)) (hts (.code Lib.MathLoose.max_long.x Lib.MathLoose.max_long.code 4 (some .long)) (by decide +kernel)) (Nat.le_of_ble_eq_true rfl) (Nat.le_of_ble_eq_true rfl) (Nat.le_of_ble_eq_true rfl) (Nat.le_of_ble_eq_true rfl) dX3_measure_106 ?_
          refine va_put (D := D) (ci := 3) (v := .long (if ((jat n fv fo (nI i)).toInt64) < uc then uc else ((jat n fv fo (nI i)).toInt64))) (ty := .long) (C := RX3) (T := TX3) (N := 4) hx hb hts (by decide +kernel) tyX3 tyX3_ok nmX3 hown hK hP hD hS 0 rfl rfl 3 (by decide) (hts (.fieldLink RX3 26 "JoinDesk$Span" "greatest" "J") (by decide +kernel)) (fun _ h9 => h9) rfl (by decide +kernel) rfl rfl (Nat.le_of_ble_eq_true rfl) dX3_measure_109 (fun H locs hP hD hS => ?_)
          have hP : va_P D vwCl [(h0, .inr (3, [.int (uz + 1), .long (ua + ((jat n fv fo (nI i)).toInt64)), .long (if ((jat n fv fo (nI i)).toInt64) < ub then ((jat n fv fo (nI i)).toInt64) else ub), .long (if ((jat n fv fo (nI i)).toInt64) < uc then uc else ((jat n fv fo (nI i)).toInt64))])), (o0, .inr (4, [.int (nI a), .ref ak, .ref av, .ref ao, .ref ap, .ref al, .ref af, .int (nI n), .int (nI pl)])), (ak, .inl (cI, a, .inl fk)), (av, .inl (cI, a, .inl fv)), (ao, .inl (cI, a, .inl fo))] H := hP
          have hD : va_D A [(h0, .inr (3, [.int (uz + 1), .long (ua + ((jat n fv fo (nI i)).toInt64)), .long (if ((jat n fv fo (nI i)).toInt64) < ub then ((jat n fv fo (nI i)).toInt64) else ub), .long (if ((jat n fv fo (nI i)).toInt64) < uc then uc else ((jat n fv fo (nI i)).toInt64))])), (o0, .inr (4, [.int (nI a), .ref ak, .ref av, .ref ao, .ref ap, .ref al, .ref af, .int (nI n), .int (nI pl)])), (ak, .inl (cI, a, .inl fk)), (av, .inl (cI, a, .inl fv)), (ao, .inl (cI, a, .inl fo))] := hD
          refine lv_iinc (v := nI (i + 1)) (lv' := [(4, .int (nI (i + 1))), (5, .long ((jat n fv fo (nI i)).toInt64)), (0, .ref h0), (1, .ref o0), (2, .int (nI fr)), (3, .int (jat n fk fo (nI fr)))]) hx hb dX3_measure_112 hl (k := 5) rfl (nI_1 _) (by decide) rfl (fun ls hl => ?_)
          refine lv_goto (tgt := 37) hx hb dX3_measure_115 (by decide) ?_
          exact ih_1 (i + 1) (uz + 1) (ua + ((jat n fv fo (nI i)).toInt64)) (if ((jat n fv fo (nI i)).toInt64) < ub then ((jat n fv fo (nI i)).toInt64) else ub) (if ((jat n fv fo (nI i)).toInt64) < uc then uc else ((jat n fv fo (nI i)).toInt64)) (by rw [nI_leI (by omega) (by omega)] at cge; omega) (by rw [nI_leI (by omega) (by omega)] at cge; omega) (by omega) (by rw [hvv i (by rw [nI_leI (by omega) (by omega)] at cge; omega)]; exact jSw_1 hsw (by rw [nI_leI (by omega) (by omega)] at cge; omega) (by rw [hkk i (by rw [nI_leI (by omega) (by omega)] at cge; omega), hkk fr hfr, hx0] at ckk; exact ckk)) _ _ hP hD hS ls (lv_sub hl [2, 3, 4, 5, 0] rfl)
  exact hloop_1 (n - fr + 1) fr 0 0 ((jat n fv fo (nI fr)).toInt64) ((jat n fv fo (nI fr)).toInt64) (Nat.lt_succ_self _) (by omega) (Nat.le_refl _) (by rw [hvv fr hfr]; exact jSw_0 hlb hfr hx0) _ _ hP hD hS ls (lv_sub hl [2, 3, 4, 1, 0] rfl)
set_option maxHeartbeats 1000000 in
set_option maxRecDepth 100000 in
theorem gB_room (l : Launch) (D : va_G) (cI cL cQ : ClassId) (h0 : Nat) (g : Nat) (fa : Nat) (s1 : Nat) (s2 : Nat) (gs : Nat) (gt : Int32) : Met l yX1_room wsX1_room ({ frames := 0, cells := 0, slots := 0, locals := 0 }) (jr_P D vwCl (jT cI cL cQ) cL cQ [.ref h0] [(h0, .inr (1, [.int (nI g), .ref fa, .ref s1, .ref s2, .int (nI gs), .int gt]))]) (vp_Si (fun r : Int32 => r = nI g)) 0 0 (fun _ => False) := by
  refine Met.ofW (cc := cX1_room) (maxL := 1) (ret := (some .int)) (by decide) rfl ?_
  intro p e s m args below meth c s₁ B hml hv
  obtain ⟨rfl, hP, hK, hN⟩ := hv
  have hx := B.exec
  have hb := B.bytes
  have hr := B.returns
  have hts := atoms_spec (ws := wsX1_room) B.pre
  have hown : s.vm.findClass RX1 = some m.cls := findClass_of_methodNamed B.named
  have hlocks := B.notSynchronized
  have hl := lv_entry ([.ref h0]) (n := 1) (Nat.le_of_ble_eq_true rfl)
  rw [lg_entry_eq]
  generalize (lg_sl ([.ref h0]) ++ List.replicate (1 - (lg_sl ([.ref h0])).length) Slot.unset).toArray = ls at hl ⊢
  have hl : lv_has ls 1 [(0, .ref h0)] := hl
  refine lv_aload_n hx hb dX1_room_0 rfl (lv_at hl 0 rfl) ?_
  refine va_get (D := D) (ci := 1) (v := .int (nI g)) (C := RX1) (T := TX1) (N := 6) hx hb hts (by decide +kernel) hown hK hP 0 rfl rfl 0 (by decide) (hts (.fieldLink RX1 9 "JoinDesk$GroupBook" "room" "I") (by decide +kernel)) (fun _ h9 => h9) rfl dX1_room_1 ?_
  exact W.iret (v := nI g) hx hb hr (fun t ht hW => ⟨(nI g), rfl, (by exact rfl), ht⟩) (fun _ h => nomatch h) dX1_room_4
set_option maxHeartbeats 1000000 in
set_option maxRecDepth 100000 in
theorem gB_isTold_0 (l : Launch) (D : va_G) (cI cL cQ : ClassId) (h0 : Nat) (g : Nat) (fa : Nat) (s1 : Nat) (s2 : Nat) (gs : Nat) : Met l yX1_isTold wsX1_isTold ({ frames := 0, cells := 0, slots := 0, locals := 0 }) (jr_P D vwCl (jT cI cL cQ) cL cQ [.ref h0] [(h0, .inr (1, [.int (nI g), .ref fa, .ref s1, .ref s2, .int (nI gs), .int 0]))]) (vp_Si (fun r : Int32 => r = 0)) 0 0 (fun _ => False) := by
  refine Met.ofW (cc := cX1_isTold) (maxL := 1) (ret := (some .boolean)) (by decide) rfl ?_
  intro p e s m args below meth c s₁ B hml hv
  obtain ⟨rfl, hP, hK, hN⟩ := hv
  have hx := B.exec
  have hb := B.bytes
  have hr := B.returns
  have hts := atoms_spec (ws := wsX1_isTold) B.pre
  have hown : s.vm.findClass RX1 = some m.cls := findClass_of_methodNamed B.named
  have hlocks := B.notSynchronized
  have hl := lv_entry ([.ref h0]) (n := 1) (Nat.le_of_ble_eq_true rfl)
  rw [lg_entry_eq]
  generalize (lg_sl ([.ref h0]) ++ List.replicate (1 - (lg_sl ([.ref h0])).length) Slot.unset).toArray = ls at hl ⊢
  have hl : lv_has ls 1 [(0, .ref h0)] := hl
  refine lv_aload_n hx hb dX1_isTold_0 rfl (lv_at hl 0 rfl) ?_
  refine va_get (D := D) (ci := 1) (v := .int 0) (C := RX1) (T := TX1) (N := 6) hx hb hts (by decide +kernel) hown hK hP 0 rfl rfl 5 (by decide) (hts (.fieldLink RX1 33 "JoinDesk$GroupBook" "told" "Z") (by decide +kernel)) (fun _ h9 => h9) rfl dX1_isTold_1 ?_
  exact W.zret (v := 0) (ty := .boolean) hx hb hr rfl (fun t ht hW => ⟨0, rfl, (by exact rfl), ht⟩) (fun _ h => nomatch h) dX1_isTold_4
set_option maxHeartbeats 1000000 in
set_option maxRecDepth 100000 in
theorem gB_isTold_1 (l : Launch) (D : va_G) (cI cL cQ : ClassId) (h0 : Nat) (g : Nat) (fa : Nat) (s1 : Nat) (s2 : Nat) (gs : Nat) : Met l yX1_isTold wsX1_isTold ({ frames := 0, cells := 0, slots := 0, locals := 0 }) (jr_P D vwCl (jT cI cL cQ) cL cQ [.ref h0] [(h0, .inr (1, [.int (nI g), .ref fa, .ref s1, .ref s2, .int (nI gs), .int 1]))]) (vp_Si (fun r : Int32 => r = 1)) 0 0 (fun _ => False) := by
  refine Met.ofW (cc := cX1_isTold) (maxL := 1) (ret := (some .boolean)) (by decide) rfl ?_
  intro p e s m args below meth c s₁ B hml hv
  obtain ⟨rfl, hP, hK, hN⟩ := hv
  have hx := B.exec
  have hb := B.bytes
  have hr := B.returns
  have hts := atoms_spec (ws := wsX1_isTold) B.pre
  have hown : s.vm.findClass RX1 = some m.cls := findClass_of_methodNamed B.named
  have hlocks := B.notSynchronized
  have hl := lv_entry ([.ref h0]) (n := 1) (Nat.le_of_ble_eq_true rfl)
  rw [lg_entry_eq]
  generalize (lg_sl ([.ref h0]) ++ List.replicate (1 - (lg_sl ([.ref h0])).length) Slot.unset).toArray = ls at hl ⊢
  have hl : lv_has ls 1 [(0, .ref h0)] := hl
  refine lv_aload_n hx hb dX1_isTold_0 rfl (lv_at hl 0 rfl) ?_
  refine va_get (D := D) (ci := 1) (v := .int 1) (C := RX1) (T := TX1) (N := 6) hx hb hts (by decide +kernel) hown hK hP 0 rfl rfl 5 (by decide) (hts (.fieldLink RX1 33 "JoinDesk$GroupBook" "told" "Z") (by decide +kernel)) (fun _ h9 => h9) rfl dX1_isTold_1 ?_
  exact W.zret (v := 1) (ty := .boolean) hx hb hr rfl (fun t ht hW => ⟨1, rfl, (by exact rfl), ht⟩) (fun _ h => nomatch h) dX1_isTold_4
set_option maxHeartbeats 1000000 in
set_option maxRecDepth 100000 in
theorem gB_has (l : Launch) (D : va_G) (cI cL cQ : ClassId) (h0 : Nat) (g : Nat) (fa : Nat) (s1 : Nat) (s2 : Nat) (gs : Nat) (gt : Int32) (x : Int32) : Met l yX1_has wsX1_has ({ frames := 0, cells := 0, slots := 0, locals := 0 }) (jr_P D vwCl (jT cI cL cQ) cL cQ [.ref h0, .int x] [(h0, .inr (1, [.int (nI g), .ref fa, .ref s1, .ref s2, .int (nI gs), .int gt]))]) (vp_Si (fun r : Int32 => (r = 1 ∧ (¬ x < 0) ∧ (¬ nI gs ≤ x)) ∨ (r = 0 ∧ (x < 0 ∨ nI gs ≤ x)))) 0 0 (fun _ => False) := by
  refine Met.ofW (cc := cX1_has) (maxL := 2) (ret := (some .boolean)) (by decide) rfl ?_
  intro p e s m args below meth c s₁ B hml hv
  obtain ⟨rfl, hP, hK, hN⟩ := hv
  have hx := B.exec
  have hb := B.bytes
  have hr := B.returns
  have hts := atoms_spec (ws := wsX1_has) B.pre
  have hown : s.vm.findClass RX1 = some m.cls := findClass_of_methodNamed B.named
  have hlocks := B.notSynchronized
  have hl := lv_entry ([.ref h0, .int x]) (n := 2) (Nat.le_of_ble_eq_true rfl)
  rw [lg_entry_eq]
  generalize (lg_sl ([.ref h0, .int x]) ++ List.replicate (2 - (lg_sl ([.ref h0, .int x])).length) Slot.unset).toArray = ls at hl ⊢
  have hl : lv_has ls 2 [(0, .ref h0), (1, .int x)] := hl
  refine lv_iload_n hx hb dX1_has_0 rfl (lv_at hl 1 rfl) ?_
  refine lv_if_lt (tgt := 16) hx hb dX1_has_1 (by decide) (fun c_1 => ?_) (fun c_1 => ?_)
  · refine lv_iconst (v := 0) hx hb dX1_has_16 (by decide) ?_
    exact W.zret (v := 0) (ty := .boolean) hx hb hr rfl (fun t ht hW => ⟨0, rfl, (by exact (Or.inr (⟨rfl, (by first | assumption | exact Or.inl (by assumption) | exact Or.inr (by assumption) | rfl | decide | omega)⟩))), ht⟩) (fun _ h => nomatch h) dX1_has_17
  · refine lv_iload_n hx hb dX1_has_4 rfl (lv_at hl 1 rfl) ?_
    refine lv_aload_n hx hb dX1_has_5 rfl (lv_at hl 0 rfl) ?_
    refine va_get (D := D) (ci := 1) (v := .int (nI gs)) (C := RX1) (T := TX1) (N := 6) hx hb hts (by decide +kernel) hown hK hP 0 rfl rfl 4 (by decide) (hts (.fieldLink RX1 30 "JoinDesk$GroupBook" "size" "I") (by decide +kernel)) (fun _ h9 => h9) rfl dX1_has_6 ?_
    refine lv_icmp_ge (tgt := 16) hx hb dX1_has_9 (by decide) (fun c_2 => ?_) (fun c_2 => ?_)
    · refine lv_iconst (v := 0) hx hb dX1_has_16 (by decide) ?_
      exact W.zret (v := 0) (ty := .boolean) hx hb hr rfl (fun t ht hW => ⟨0, rfl, (by exact (Or.inr (⟨rfl, (by first | assumption | exact Or.inl (by assumption) | exact Or.inr (by assumption) | rfl | decide | omega)⟩))), ht⟩) (fun _ h => nomatch h) dX1_has_17
    · refine lv_iconst (v := 1) hx hb dX1_has_12 (by decide) ?_
      refine lv_goto (tgt := 17) hx hb dX1_has_13 (by decide) ?_
      exact W.zret (v := 1) (ty := .boolean) hx hb hr rfl (fun t ht hW => ⟨1, rfl, (by exact (Or.inl ⟨rfl, (by first | assumption | exact Or.inl (by assumption) | exact Or.inr (by assumption) | rfl | decide | omega), (by first | assumption | exact Or.inl (by assumption) | exact Or.inr (by assumption) | rfl | decide | omega)⟩)), ht⟩) (fun _ h => nomatch h) dX1_has_17
set_option maxHeartbeats 1000000 in
set_option maxRecDepth 100000 in
theorem gB_forget (l : Launch) (D : va_G) (cI cL cQ : ClassId) (h0 : Nat) (g : Nat) (fa : Nat) (s1 : Nat) (s2 : Nat) (gs : Nat) (gt : Int32) (sz : Nat) : Met l yX1_forget wsX1_forget ({ frames := 0, cells := 0, slots := 0, locals := 0 }) (jw_P D vwCl (jT cI cL cQ) cL cQ [.ref h0] [(h0, .inr (1, [.int (nI g), .ref fa, .ref s1, .ref s2, .int (nI gs), .int gt]))] sz) (va_Qv (fun u : va_W => u = [(h0, .inr (1, [.int (nI g), .ref fa, .ref s1, .ref s2, .int (nI 0), .int 0]))]) (jw_B D vwCl (va_A [(h0, .inr (1, [.int (nI g), .ref fa, .ref s1, .ref s2, .int (nI gs), .int gt]))] sz) (fun u : va_W => u)) (va_A [(h0, .inr (1, [.int (nI g), .ref fa, .ref s1, .ref s2, .int (nI gs), .int gt]))] sz)) 0 0 (va_A [(h0, .inr (1, [.int (nI g), .ref fa, .ref s1, .ref s2, .int (nI gs), .int gt]))] sz) := by
  refine Met.ofW (cc := cX1_forget) (maxL := 1) (ret := none) (by decide) rfl ?_
  intro p e s m args below meth c s₁ B hml hv
  obtain ⟨rfl, hsz, hP, hK, hN, hD0⟩ := hv
  have hx := B.exec
  have hb := B.bytes
  have hr := B.returns
  have hts := atoms_spec (ws := wsX1_forget) B.pre
  have hown : s.vm.findClass RX1 = some m.cls := findClass_of_methodNamed B.named
  have hlocks := B.notSynchronized
  subst hsz
  have hD := hD0.self (sz := s.heap.size)
  generalize hAe : va_A [(h0, .inr (1, [.int (nI g), .ref fa, .ref s1, .ref s2, .int (nI gs), .int gt]))] s.heap.size = A at hD ⊢
  have hA : ∀ q : Nat, s.heap.size ≤ q → A q := fun q h => by rw [← hAe]; exact Or.inr h
  have hS : va_S A s.heap s.heap [] := va_S.rf
  have hl := lv_entry ([.ref h0]) (n := 1) (Nat.le_of_ble_eq_true rfl)
  rw [lg_entry_eq]
  generalize (lg_sl ([.ref h0]) ++ List.replicate (1 - (lg_sl ([.ref h0])).length) Slot.unset).toArray = ls at hl ⊢
  have hl : lv_has ls 1 [(0, .ref h0)] := hl
  refine lv_aload_n hx hb dX1_forget_0 rfl (lv_at hl 0 rfl) ?_
  refine lv_iconst (v := 0) hx hb dX1_forget_1 (by decide) ?_
  refine va_put (D := D) (ci := 1) (v := .int 0) (ty := .int) (C := RX1) (T := TX1) (N := 6) hx hb hts (by decide +kernel) tyX1 tyX1_ok nmX1 hown hK hP hD hS 0 rfl rfl 4 (by decide) (hts (.fieldLink RX1 30 "JoinDesk$GroupBook" "size" "I") (by decide +kernel)) (fun _ h9 => h9) rfl (by decide +kernel) rfl rfl (Nat.le_of_ble_eq_true rfl) dX1_forget_2 (fun H locs hP hD hS => ?_)
  have hP : va_P D vwCl [(h0, .inr (1, [.int (nI g), .ref fa, .ref s1, .ref s2, .int 0, .int gt]))] H := hP
  have hD : va_D A [(h0, .inr (1, [.int (nI g), .ref fa, .ref s1, .ref s2, .int 0, .int gt]))] := hD
  refine lv_aload_n hx hb dX1_forget_5 rfl (lv_at hl 0 rfl) ?_
  refine lv_iconst (v := 0) hx hb dX1_forget_6 (by decide) ?_
  refine va_put (D := D) (ci := 1) (v := .int 0) (ty := .boolean) (C := RX1) (T := TX1) (N := 6) hx hb hts (by decide +kernel) tyX1 tyX1_ok nmX1 hown hK hP hD hS 0 rfl rfl 5 (by decide) (hts (.fieldLink RX1 33 "JoinDesk$GroupBook" "told" "Z") (by decide +kernel)) (fun _ h9 => h9) rfl (by decide +kernel) rfl rfl (Nat.le_of_ble_eq_true rfl) dX1_forget_7 (fun H locs hP hD hS => ?_)
  have hP : va_P D vwCl [(h0, .inr (1, [.int (nI g), .ref fa, .ref s1, .ref s2, .int 0, .int 0]))] H := hP
  have hD : va_D A [(h0, .inr (1, [.int (nI g), .ref fa, .ref s1, .ref s2, .int 0, .int 0]))] := hD
  refine W.widen (k := 0) (n := 0) (by omega) (by omega) ?_
  exact W.vret hx hb hr (fun t ht hW => ⟨⟨[(h0, .inr (1, [.int (nI g), .ref fa, .ref s1, .ref s2, .int 0, .int 0]))], rfl, (by exact rfl), by rw [ht]; exact hP, hD⟩, hS.F ht⟩) hS.2.2 dX1_forget_10
set_option maxHeartbeats 1000000 in
set_option maxRecDepth 100000 in
theorem gJ_isBelow (l : Launch) (D : va_G) (cI cL cQ : ClassId) (x : Int32) (y : Int32) : Met l yX5_isBelow wsX5_isBelow ({ frames := 0, cells := 0, slots := 0, locals := 0 }) (jr_P D vwCl (jT cI cL cQ) cL cQ [.int x, .int y] []) (vp_Si (fun r : Int32 => (r = 1 ∧ (¬ x < 0) ∧ (¬ y ≤ x)) ∨ (r = 0 ∧ (x < 0 ∨ y ≤ x)))) 0 0 (fun _ => False) := by
  refine Met.ofW (cc := cX5_isBelow) (maxL := 2) (ret := (some .boolean)) (by decide) rfl ?_
  intro p e s m args below meth c s₁ B hml hv
  obtain ⟨rfl, hP, hK, hN⟩ := hv
  have hx := B.exec
  have hb := B.bytes
  have hr := B.returns
  have hts := atoms_spec (ws := wsX5_isBelow) B.pre
  have hown : s.vm.findClass RX5 = some m.cls := findClass_of_methodNamed B.named
  have hlocks := B.notSynchronized
  have hl := lv_entry ([.int x, .int y]) (n := 2) (Nat.le_of_ble_eq_true rfl)
  rw [lg_entry_eq]
  generalize (lg_sl ([.int x, .int y]) ++ List.replicate (2 - (lg_sl ([.int x, .int y])).length) Slot.unset).toArray = ls at hl ⊢
  have hl : lv_has ls 2 [(0, .int x), (1, .int y)] := hl
  refine lv_iload_n hx hb dX5_isBelow_0 rfl (lv_at hl 0 rfl) ?_
  refine lv_if_lt (tgt := 13) hx hb dX5_isBelow_1 (by decide) (fun c_1 => ?_) (fun c_1 => ?_)
  · refine lv_iconst (v := 0) hx hb dX5_isBelow_13 (by decide) ?_
    exact W.zret (v := 0) (ty := .boolean) hx hb hr rfl (fun t ht hW => ⟨0, rfl, (by exact (Or.inr (⟨rfl, (by first | assumption | exact Or.inl (by assumption) | exact Or.inr (by assumption) | rfl | decide | omega)⟩))), ht⟩) (fun _ h => nomatch h) dX5_isBelow_14
  · refine lv_iload_n hx hb dX5_isBelow_4 rfl (lv_at hl 0 rfl) ?_
    refine lv_iload_n hx hb dX5_isBelow_5 rfl (lv_at hl 1 rfl) ?_
    refine lv_icmp_ge (tgt := 13) hx hb dX5_isBelow_6 (by decide) (fun c_2 => ?_) (fun c_2 => ?_)
    · refine lv_iconst (v := 0) hx hb dX5_isBelow_13 (by decide) ?_
      exact W.zret (v := 0) (ty := .boolean) hx hb hr rfl (fun t ht hW => ⟨0, rfl, (by exact (Or.inr (⟨rfl, (by first | assumption | exact Or.inl (by assumption) | exact Or.inr (by assumption) | rfl | decide | omega)⟩))), ht⟩) (fun _ h => nomatch h) dX5_isBelow_14
    · refine lv_iconst (v := 1) hx hb dX5_isBelow_9 (by decide) ?_
      refine lv_goto (tgt := 14) hx hb dX5_isBelow_10 (by decide) ?_
      exact W.zret (v := 1) (ty := .boolean) hx hb hr rfl (fun t ht hW => ⟨1, rfl, (by exact (Or.inl ⟨rfl, (by first | assumption | exact Or.inl (by assumption) | exact Or.inr (by assumption) | rfl | decide | omega), (by first | assumption | exact Or.inl (by assumption) | exact Or.inr (by assumption) | rfl | decide | omega)⟩)), ht⟩) (fun _ h => nomatch h) dX5_isBelow_14
set_option maxHeartbeats 1000000 in
set_option maxRecDepth 100000 in
theorem gB_fact_0 (l : Launch) (D : va_G) (cI cL cQ : ClassId) (h0 : Nat) (g : Nat) (fa : Nat) (s1 : Nat) (s2 : Nat) (gs : Nat) (gt : Int32) (e0 : Nat → Int64) (e1 : Nat → Int64) (e2 : Nat → Int64) (e3 : Nat → Int64) (e4 : Nat → Int64) (x : Int32) (hg : g ≤ 400) (hgs : gs ≤ g) : Met l yX1_fact wsX1_fact ({ frames := 1, cells := 0, slots := 0, locals := 21 }) (jr_P D vwCl (jT cI cL cQ) cL cQ [.ref h0, .int x, .int 0] [(h0, .inr (1, [.int (nI g), .ref fa, .ref s1, .ref s2, .int (nI gs), .int gt])), (fa, .inl (cQ, 5, .inr (.inr (.inr (.inr (fun j => if j < 5 then some (fa + 1 + j) else none)))))), (fa + 1, .inl (cL, g, .inr (.inl e0))), (fa + 2, .inl (cL, g, .inr (.inl e1))), (fa + 3, .inl (cL, g, .inr (.inl e2))), (fa + 4, .inl (cL, g, .inr (.inl e3))), (fa + 5, .inl (cL, g, .inr (.inl e4)))]) (vp_Sl (fun r : Int64 => r = if x < 0 ∨ nI gs ≤ x then 0 else e0 x.toNatClampNeg)) 0 0 (fun _ => False) := by
  refine Met.ofW (cc := cX1_fact) (maxL := 3) (ret := (some .long)) (by decide) rfl ?_
  intro p e s m args below meth c s₁ B hml hv
  obtain ⟨rfl, hP, hK, hN⟩ := hv
  have hx := B.exec
  have hb := B.bytes
  have hr := B.returns
  have hts := atoms_spec (ws := wsX1_fact) B.pre
  have hown : s.vm.findClass RX1 = some m.cls := findClass_of_methodNamed B.named
  have hlocks := B.notSynchronized
  have hl := lv_entry ([.ref h0, .int x, .int 0]) (n := 3) (Nat.le_of_ble_eq_true rfl)
  rw [lg_entry_eq]
  generalize (lg_sl ([.ref h0, .int x, .int 0]) ++ List.replicate (3 - (lg_sl ([.ref h0, .int x, .int 0])).length) Slot.unset).toArray = ls at hl ⊢
  have hl : lv_has ls 3 [(0, .ref h0), (1, .int x), (2, .int 0)] := hl
  refine lv_aload_n hx hb dX1_fact_0 rfl (lv_at hl 0 rfl) ?_
  refine lv_iload_n hx hb dX1_fact_1 rfl (lv_at hl 1 rfl) ?_
  refine vp_callSi (va_Run.run (va_runV (As := [.int x]) (rest := []) ⟨hx, hb, hml, hown, hts⟩ (gB_has l D cI cL cQ h0 g fa s1 s2 gs gt x) (cwV 1 hts gX1_fact_X1_has rfl rfl rfl (by decide +kernel) ⟨Nat.le_of_ble_eq_true rfl, Nat.le_of_ble_eq_true rfl⟩) (jr_V hK hN hP [0] rfl 1 0 rfl rfl rfl) rfl rfl hl.1 rfl (lv_room (Nat.le_of_ble_eq_true rfl)) dX1_fact_2 ⟨Nat.le_of_ble_eq_true rfl, Nat.le_of_ble_eq_true rfl⟩)) (fun r f_1 => ?_)
  rcases f_1 with ⟨rfl, f_2, f_3⟩ | ⟨rfl, f_4⟩
  · refine lv_if_eq (tgt := 27) hx hb dX1_fact_5 (by decide) (fun c_5 => absurd c_5 (by decide)) (fun c_5 => ?_)
    refine lv_iload_n hx hb dX1_fact_8 rfl (lv_at hl 2 rfl) ?_
    refine lv_iconst (v := 5) hx hb dX1_fact_9 (by decide) ?_
    refine vp_callSi (va_Run.run (va_runSN (As := [.int 0, .int 5]) (rest := []) ⟨hx, hb, hml, hown, hts⟩ (gJ_isBelow l D cI cL cQ 0 5) ⟨(va_cnB 2 hts gX1_fact_X5_isBelow_n41 rfl rfl rfl (hN.2.1 (RX1, 41, yX5_isBelow, "JoinDesk") (by decide +kernel)) (hts (.initialized RX5) (by decide +kernel)) (by decide +kernel) ⟨Nat.le_of_ble_eq_true rfl, Nat.le_of_ble_eq_true rfl⟩), hts (.static yX5_isBelow) (by decide +kernel), trivial⟩ (jr_S hK hN hP [] rfl) rfl rfl hl.1 rfl (lv_room (Nat.le_of_ble_eq_true rfl)) dX1_fact_10 ⟨Nat.le_of_ble_eq_true rfl, Nat.le_of_ble_eq_true rfl⟩)) (fun r f_6 => ?_)
    rcases f_6 with ⟨rfl, f_7, f_8⟩ | ⟨rfl, f_9⟩
    · refine lv_if_eq (tgt := 27) hx hb dX1_fact_13 (by decide) (fun c_10 => absurd c_10 (by decide)) (fun c_10 => ?_)
      refine lv_aload_n hx hb dX1_fact_16 rfl (lv_at hl 0 rfl) ?_
      refine va_get (D := D) (ci := 1) (v := .ref fa) (C := RX1) (T := TX1) (N := 6) hx hb hts (by decide +kernel) hown hK hP 0 rfl rfl 1 (by decide) (hts (.fieldLink RX1 17 "JoinDesk$GroupBook" "facts" "[[J") (by decide +kernel)) (fun _ h9 => h9) rfl dX1_fact_17 ?_
      refine lv_iload_n hx hb dX1_fact_20 rfl (lv_at hl 2 rfl) ?_
      refine jg_ald (k := 0) hx hb hK hP 1 2 rfl rfl (by decide) (by unfold vp_in; decide) dX1_fact_21 ?_
      refine W.eq (g2 := F0 m 22 ls [.ref (fa + 1)]) rfl ?_
      refine lv_iload_n hx hb dX1_fact_22 rfl (lv_at hl 1 rfl) ?_
      refine va_lald hx hb hK hP 2 1 rfl rfl (jt_in (by assumption) (by assumption) hgs hg) dX1_fact_23 ?_
      refine lv_goto (tgt := 28) hx hb dX1_fact_24 (by decide) ?_
      exact W.lret (v := e0 x.toNatClampNeg) hx hb hr (fun t ht hW => ⟨(e0 x.toNatClampNeg), rfl, (by first | rw [if_pos (by assumption)] | rw [if_neg (fun h => h.elim (by assumption) (by assumption))]), ht⟩) (fun _ h => nomatch h) dX1_fact_28
    · exact False.elim (by revert f_9; decide)
  · refine lv_if_eq (tgt := 27) hx hb dX1_fact_5 (by decide) (fun c_11 => ?_) (fun c_11 => absurd c_11 (by decide))
    refine lv_lconst (v := 0) hx hb dX1_fact_27 (by decide) ?_
    exact W.lret (v := 0) hx hb hr (fun t ht hW => ⟨0, rfl, (by first | rw [if_pos (by assumption)] | rw [if_neg (fun h => h.elim (by assumption) (by assumption))]), ht⟩) (fun _ h => nomatch h) dX1_fact_28
set_option maxHeartbeats 1000000 in
set_option maxRecDepth 100000 in
theorem gB_fact_1 (l : Launch) (D : va_G) (cI cL cQ : ClassId) (h0 : Nat) (g : Nat) (fa : Nat) (s1 : Nat) (s2 : Nat) (gs : Nat) (gt : Int32) (e0 : Nat → Int64) (e1 : Nat → Int64) (e2 : Nat → Int64) (e3 : Nat → Int64) (e4 : Nat → Int64) (x : Int32) (hg : g ≤ 400) (hgs : gs ≤ g) : Met l yX1_fact wsX1_fact ({ frames := 1, cells := 0, slots := 0, locals := 21 }) (jr_P D vwCl (jT cI cL cQ) cL cQ [.ref h0, .int x, .int 1] [(h0, .inr (1, [.int (nI g), .ref fa, .ref s1, .ref s2, .int (nI gs), .int gt])), (fa, .inl (cQ, 5, .inr (.inr (.inr (.inr (fun j => if j < 5 then some (fa + 1 + j) else none)))))), (fa + 1, .inl (cL, g, .inr (.inl e0))), (fa + 2, .inl (cL, g, .inr (.inl e1))), (fa + 3, .inl (cL, g, .inr (.inl e2))), (fa + 4, .inl (cL, g, .inr (.inl e3))), (fa + 5, .inl (cL, g, .inr (.inl e4)))]) (vp_Sl (fun r : Int64 => r = if x < 0 ∨ nI gs ≤ x then 0 else e1 x.toNatClampNeg)) 0 0 (fun _ => False) := by
  refine Met.ofW (cc := cX1_fact) (maxL := 3) (ret := (some .long)) (by decide) rfl ?_
  intro p e s m args below meth c s₁ B hml hv
  obtain ⟨rfl, hP, hK, hN⟩ := hv
  have hx := B.exec
  have hb := B.bytes
  have hr := B.returns
  have hts := atoms_spec (ws := wsX1_fact) B.pre
  have hown : s.vm.findClass RX1 = some m.cls := findClass_of_methodNamed B.named
  have hlocks := B.notSynchronized
  have hl := lv_entry ([.ref h0, .int x, .int 1]) (n := 3) (Nat.le_of_ble_eq_true rfl)
  rw [lg_entry_eq]
  generalize (lg_sl ([.ref h0, .int x, .int 1]) ++ List.replicate (3 - (lg_sl ([.ref h0, .int x, .int 1])).length) Slot.unset).toArray = ls at hl ⊢
  have hl : lv_has ls 3 [(0, .ref h0), (1, .int x), (2, .int 1)] := hl
  refine lv_aload_n hx hb dX1_fact_0 rfl (lv_at hl 0 rfl) ?_
  refine lv_iload_n hx hb dX1_fact_1 rfl (lv_at hl 1 rfl) ?_
  refine vp_callSi (va_Run.run (va_runV (As := [.int x]) (rest := []) ⟨hx, hb, hml, hown, hts⟩ (gB_has l D cI cL cQ h0 g fa s1 s2 gs gt x) (cwV 1 hts gX1_fact_X1_has rfl rfl rfl (by decide +kernel) ⟨Nat.le_of_ble_eq_true rfl, Nat.le_of_ble_eq_true rfl⟩) (jr_V hK hN hP [0] rfl 1 0 rfl rfl rfl) rfl rfl hl.1 rfl (lv_room (Nat.le_of_ble_eq_true rfl)) dX1_fact_2 ⟨Nat.le_of_ble_eq_true rfl, Nat.le_of_ble_eq_true rfl⟩)) (fun r f_1 => ?_)
  rcases f_1 with ⟨rfl, f_2, f_3⟩ | ⟨rfl, f_4⟩
  · refine lv_if_eq (tgt := 27) hx hb dX1_fact_5 (by decide) (fun c_5 => absurd c_5 (by decide)) (fun c_5 => ?_)
    refine lv_iload_n hx hb dX1_fact_8 rfl (lv_at hl 2 rfl) ?_
    refine lv_iconst (v := 5) hx hb dX1_fact_9 (by decide) ?_
    refine vp_callSi (va_Run.run (va_runSN (As := [.int 1, .int 5]) (rest := []) ⟨hx, hb, hml, hown, hts⟩ (gJ_isBelow l D cI cL cQ 1 5) ⟨(va_cnB 2 hts gX1_fact_X5_isBelow_n41 rfl rfl rfl (hN.2.1 (RX1, 41, yX5_isBelow, "JoinDesk") (by decide +kernel)) (hts (.initialized RX5) (by decide +kernel)) (by decide +kernel) ⟨Nat.le_of_ble_eq_true rfl, Nat.le_of_ble_eq_true rfl⟩), hts (.static yX5_isBelow) (by decide +kernel), trivial⟩ (jr_S hK hN hP [] rfl) rfl rfl hl.1 rfl (lv_room (Nat.le_of_ble_eq_true rfl)) dX1_fact_10 ⟨Nat.le_of_ble_eq_true rfl, Nat.le_of_ble_eq_true rfl⟩)) (fun r f_6 => ?_)
    rcases f_6 with ⟨rfl, f_7, f_8⟩ | ⟨rfl, f_9⟩
    · refine lv_if_eq (tgt := 27) hx hb dX1_fact_13 (by decide) (fun c_10 => absurd c_10 (by decide)) (fun c_10 => ?_)
      refine lv_aload_n hx hb dX1_fact_16 rfl (lv_at hl 0 rfl) ?_
      refine va_get (D := D) (ci := 1) (v := .ref fa) (C := RX1) (T := TX1) (N := 6) hx hb hts (by decide +kernel) hown hK hP 0 rfl rfl 1 (by decide) (hts (.fieldLink RX1 17 "JoinDesk$GroupBook" "facts" "[[J") (by decide +kernel)) (fun _ h9 => h9) rfl dX1_fact_17 ?_
      refine lv_iload_n hx hb dX1_fact_20 rfl (lv_at hl 2 rfl) ?_
      refine jg_ald (k := 1) hx hb hK hP 1 2 rfl rfl (by decide) (by unfold vp_in; decide) dX1_fact_21 ?_
      refine W.eq (g2 := F0 m 22 ls [.ref (fa + 2)]) rfl ?_
      refine lv_iload_n hx hb dX1_fact_22 rfl (lv_at hl 1 rfl) ?_
      refine va_lald hx hb hK hP 3 1 rfl rfl (jt_in (by assumption) (by assumption) hgs hg) dX1_fact_23 ?_
      refine lv_goto (tgt := 28) hx hb dX1_fact_24 (by decide) ?_
      exact W.lret (v := e1 x.toNatClampNeg) hx hb hr (fun t ht hW => ⟨(e1 x.toNatClampNeg), rfl, (by first | rw [if_pos (by assumption)] | rw [if_neg (fun h => h.elim (by assumption) (by assumption))]), ht⟩) (fun _ h => nomatch h) dX1_fact_28
    · exact False.elim (by revert f_9; decide)
  · refine lv_if_eq (tgt := 27) hx hb dX1_fact_5 (by decide) (fun c_11 => ?_) (fun c_11 => absurd c_11 (by decide))
    refine lv_lconst (v := 0) hx hb dX1_fact_27 (by decide) ?_
    exact W.lret (v := 0) hx hb hr (fun t ht hW => ⟨0, rfl, (by first | rw [if_pos (by assumption)] | rw [if_neg (fun h => h.elim (by assumption) (by assumption))]), ht⟩) (fun _ h => nomatch h) dX1_fact_28
set_option maxHeartbeats 1000000 in
set_option maxRecDepth 100000 in
theorem gB_fact_2 (l : Launch) (D : va_G) (cI cL cQ : ClassId) (h0 : Nat) (g : Nat) (fa : Nat) (s1 : Nat) (s2 : Nat) (gs : Nat) (gt : Int32) (e0 : Nat → Int64) (e1 : Nat → Int64) (e2 : Nat → Int64) (e3 : Nat → Int64) (e4 : Nat → Int64) (x : Int32) (hg : g ≤ 400) (hgs : gs ≤ g) : Met l yX1_fact wsX1_fact ({ frames := 1, cells := 0, slots := 0, locals := 21 }) (jr_P D vwCl (jT cI cL cQ) cL cQ [.ref h0, .int x, .int 2] [(h0, .inr (1, [.int (nI g), .ref fa, .ref s1, .ref s2, .int (nI gs), .int gt])), (fa, .inl (cQ, 5, .inr (.inr (.inr (.inr (fun j => if j < 5 then some (fa + 1 + j) else none)))))), (fa + 1, .inl (cL, g, .inr (.inl e0))), (fa + 2, .inl (cL, g, .inr (.inl e1))), (fa + 3, .inl (cL, g, .inr (.inl e2))), (fa + 4, .inl (cL, g, .inr (.inl e3))), (fa + 5, .inl (cL, g, .inr (.inl e4)))]) (vp_Sl (fun r : Int64 => r = if x < 0 ∨ nI gs ≤ x then 0 else e2 x.toNatClampNeg)) 0 0 (fun _ => False) := by
  refine Met.ofW (cc := cX1_fact) (maxL := 3) (ret := (some .long)) (by decide) rfl ?_
  intro p e s m args below meth c s₁ B hml hv
  obtain ⟨rfl, hP, hK, hN⟩ := hv
  have hx := B.exec
  have hb := B.bytes
  have hr := B.returns
  have hts := atoms_spec (ws := wsX1_fact) B.pre
  have hown : s.vm.findClass RX1 = some m.cls := findClass_of_methodNamed B.named
  have hlocks := B.notSynchronized
  have hl := lv_entry ([.ref h0, .int x, .int 2]) (n := 3) (Nat.le_of_ble_eq_true rfl)
  rw [lg_entry_eq]
  generalize (lg_sl ([.ref h0, .int x, .int 2]) ++ List.replicate (3 - (lg_sl ([.ref h0, .int x, .int 2])).length) Slot.unset).toArray = ls at hl ⊢
  have hl : lv_has ls 3 [(0, .ref h0), (1, .int x), (2, .int 2)] := hl
  refine lv_aload_n hx hb dX1_fact_0 rfl (lv_at hl 0 rfl) ?_
  refine lv_iload_n hx hb dX1_fact_1 rfl (lv_at hl 1 rfl) ?_
  refine vp_callSi (va_Run.run (va_runV (As := [.int x]) (rest := []) ⟨hx, hb, hml, hown, hts⟩ (gB_has l D cI cL cQ h0 g fa s1 s2 gs gt x) (cwV 1 hts gX1_fact_X1_has rfl rfl rfl (by decide +kernel) ⟨Nat.le_of_ble_eq_true rfl, Nat.le_of_ble_eq_true rfl⟩) (jr_V hK hN hP [0] rfl 1 0 rfl rfl rfl) rfl rfl hl.1 rfl (lv_room (Nat.le_of_ble_eq_true rfl)) dX1_fact_2 ⟨Nat.le_of_ble_eq_true rfl, Nat.le_of_ble_eq_true rfl⟩)) (fun r f_1 => ?_)
  rcases f_1 with ⟨rfl, f_2, f_3⟩ | ⟨rfl, f_4⟩
  · refine lv_if_eq (tgt := 27) hx hb dX1_fact_5 (by decide) (fun c_5 => absurd c_5 (by decide)) (fun c_5 => ?_)
    refine lv_iload_n hx hb dX1_fact_8 rfl (lv_at hl 2 rfl) ?_
    refine lv_iconst (v := 5) hx hb dX1_fact_9 (by decide) ?_
    refine vp_callSi (va_Run.run (va_runSN (As := [.int 2, .int 5]) (rest := []) ⟨hx, hb, hml, hown, hts⟩ (gJ_isBelow l D cI cL cQ 2 5) ⟨(va_cnB 2 hts gX1_fact_X5_isBelow_n41 rfl rfl rfl (hN.2.1 (RX1, 41, yX5_isBelow, "JoinDesk") (by decide +kernel)) (hts (.initialized RX5) (by decide +kernel)) (by decide +kernel) ⟨Nat.le_of_ble_eq_true rfl, Nat.le_of_ble_eq_true rfl⟩), hts (.static yX5_isBelow) (by decide +kernel), trivial⟩ (jr_S hK hN hP [] rfl) rfl rfl hl.1 rfl (lv_room (Nat.le_of_ble_eq_true rfl)) dX1_fact_10 ⟨Nat.le_of_ble_eq_true rfl, Nat.le_of_ble_eq_true rfl⟩)) (fun r f_6 => ?_)
    rcases f_6 with ⟨rfl, f_7, f_8⟩ | ⟨rfl, f_9⟩
    · refine lv_if_eq (tgt := 27) hx hb dX1_fact_13 (by decide) (fun c_10 => absurd c_10 (by decide)) (fun c_10 => ?_)
      refine lv_aload_n hx hb dX1_fact_16 rfl (lv_at hl 0 rfl) ?_
      refine va_get (D := D) (ci := 1) (v := .ref fa) (C := RX1) (T := TX1) (N := 6) hx hb hts (by decide +kernel) hown hK hP 0 rfl rfl 1 (by decide) (hts (.fieldLink RX1 17 "JoinDesk$GroupBook" "facts" "[[J") (by decide +kernel)) (fun _ h9 => h9) rfl dX1_fact_17 ?_
      refine lv_iload_n hx hb dX1_fact_20 rfl (lv_at hl 2 rfl) ?_
      refine jg_ald (k := 2) hx hb hK hP 1 2 rfl rfl (by decide) (by unfold vp_in; decide) dX1_fact_21 ?_
      refine W.eq (g2 := F0 m 22 ls [.ref (fa + 3)]) rfl ?_
      refine lv_iload_n hx hb dX1_fact_22 rfl (lv_at hl 1 rfl) ?_
      refine va_lald hx hb hK hP 4 1 rfl rfl (jt_in (by assumption) (by assumption) hgs hg) dX1_fact_23 ?_
      refine lv_goto (tgt := 28) hx hb dX1_fact_24 (by decide) ?_
      exact W.lret (v := e2 x.toNatClampNeg) hx hb hr (fun t ht hW => ⟨(e2 x.toNatClampNeg), rfl, (by first | rw [if_pos (by assumption)] | rw [if_neg (fun h => h.elim (by assumption) (by assumption))]), ht⟩) (fun _ h => nomatch h) dX1_fact_28
    · exact False.elim (by revert f_9; decide)
  · refine lv_if_eq (tgt := 27) hx hb dX1_fact_5 (by decide) (fun c_11 => ?_) (fun c_11 => absurd c_11 (by decide))
    refine lv_lconst (v := 0) hx hb dX1_fact_27 (by decide) ?_
    exact W.lret (v := 0) hx hb hr (fun t ht hW => ⟨0, rfl, (by first | rw [if_pos (by assumption)] | rw [if_neg (fun h => h.elim (by assumption) (by assumption))]), ht⟩) (fun _ h => nomatch h) dX1_fact_28
set_option maxHeartbeats 1000000 in
set_option maxRecDepth 100000 in
theorem gB_fact_3 (l : Launch) (D : va_G) (cI cL cQ : ClassId) (h0 : Nat) (g : Nat) (fa : Nat) (s1 : Nat) (s2 : Nat) (gs : Nat) (gt : Int32) (e0 : Nat → Int64) (e1 : Nat → Int64) (e2 : Nat → Int64) (e3 : Nat → Int64) (e4 : Nat → Int64) (x : Int32) (hg : g ≤ 400) (hgs : gs ≤ g) : Met l yX1_fact wsX1_fact ({ frames := 1, cells := 0, slots := 0, locals := 21 }) (jr_P D vwCl (jT cI cL cQ) cL cQ [.ref h0, .int x, .int 3] [(h0, .inr (1, [.int (nI g), .ref fa, .ref s1, .ref s2, .int (nI gs), .int gt])), (fa, .inl (cQ, 5, .inr (.inr (.inr (.inr (fun j => if j < 5 then some (fa + 1 + j) else none)))))), (fa + 1, .inl (cL, g, .inr (.inl e0))), (fa + 2, .inl (cL, g, .inr (.inl e1))), (fa + 3, .inl (cL, g, .inr (.inl e2))), (fa + 4, .inl (cL, g, .inr (.inl e3))), (fa + 5, .inl (cL, g, .inr (.inl e4)))]) (vp_Sl (fun r : Int64 => r = if x < 0 ∨ nI gs ≤ x then 0 else e3 x.toNatClampNeg)) 0 0 (fun _ => False) := by
  refine Met.ofW (cc := cX1_fact) (maxL := 3) (ret := (some .long)) (by decide) rfl ?_
  intro p e s m args below meth c s₁ B hml hv
  obtain ⟨rfl, hP, hK, hN⟩ := hv
  have hx := B.exec
  have hb := B.bytes
  have hr := B.returns
  have hts := atoms_spec (ws := wsX1_fact) B.pre
  have hown : s.vm.findClass RX1 = some m.cls := findClass_of_methodNamed B.named
  have hlocks := B.notSynchronized
  have hl := lv_entry ([.ref h0, .int x, .int 3]) (n := 3) (Nat.le_of_ble_eq_true rfl)
  rw [lg_entry_eq]
  generalize (lg_sl ([.ref h0, .int x, .int 3]) ++ List.replicate (3 - (lg_sl ([.ref h0, .int x, .int 3])).length) Slot.unset).toArray = ls at hl ⊢
  have hl : lv_has ls 3 [(0, .ref h0), (1, .int x), (2, .int 3)] := hl
  refine lv_aload_n hx hb dX1_fact_0 rfl (lv_at hl 0 rfl) ?_
  refine lv_iload_n hx hb dX1_fact_1 rfl (lv_at hl 1 rfl) ?_
  refine vp_callSi (va_Run.run (va_runV (As := [.int x]) (rest := []) ⟨hx, hb, hml, hown, hts⟩ (gB_has l D cI cL cQ h0 g fa s1 s2 gs gt x) (cwV 1 hts gX1_fact_X1_has rfl rfl rfl (by decide +kernel) ⟨Nat.le_of_ble_eq_true rfl, Nat.le_of_ble_eq_true rfl⟩) (jr_V hK hN hP [0] rfl 1 0 rfl rfl rfl) rfl rfl hl.1 rfl (lv_room (Nat.le_of_ble_eq_true rfl)) dX1_fact_2 ⟨Nat.le_of_ble_eq_true rfl, Nat.le_of_ble_eq_true rfl⟩)) (fun r f_1 => ?_)
  rcases f_1 with ⟨rfl, f_2, f_3⟩ | ⟨rfl, f_4⟩
  · refine lv_if_eq (tgt := 27) hx hb dX1_fact_5 (by decide) (fun c_5 => absurd c_5 (by decide)) (fun c_5 => ?_)
    refine lv_iload_n hx hb dX1_fact_8 rfl (lv_at hl 2 rfl) ?_
    refine lv_iconst (v := 5) hx hb dX1_fact_9 (by decide) ?_
    refine vp_callSi (va_Run.run (va_runSN (As := [.int 3, .int 5]) (rest := []) ⟨hx, hb, hml, hown, hts⟩ (gJ_isBelow l D cI cL cQ 3 5) ⟨(va_cnB 2 hts gX1_fact_X5_isBelow_n41 rfl rfl rfl (hN.2.1 (RX1, 41, yX5_isBelow, "JoinDesk") (by decide +kernel)) (hts (.initialized RX5) (by decide +kernel)) (by decide +kernel) ⟨Nat.le_of_ble_eq_true rfl, Nat.le_of_ble_eq_true rfl⟩), hts (.static yX5_isBelow) (by decide +kernel), trivial⟩ (jr_S hK hN hP [] rfl) rfl rfl hl.1 rfl (lv_room (Nat.le_of_ble_eq_true rfl)) dX1_fact_10 ⟨Nat.le_of_ble_eq_true rfl, Nat.le_of_ble_eq_true rfl⟩)) (fun r f_6 => ?_)
    rcases f_6 with ⟨rfl, f_7, f_8⟩ | ⟨rfl, f_9⟩
    · refine lv_if_eq (tgt := 27) hx hb dX1_fact_13 (by decide) (fun c_10 => absurd c_10 (by decide)) (fun c_10 => ?_)
      refine lv_aload_n hx hb dX1_fact_16 rfl (lv_at hl 0 rfl) ?_
      refine va_get (D := D) (ci := 1) (v := .ref fa) (C := RX1) (T := TX1) (N := 6) hx hb hts (by decide +kernel) hown hK hP 0 rfl rfl 1 (by decide) (hts (.fieldLink RX1 17 "JoinDesk$GroupBook" "facts" "[[J") (by decide +kernel)) (fun _ h9 => h9) rfl dX1_fact_17 ?_
      refine lv_iload_n hx hb dX1_fact_20 rfl (lv_at hl 2 rfl) ?_
      refine jg_ald (k := 3) hx hb hK hP 1 2 rfl rfl (by decide) (by unfold vp_in; decide) dX1_fact_21 ?_
      refine W.eq (g2 := F0 m 22 ls [.ref (fa + 4)]) rfl ?_
      refine lv_iload_n hx hb dX1_fact_22 rfl (lv_at hl 1 rfl) ?_
      refine va_lald hx hb hK hP 5 1 rfl rfl (jt_in (by assumption) (by assumption) hgs hg) dX1_fact_23 ?_
      refine lv_goto (tgt := 28) hx hb dX1_fact_24 (by decide) ?_
      exact W.lret (v := e3 x.toNatClampNeg) hx hb hr (fun t ht hW => ⟨(e3 x.toNatClampNeg), rfl, (by first | rw [if_pos (by assumption)] | rw [if_neg (fun h => h.elim (by assumption) (by assumption))]), ht⟩) (fun _ h => nomatch h) dX1_fact_28
    · exact False.elim (by revert f_9; decide)
  · refine lv_if_eq (tgt := 27) hx hb dX1_fact_5 (by decide) (fun c_11 => ?_) (fun c_11 => absurd c_11 (by decide))
    refine lv_lconst (v := 0) hx hb dX1_fact_27 (by decide) ?_
    exact W.lret (v := 0) hx hb hr (fun t ht hW => ⟨0, rfl, (by first | rw [if_pos (by assumption)] | rw [if_neg (fun h => h.elim (by assumption) (by assumption))]), ht⟩) (fun _ h => nomatch h) dX1_fact_28
set_option maxHeartbeats 1000000 in
set_option maxRecDepth 100000 in
theorem gB_fact_4 (l : Launch) (D : va_G) (cI cL cQ : ClassId) (h0 : Nat) (g : Nat) (fa : Nat) (s1 : Nat) (s2 : Nat) (gs : Nat) (gt : Int32) (e0 : Nat → Int64) (e1 : Nat → Int64) (e2 : Nat → Int64) (e3 : Nat → Int64) (e4 : Nat → Int64) (x : Int32) (hg : g ≤ 400) (hgs : gs ≤ g) : Met l yX1_fact wsX1_fact ({ frames := 1, cells := 0, slots := 0, locals := 21 }) (jr_P D vwCl (jT cI cL cQ) cL cQ [.ref h0, .int x, .int 4] [(h0, .inr (1, [.int (nI g), .ref fa, .ref s1, .ref s2, .int (nI gs), .int gt])), (fa, .inl (cQ, 5, .inr (.inr (.inr (.inr (fun j => if j < 5 then some (fa + 1 + j) else none)))))), (fa + 1, .inl (cL, g, .inr (.inl e0))), (fa + 2, .inl (cL, g, .inr (.inl e1))), (fa + 3, .inl (cL, g, .inr (.inl e2))), (fa + 4, .inl (cL, g, .inr (.inl e3))), (fa + 5, .inl (cL, g, .inr (.inl e4)))]) (vp_Sl (fun r : Int64 => r = if x < 0 ∨ nI gs ≤ x then 0 else e4 x.toNatClampNeg)) 0 0 (fun _ => False) := by
  refine Met.ofW (cc := cX1_fact) (maxL := 3) (ret := (some .long)) (by decide) rfl ?_
  intro p e s m args below meth c s₁ B hml hv
  obtain ⟨rfl, hP, hK, hN⟩ := hv
  have hx := B.exec
  have hb := B.bytes
  have hr := B.returns
  have hts := atoms_spec (ws := wsX1_fact) B.pre
  have hown : s.vm.findClass RX1 = some m.cls := findClass_of_methodNamed B.named
  have hlocks := B.notSynchronized
  have hl := lv_entry ([.ref h0, .int x, .int 4]) (n := 3) (Nat.le_of_ble_eq_true rfl)
  rw [lg_entry_eq]
  generalize (lg_sl ([.ref h0, .int x, .int 4]) ++ List.replicate (3 - (lg_sl ([.ref h0, .int x, .int 4])).length) Slot.unset).toArray = ls at hl ⊢
  have hl : lv_has ls 3 [(0, .ref h0), (1, .int x), (2, .int 4)] := hl
  refine lv_aload_n hx hb dX1_fact_0 rfl (lv_at hl 0 rfl) ?_
  refine lv_iload_n hx hb dX1_fact_1 rfl (lv_at hl 1 rfl) ?_
  refine vp_callSi (va_Run.run (va_runV (As := [.int x]) (rest := []) ⟨hx, hb, hml, hown, hts⟩ (gB_has l D cI cL cQ h0 g fa s1 s2 gs gt x) (cwV 1 hts gX1_fact_X1_has rfl rfl rfl (by decide +kernel) ⟨Nat.le_of_ble_eq_true rfl, Nat.le_of_ble_eq_true rfl⟩) (jr_V hK hN hP [0] rfl 1 0 rfl rfl rfl) rfl rfl hl.1 rfl (lv_room (Nat.le_of_ble_eq_true rfl)) dX1_fact_2 ⟨Nat.le_of_ble_eq_true rfl, Nat.le_of_ble_eq_true rfl⟩)) (fun r f_1 => ?_)
  rcases f_1 with ⟨rfl, f_2, f_3⟩ | ⟨rfl, f_4⟩
  · refine lv_if_eq (tgt := 27) hx hb dX1_fact_5 (by decide) (fun c_5 => absurd c_5 (by decide)) (fun c_5 => ?_)
    refine lv_iload_n hx hb dX1_fact_8 rfl (lv_at hl 2 rfl) ?_
    refine lv_iconst (v := 5) hx hb dX1_fact_9 (by decide) ?_
    refine vp_callSi (va_Run.run (va_runSN (As := [.int 4, .int 5]) (rest := []) ⟨hx, hb, hml, hown, hts⟩ (gJ_isBelow l D cI cL cQ 4 5) ⟨(va_cnB 2 hts gX1_fact_X5_isBelow_n41 rfl rfl rfl (hN.2.1 (RX1, 41, yX5_isBelow, "JoinDesk") (by decide +kernel)) (hts (.initialized RX5) (by decide +kernel)) (by decide +kernel) ⟨Nat.le_of_ble_eq_true rfl, Nat.le_of_ble_eq_true rfl⟩), hts (.static yX5_isBelow) (by decide +kernel), trivial⟩ (jr_S hK hN hP [] rfl) rfl rfl hl.1 rfl (lv_room (Nat.le_of_ble_eq_true rfl)) dX1_fact_10 ⟨Nat.le_of_ble_eq_true rfl, Nat.le_of_ble_eq_true rfl⟩)) (fun r f_6 => ?_)
    rcases f_6 with ⟨rfl, f_7, f_8⟩ | ⟨rfl, f_9⟩
    · refine lv_if_eq (tgt := 27) hx hb dX1_fact_13 (by decide) (fun c_10 => absurd c_10 (by decide)) (fun c_10 => ?_)
      refine lv_aload_n hx hb dX1_fact_16 rfl (lv_at hl 0 rfl) ?_
      refine va_get (D := D) (ci := 1) (v := .ref fa) (C := RX1) (T := TX1) (N := 6) hx hb hts (by decide +kernel) hown hK hP 0 rfl rfl 1 (by decide) (hts (.fieldLink RX1 17 "JoinDesk$GroupBook" "facts" "[[J") (by decide +kernel)) (fun _ h9 => h9) rfl dX1_fact_17 ?_
      refine lv_iload_n hx hb dX1_fact_20 rfl (lv_at hl 2 rfl) ?_
      refine jg_ald (k := 4) hx hb hK hP 1 2 rfl rfl (by decide) (by unfold vp_in; decide) dX1_fact_21 ?_
      refine W.eq (g2 := F0 m 22 ls [.ref (fa + 5)]) rfl ?_
      refine lv_iload_n hx hb dX1_fact_22 rfl (lv_at hl 1 rfl) ?_
      refine va_lald hx hb hK hP 6 1 rfl rfl (jt_in (by assumption) (by assumption) hgs hg) dX1_fact_23 ?_
      refine lv_goto (tgt := 28) hx hb dX1_fact_24 (by decide) ?_
      exact W.lret (v := e4 x.toNatClampNeg) hx hb hr (fun t ht hW => ⟨(e4 x.toNatClampNeg), rfl, (by first | rw [if_pos (by assumption)] | rw [if_neg (fun h => h.elim (by assumption) (by assumption))]), ht⟩) (fun _ h => nomatch h) dX1_fact_28
    · exact False.elim (by revert f_9; decide)
  · refine lv_if_eq (tgt := 27) hx hb dX1_fact_5 (by decide) (fun c_11 => ?_) (fun c_11 => absurd c_11 (by decide))
    refine lv_lconst (v := 0) hx hb dX1_fact_27 (by decide) ?_
    exact W.lret (v := 0) hx hb hr (fun t ht hW => ⟨0, rfl, (by first | rw [if_pos (by assumption)] | rw [if_neg (fun h => h.elim (by assumption) (by assumption))]), ht⟩) (fun _ h => nomatch h) dX1_fact_28
set_option maxHeartbeats 1000000 in
set_option maxRecDepth 100000 in
theorem gB_write (l : Launch) (D : va_G) (cI cL cQ : ClassId) (h0 : Nat) (g : Nat) (fa : Nat) (s1 : Nat) (s2 : Nat) (gs : Nat) (gt : Int32) (sz1 : Int32) (sz2 : Int32) (sa1 : Int64) (sb1 : Int64) (sc1 : Int64) (sa2 : Int64) (sb2 : Int64) (sc2 : Int64) (e0 : Nat → Int64) (e1 : Nat → Int64) (e2 : Nat → Int64) (e3 : Nat → Int64) (e4 : Nat → Int64) (wi : Nat) (key : Int32) (sz : Nat) (hg : g ≤ 400) (hwi : wi < g) : Met l yX1_write wsX1_write ({ frames := 1, cells := 0, slots := 0, locals := 19 }) (jw_P D vwCl (jT cI cL cQ) cL cQ [.ref h0, .int (nI wi), .int key] [(h0, .inr (1, [.int (nI g), .ref fa, .ref s1, .ref s2, .int (nI gs), .int gt])), (s1, .inr (3, [.int sz1, .long sa1, .long sb1, .long sc1])), (s2, .inr (3, [.int sz2, .long sa2, .long sb2, .long sc2])), (fa, .inl (cQ, 5, .inr (.inr (.inr (.inr (fun j => if j < 5 then some (fa + 1 + j) else none)))))), (fa + 1, .inl (cL, g, .inr (.inl e0))), (fa + 2, .inl (cL, g, .inr (.inl e1))), (fa + 3, .inl (cL, g, .inr (.inl e2))), (fa + 4, .inl (cL, g, .inr (.inl e3))), (fa + 5, .inl (cL, g, .inr (.inl e4)))] sz) (va_Qv (fun u : va_W => u = [(h0, .inr (1, [.int (nI g), .ref fa, .ref s1, .ref s2, .int (nI gs), .int gt])), (s1, .inr (3, [.int sz1, .long sa1, .long sb1, .long sc1])), (s2, .inr (3, [.int sz2, .long sa2, .long sb2, .long sc2])), (fa, .inl (cQ, 5, .inr (.inr (.inr (.inr (fun j => if j < 5 then some (fa + 1 + j) else none)))))), (fa + 1, .inl (cL, g, .inr (.inl (vp_updL e0 wi key.toInt64)))), (fa + 2, .inl (cL, g, .inr (.inl (vp_updL e1 wi (sz1.toInt64 * sz2.toInt64))))), (fa + 3, .inl (cL, g, .inr (.inl (vp_updL e2 wi (sa1 * sa2))))), (fa + 4, .inl (cL, g, .inr (.inl (vp_updL e3 wi (jmin4 (sb1 * sb2) (sb1 * sc2) (sc1 * sb2) (sc1 * sc2)))))), (fa + 5, .inl (cL, g, .inr (.inl (vp_updL e4 wi (jmax4 (sb1 * sb2) (sb1 * sc2) (sc1 * sb2) (sc1 * sc2))))))]) (jw_B D vwCl (va_A [(h0, .inr (1, [.int (nI g), .ref fa, .ref s1, .ref s2, .int (nI gs), .int gt])), (s1, .inr (3, [.int sz1, .long sa1, .long sb1, .long sc1])), (s2, .inr (3, [.int sz2, .long sa2, .long sb2, .long sc2])), (fa, .inl (cQ, 5, .inr (.inr (.inr (.inr (fun j => if j < 5 then some (fa + 1 + j) else none)))))), (fa + 1, .inl (cL, g, .inr (.inl e0))), (fa + 2, .inl (cL, g, .inr (.inl e1))), (fa + 3, .inl (cL, g, .inr (.inl e2))), (fa + 4, .inl (cL, g, .inr (.inl e3))), (fa + 5, .inl (cL, g, .inr (.inl e4)))] sz) (fun u : va_W => u)) (va_A [(h0, .inr (1, [.int (nI g), .ref fa, .ref s1, .ref s2, .int (nI gs), .int gt])), (s1, .inr (3, [.int sz1, .long sa1, .long sb1, .long sc1])), (s2, .inr (3, [.int sz2, .long sa2, .long sb2, .long sc2])), (fa, .inl (cQ, 5, .inr (.inr (.inr (.inr (fun j => if j < 5 then some (fa + 1 + j) else none)))))), (fa + 1, .inl (cL, g, .inr (.inl e0))), (fa + 2, .inl (cL, g, .inr (.inl e1))), (fa + 3, .inl (cL, g, .inr (.inl e2))), (fa + 4, .inl (cL, g, .inr (.inl e3))), (fa + 5, .inl (cL, g, .inr (.inl e4)))] sz)) 0 0 (va_A [(h0, .inr (1, [.int (nI g), .ref fa, .ref s1, .ref s2, .int (nI gs), .int gt])), (s1, .inr (3, [.int sz1, .long sa1, .long sb1, .long sc1])), (s2, .inr (3, [.int sz2, .long sa2, .long sb2, .long sc2])), (fa, .inl (cQ, 5, .inr (.inr (.inr (.inr (fun j => if j < 5 then some (fa + 1 + j) else none)))))), (fa + 1, .inl (cL, g, .inr (.inl e0))), (fa + 2, .inl (cL, g, .inr (.inl e1))), (fa + 3, .inl (cL, g, .inr (.inl e2))), (fa + 4, .inl (cL, g, .inr (.inl e3))), (fa + 5, .inl (cL, g, .inr (.inl e4)))] sz) := by
  refine Met.ofW (cc := cX1_write) (maxL := 11) (ret := none) (by decide) rfl ?_
  intro p e s m args below meth c s₁ B hml hv
  obtain ⟨rfl, hsz, hP, hK, hN, hD0⟩ := hv
  have hx := B.exec
  have hb := B.bytes
  have hr := B.returns
  have hts := atoms_spec (ws := wsX1_write) B.pre
  have hown : s.vm.findClass RX1 = some m.cls := findClass_of_methodNamed B.named
  have hlocks := B.notSynchronized
  subst hsz
  have hD := hD0.self (sz := s.heap.size)
  generalize hAe : va_A [(h0, .inr (1, [.int (nI g), .ref fa, .ref s1, .ref s2, .int (nI gs), .int gt])), (s1, .inr (3, [.int sz1, .long sa1, .long sb1, .long sc1])), (s2, .inr (3, [.int sz2, .long sa2, .long sb2, .long sc2])), (fa, .inl (cQ, 5, .inr (.inr (.inr (.inr (fun j => if j < 5 then some (fa + 1 + j) else none)))))), (fa + 1, .inl (cL, g, .inr (.inl e0))), (fa + 2, .inl (cL, g, .inr (.inl e1))), (fa + 3, .inl (cL, g, .inr (.inl e2))), (fa + 4, .inl (cL, g, .inr (.inl e3))), (fa + 5, .inl (cL, g, .inr (.inl e4)))] s.heap.size = A at hD ⊢
  have hA : ∀ q : Nat, s.heap.size ≤ q → A q := fun q h => by rw [← hAe]; exact Or.inr h
  have hS : va_S A s.heap s.heap [] := va_S.rf
  have hl := lv_entry ([.ref h0, .int (nI wi), .int key]) (n := 11) (Nat.le_of_ble_eq_true rfl)
  rw [lg_entry_eq]
  generalize (lg_sl ([.ref h0, .int (nI wi), .int key]) ++ List.replicate (11 - (lg_sl ([.ref h0, .int (nI wi), .int key])).length) Slot.unset).toArray = ls at hl ⊢
  have hl : lv_has ls 11 [(0, .ref h0), (1, .int (nI wi)), (2, .int key)] := hl
  refine lv_aload_n hx hb dX1_write_0 rfl (lv_at hl 0 rfl) ?_
  refine va_get (D := D) (ci := 1) (v := .ref s1) (C := RX1) (T := TX1) (N := 6) hx hb hts (by decide +kernel) hown hK hP 0 rfl rfl 2 (by decide) (hts (.fieldLink RX1 23 "JoinDesk$GroupBook" "leftSpan" "LJoinDesk$Span;") (by decide +kernel)) (fun _ h9 => h9) rfl dX1_write_1 ?_
  refine va_getN (D := D) (ci := 3) (v := .long sb1) (C := RX3) (T := TX3) (N := 4) hx hb hts (by decide +kernel) hown hK hP 1 rfl rfl 2 (by decide) (va_Nw.use rfl (hN.1 (RX1, 68, "JoinDesk$Span", "least", "J", "JoinDesk") (by decide +kernel))) (fun _ h9 => h9) rfl dX1_write_4 ?_
  refine lv_aload_n hx hb dX1_write_7 rfl (lv_at hl 0 rfl) ?_
  refine va_get (D := D) (ci := 1) (v := .ref s2) (C := RX1) (T := TX1) (N := 6) hx hb hts (by decide +kernel) hown hK hP 0 rfl rfl 3 (by decide) (hts (.fieldLink RX1 27 "JoinDesk$GroupBook" "rightSpan" "LJoinDesk$Span;") (by decide +kernel)) (fun _ h9 => h9) rfl dX1_write_8 ?_
  refine va_getN (D := D) (ci := 3) (v := .long sb2) (C := RX3) (T := TX3) (N := 4) hx hb hts (by decide +kernel) hown hK hP 2 rfl rfl 2 (by decide) (va_Nw.use rfl (hN.1 (RX1, 68, "JoinDesk$Span", "least", "J", "JoinDesk") (by decide +kernel))) (fun _ h9 => h9) rfl dX1_write_11 ?_
  refine lv_lmul hx hb dX1_write_14 ?_
  refine lv_lstore_n (lv' := [(3, .long (sb1 * sb2)), (0, .ref h0), (1, .int (nI wi)), (2, .int key)]) hx hb dX1_write_15 rfl hl (by decide) rfl (fun ls hl => ?_)
  refine lv_aload_n hx hb dX1_write_16 rfl (lv_at hl 1 rfl) ?_
  refine va_get (D := D) (ci := 1) (v := .ref s1) (C := RX1) (T := TX1) (N := 6) hx hb hts (by decide +kernel) hown hK hP 0 rfl rfl 2 (by decide) (hts (.fieldLink RX1 23 "JoinDesk$GroupBook" "leftSpan" "LJoinDesk$Span;") (by decide +kernel)) (fun _ h9 => h9) rfl dX1_write_17 ?_
  refine va_getN (D := D) (ci := 3) (v := .long sb1) (C := RX3) (T := TX3) (N := 4) hx hb hts (by decide +kernel) hown hK hP 1 rfl rfl 2 (by decide) (va_Nw.use rfl (hN.1 (RX1, 68, "JoinDesk$Span", "least", "J", "JoinDesk") (by decide +kernel))) (fun _ h9 => h9) rfl dX1_write_20 ?_
  refine lv_aload_n hx hb dX1_write_23 rfl (lv_at hl 1 rfl) ?_
  refine va_get (D := D) (ci := 1) (v := .ref s2) (C := RX1) (T := TX1) (N := 6) hx hb hts (by decide +kernel) hown hK hP 0 rfl rfl 3 (by decide) (hts (.fieldLink RX1 27 "JoinDesk$GroupBook" "rightSpan" "LJoinDesk$Span;") (by decide +kernel)) (fun _ h9 => h9) rfl dX1_write_24 ?_
  refine va_getN (D := D) (ci := 3) (v := .long sc2) (C := RX3) (T := TX3) (N := 4) hx hb hts (by decide +kernel) hown hK hP 2 rfl rfl 3 (by decide) (va_Nw.use rfl (hN.1 (RX1, 72, "JoinDesk$Span", "greatest", "J", "JoinDesk") (by decide +kernel))) (fun _ h9 => h9) rfl dX1_write_27 ?_
  refine lv_lmul hx hb dX1_write_30 ?_
  refine lv_lstore (lv' := [(5, .long (sb1 * sc2)), (3, .long (sb1 * sb2)), (0, .ref h0), (1, .int (nI wi)), (2, .int key)]) hx hb dX1_write_31 hl (by decide) rfl (fun ls hl => ?_)
  refine lv_aload_n hx hb dX1_write_33 rfl (lv_at hl 2 rfl) ?_
  refine va_get (D := D) (ci := 1) (v := .ref s1) (C := RX1) (T := TX1) (N := 6) hx hb hts (by decide +kernel) hown hK hP 0 rfl rfl 2 (by decide) (hts (.fieldLink RX1 23 "JoinDesk$GroupBook" "leftSpan" "LJoinDesk$Span;") (by decide +kernel)) (fun _ h9 => h9) rfl dX1_write_34 ?_
  refine va_getN (D := D) (ci := 3) (v := .long sc1) (C := RX3) (T := TX3) (N := 4) hx hb hts (by decide +kernel) hown hK hP 1 rfl rfl 3 (by decide) (va_Nw.use rfl (hN.1 (RX1, 72, "JoinDesk$Span", "greatest", "J", "JoinDesk") (by decide +kernel))) (fun _ h9 => h9) rfl dX1_write_37 ?_
  refine lv_aload_n hx hb dX1_write_40 rfl (lv_at hl 2 rfl) ?_
  refine va_get (D := D) (ci := 1) (v := .ref s2) (C := RX1) (T := TX1) (N := 6) hx hb hts (by decide +kernel) hown hK hP 0 rfl rfl 3 (by decide) (hts (.fieldLink RX1 27 "JoinDesk$GroupBook" "rightSpan" "LJoinDesk$Span;") (by decide +kernel)) (fun _ h9 => h9) rfl dX1_write_41 ?_
  refine va_getN (D := D) (ci := 3) (v := .long sb2) (C := RX3) (T := TX3) (N := 4) hx hb hts (by decide +kernel) hown hK hP 2 rfl rfl 2 (by decide) (va_Nw.use rfl (hN.1 (RX1, 68, "JoinDesk$Span", "least", "J", "JoinDesk") (by decide +kernel))) (fun _ h9 => h9) rfl dX1_write_44 ?_
  refine lv_lmul hx hb dX1_write_47 ?_
  refine lv_lstore (lv' := [(7, .long (sc1 * sb2)), (5, .long (sb1 * sc2)), (3, .long (sb1 * sb2)), (0, .ref h0), (1, .int (nI wi)), (2, .int key)]) hx hb dX1_write_48 hl (by decide) rfl (fun ls hl => ?_)
  refine lv_aload_n hx hb dX1_write_50 rfl (lv_at hl 3 rfl) ?_
  refine va_get (D := D) (ci := 1) (v := .ref s1) (C := RX1) (T := TX1) (N := 6) hx hb hts (by decide +kernel) hown hK hP 0 rfl rfl 2 (by decide) (hts (.fieldLink RX1 23 "JoinDesk$GroupBook" "leftSpan" "LJoinDesk$Span;") (by decide +kernel)) (fun _ h9 => h9) rfl dX1_write_51 ?_
  refine va_getN (D := D) (ci := 3) (v := .long sc1) (C := RX3) (T := TX3) (N := 4) hx hb hts (by decide +kernel) hown hK hP 1 rfl rfl 3 (by decide) (va_Nw.use rfl (hN.1 (RX1, 72, "JoinDesk$Span", "greatest", "J", "JoinDesk") (by decide +kernel))) (fun _ h9 => h9) rfl dX1_write_54 ?_
  refine lv_aload_n hx hb dX1_write_57 rfl (lv_at hl 3 rfl) ?_
  refine va_get (D := D) (ci := 1) (v := .ref s2) (C := RX1) (T := TX1) (N := 6) hx hb hts (by decide +kernel) hown hK hP 0 rfl rfl 3 (by decide) (hts (.fieldLink RX1 27 "JoinDesk$GroupBook" "rightSpan" "LJoinDesk$Span;") (by decide +kernel)) (fun _ h9 => h9) rfl dX1_write_58 ?_
  refine va_getN (D := D) (ci := 3) (v := .long sc2) (C := RX3) (T := TX3) (N := 4) hx hb hts (by decide +kernel) hown hK hP 2 rfl rfl 3 (by decide) (va_Nw.use rfl (hN.1 (RX1, 72, "JoinDesk$Span", "greatest", "J", "JoinDesk") (by decide +kernel))) (fun _ h9 => h9) rfl dX1_write_61 ?_
  refine lv_lmul hx hb dX1_write_64 ?_
  refine lv_lstore (lv' := [(9, .long (sc1 * sc2)), (7, .long (sc1 * sb2)), (5, .long (sb1 * sc2)), (3, .long (sb1 * sb2)), (0, .ref h0), (1, .int (nI wi)), (2, .int key)]) hx hb dX1_write_65 hl (by decide) rfl (fun ls hl => ?_)
  refine lv_aload_n hx hb dX1_write_67 rfl (lv_at hl 4 rfl) ?_
  refine va_get (D := D) (ci := 1) (v := .ref fa) (C := RX1) (T := TX1) (N := 6) hx hb hts (by decide +kernel) hown hK hP 0 rfl rfl 1 (by decide) (hts (.fieldLink RX1 17 "JoinDesk$GroupBook" "facts" "[[J") (by decide +kernel)) (fun _ h9 => h9) rfl dX1_write_68 ?_
  refine lv_iconst (v := 0) hx hb dX1_write_71 (by decide) ?_
  refine jg_ald (k := 0) hx hb hK hP 3 2 rfl rfl (by decide) (by unfold vp_in; decide) dX1_write_72 ?_
  refine W.eq (g2 := F0 m 73 ls [.ref (fa + 1)]) rfl ?_
  refine lv_iload_n hx hb dX1_write_73 rfl (lv_at hl 5 rfl) ?_
  refine lv_iload_n hx hb dX1_write_74 rfl (lv_at hl 6 rfl) ?_
  refine lv_i2l (v := key.toInt64) hx hb dX1_write_75 (by first | rfl | decide) ?_
  refine va_last hx hb hK hP hD hS 4 1 rfl rfl (vp_in_nI hwi (by omega)) dX1_write_76 (fun H locs hP hD hS => ?_)
  have hP : va_P D vwCl [(h0, .inr (1, [.int (nI g), .ref fa, .ref s1, .ref s2, .int (nI gs), .int gt])), (s1, .inr (3, [.int sz1, .long sa1, .long sb1, .long sc1])), (s2, .inr (3, [.int sz2, .long sa2, .long sb2, .long sc2])), (fa, .inl (cQ, 5, .inr (.inr (.inr (.inr (fun j => if j < 5 then some (fa + 1 + j) else none)))))), (fa + 1, .inl (cL, g, .inr (.inl (vp_updL e0 (nI wi).toNatClampNeg key.toInt64)))), (fa + 2, .inl (cL, g, .inr (.inl e1))), (fa + 3, .inl (cL, g, .inr (.inl e2))), (fa + 4, .inl (cL, g, .inr (.inl e3))), (fa + 5, .inl (cL, g, .inr (.inl e4)))] H := hP
  have hD : va_D A [(h0, .inr (1, [.int (nI g), .ref fa, .ref s1, .ref s2, .int (nI gs), .int gt])), (s1, .inr (3, [.int sz1, .long sa1, .long sb1, .long sc1])), (s2, .inr (3, [.int sz2, .long sa2, .long sb2, .long sc2])), (fa, .inl (cQ, 5, .inr (.inr (.inr (.inr (fun j => if j < 5 then some (fa + 1 + j) else none)))))), (fa + 1, .inl (cL, g, .inr (.inl (vp_updL e0 (nI wi).toNatClampNeg key.toInt64)))), (fa + 2, .inl (cL, g, .inr (.inl e1))), (fa + 3, .inl (cL, g, .inr (.inl e2))), (fa + 4, .inl (cL, g, .inr (.inl e3))), (fa + 5, .inl (cL, g, .inr (.inl e4)))] := hD
  refine lv_aload_n hx hb dX1_write_77 rfl (lv_at hl 4 rfl) ?_
  refine va_get (D := D) (ci := 1) (v := .ref fa) (C := RX1) (T := TX1) (N := 6) hx hb hts (by decide +kernel) hown hK hP 0 rfl rfl 1 (by decide) (hts (.fieldLink RX1 17 "JoinDesk$GroupBook" "facts" "[[J") (by decide +kernel)) (fun _ h9 => h9) rfl dX1_write_78 ?_
  refine lv_iconst (v := 1) hx hb dX1_write_81 (by decide) ?_
  refine jg_ald (k := 1) hx hb hK hP 3 2 rfl rfl (by decide) (by unfold vp_in; decide) dX1_write_82 ?_
  refine W.eq (g2 := F0 m 83 ls [.ref (fa + 2)]) rfl ?_
  refine lv_iload_n hx hb dX1_write_83 rfl (lv_at hl 5 rfl) ?_
  refine lv_aload_n hx hb dX1_write_84 rfl (lv_at hl 4 rfl) ?_
  refine va_get (D := D) (ci := 1) (v := .ref s1) (C := RX1) (T := TX1) (N := 6) hx hb hts (by decide +kernel) hown hK hP 0 rfl rfl 2 (by decide) (hts (.fieldLink RX1 23 "JoinDesk$GroupBook" "leftSpan" "LJoinDesk$Span;") (by decide +kernel)) (fun _ h9 => h9) rfl dX1_write_85 ?_
  refine va_getN (D := D) (ci := 3) (v := .int sz1) (C := RX3) (T := TX3) (N := 4) hx hb hts (by decide +kernel) hown hK hP 1 rfl rfl 0 (by decide) (va_Nw.use rfl (hN.1 (RX1, 75, "JoinDesk$Span", "rows", "I", "JoinDesk") (by decide +kernel))) (fun _ h9 => h9) rfl dX1_write_88 ?_
  refine lv_i2l (v := sz1.toInt64) hx hb dX1_write_91 (by first | rfl | decide) ?_
  refine lv_aload_n hx hb dX1_write_92 rfl (lv_at hl 4 rfl) ?_
  refine va_get (D := D) (ci := 1) (v := .ref s2) (C := RX1) (T := TX1) (N := 6) hx hb hts (by decide +kernel) hown hK hP 0 rfl rfl 3 (by decide) (hts (.fieldLink RX1 27 "JoinDesk$GroupBook" "rightSpan" "LJoinDesk$Span;") (by decide +kernel)) (fun _ h9 => h9) rfl dX1_write_93 ?_
  refine va_getN (D := D) (ci := 3) (v := .int sz2) (C := RX3) (T := TX3) (N := 4) hx hb hts (by decide +kernel) hown hK hP 2 rfl rfl 0 (by decide) (va_Nw.use rfl (hN.1 (RX1, 75, "JoinDesk$Span", "rows", "I", "JoinDesk") (by decide +kernel))) (fun _ h9 => h9) rfl dX1_write_96 ?_
  refine lv_i2l (v := sz2.toInt64) hx hb dX1_write_99 (by first | rfl | decide) ?_
  refine lv_lmul hx hb dX1_write_100 ?_
  refine va_last hx hb hK hP hD hS 5 1 rfl rfl (vp_in_nI hwi (by omega)) dX1_write_101 (fun H locs hP hD hS => ?_)
  have hP : va_P D vwCl [(h0, .inr (1, [.int (nI g), .ref fa, .ref s1, .ref s2, .int (nI gs), .int gt])), (s1, .inr (3, [.int sz1, .long sa1, .long sb1, .long sc1])), (s2, .inr (3, [.int sz2, .long sa2, .long sb2, .long sc2])), (fa, .inl (cQ, 5, .inr (.inr (.inr (.inr (fun j => if j < 5 then some (fa + 1 + j) else none)))))), (fa + 1, .inl (cL, g, .inr (.inl (vp_updL e0 (nI wi).toNatClampNeg key.toInt64)))), (fa + 2, .inl (cL, g, .inr (.inl (vp_updL e1 (nI wi).toNatClampNeg (sz1.toInt64 * sz2.toInt64))))), (fa + 3, .inl (cL, g, .inr (.inl e2))), (fa + 4, .inl (cL, g, .inr (.inl e3))), (fa + 5, .inl (cL, g, .inr (.inl e4)))] H := hP
  have hD : va_D A [(h0, .inr (1, [.int (nI g), .ref fa, .ref s1, .ref s2, .int (nI gs), .int gt])), (s1, .inr (3, [.int sz1, .long sa1, .long sb1, .long sc1])), (s2, .inr (3, [.int sz2, .long sa2, .long sb2, .long sc2])), (fa, .inl (cQ, 5, .inr (.inr (.inr (.inr (fun j => if j < 5 then some (fa + 1 + j) else none)))))), (fa + 1, .inl (cL, g, .inr (.inl (vp_updL e0 (nI wi).toNatClampNeg key.toInt64)))), (fa + 2, .inl (cL, g, .inr (.inl (vp_updL e1 (nI wi).toNatClampNeg (sz1.toInt64 * sz2.toInt64))))), (fa + 3, .inl (cL, g, .inr (.inl e2))), (fa + 4, .inl (cL, g, .inr (.inl e3))), (fa + 5, .inl (cL, g, .inr (.inl e4)))] := hD
  refine lv_aload_n hx hb dX1_write_102 rfl (lv_at hl 4 rfl) ?_
  refine va_get (D := D) (ci := 1) (v := .ref fa) (C := RX1) (T := TX1) (N := 6) hx hb hts (by decide +kernel) hown hK hP 0 rfl rfl 1 (by decide) (hts (.fieldLink RX1 17 "JoinDesk$GroupBook" "facts" "[[J") (by decide +kernel)) (fun _ h9 => h9) rfl dX1_write_103 ?_
  refine lv_iconst (v := 2) hx hb dX1_write_106 (by decide) ?_
  refine jg_ald (k := 2) hx hb hK hP 3 2 rfl rfl (by decide) (by unfold vp_in; decide) dX1_write_107 ?_
  refine W.eq (g2 := F0 m 108 ls [.ref (fa + 3)]) rfl ?_
  refine lv_iload_n hx hb dX1_write_108 rfl (lv_at hl 5 rfl) ?_
  refine lv_aload_n hx hb dX1_write_109 rfl (lv_at hl 4 rfl) ?_
  refine va_get (D := D) (ci := 1) (v := .ref s1) (C := RX1) (T := TX1) (N := 6) hx hb hts (by decide +kernel) hown hK hP 0 rfl rfl 2 (by decide) (hts (.fieldLink RX1 23 "JoinDesk$GroupBook" "leftSpan" "LJoinDesk$Span;") (by decide +kernel)) (fun _ h9 => h9) rfl dX1_write_110 ?_
  refine va_getN (D := D) (ci := 3) (v := .long sa1) (C := RX3) (T := TX3) (N := 4) hx hb hts (by decide +kernel) hown hK hP 1 rfl rfl 1 (by decide) (va_Nw.use rfl (hN.1 (RX1, 78, "JoinDesk$Span", "sum", "J", "JoinDesk") (by decide +kernel))) (fun _ h9 => h9) rfl dX1_write_113 ?_
  refine lv_aload_n hx hb dX1_write_116 rfl (lv_at hl 4 rfl) ?_
  refine va_get (D := D) (ci := 1) (v := .ref s2) (C := RX1) (T := TX1) (N := 6) hx hb hts (by decide +kernel) hown hK hP 0 rfl rfl 3 (by decide) (hts (.fieldLink RX1 27 "JoinDesk$GroupBook" "rightSpan" "LJoinDesk$Span;") (by decide +kernel)) (fun _ h9 => h9) rfl dX1_write_117 ?_
  refine va_getN (D := D) (ci := 3) (v := .long sa2) (C := RX3) (T := TX3) (N := 4) hx hb hts (by decide +kernel) hown hK hP 2 rfl rfl 1 (by decide) (va_Nw.use rfl (hN.1 (RX1, 78, "JoinDesk$Span", "sum", "J", "JoinDesk") (by decide +kernel))) (fun _ h9 => h9) rfl dX1_write_120 ?_
  refine lv_lmul hx hb dX1_write_123 ?_
  refine va_last hx hb hK hP hD hS 6 1 rfl rfl (vp_in_nI hwi (by omega)) dX1_write_124 (fun H locs hP hD hS => ?_)
  have hP : va_P D vwCl [(h0, .inr (1, [.int (nI g), .ref fa, .ref s1, .ref s2, .int (nI gs), .int gt])), (s1, .inr (3, [.int sz1, .long sa1, .long sb1, .long sc1])), (s2, .inr (3, [.int sz2, .long sa2, .long sb2, .long sc2])), (fa, .inl (cQ, 5, .inr (.inr (.inr (.inr (fun j => if j < 5 then some (fa + 1 + j) else none)))))), (fa + 1, .inl (cL, g, .inr (.inl (vp_updL e0 (nI wi).toNatClampNeg key.toInt64)))), (fa + 2, .inl (cL, g, .inr (.inl (vp_updL e1 (nI wi).toNatClampNeg (sz1.toInt64 * sz2.toInt64))))), (fa + 3, .inl (cL, g, .inr (.inl (vp_updL e2 (nI wi).toNatClampNeg (sa1 * sa2))))), (fa + 4, .inl (cL, g, .inr (.inl e3))), (fa + 5, .inl (cL, g, .inr (.inl e4)))] H := hP
  have hD : va_D A [(h0, .inr (1, [.int (nI g), .ref fa, .ref s1, .ref s2, .int (nI gs), .int gt])), (s1, .inr (3, [.int sz1, .long sa1, .long sb1, .long sc1])), (s2, .inr (3, [.int sz2, .long sa2, .long sb2, .long sc2])), (fa, .inl (cQ, 5, .inr (.inr (.inr (.inr (fun j => if j < 5 then some (fa + 1 + j) else none)))))), (fa + 1, .inl (cL, g, .inr (.inl (vp_updL e0 (nI wi).toNatClampNeg key.toInt64)))), (fa + 2, .inl (cL, g, .inr (.inl (vp_updL e1 (nI wi).toNatClampNeg (sz1.toInt64 * sz2.toInt64))))), (fa + 3, .inl (cL, g, .inr (.inl (vp_updL e2 (nI wi).toNatClampNeg (sa1 * sa2))))), (fa + 4, .inl (cL, g, .inr (.inl e3))), (fa + 5, .inl (cL, g, .inr (.inl e4)))] := hD
  refine lv_aload_n hx hb dX1_write_125 rfl (lv_at hl 4 rfl) ?_
  refine va_get (D := D) (ci := 1) (v := .ref fa) (C := RX1) (T := TX1) (N := 6) hx hb hts (by decide +kernel) hown hK hP 0 rfl rfl 1 (by decide) (hts (.fieldLink RX1 17 "JoinDesk$GroupBook" "facts" "[[J") (by decide +kernel)) (fun _ h9 => h9) rfl dX1_write_126 ?_
  refine lv_iconst (v := 3) hx hb dX1_write_129 (by decide) ?_
  refine jg_ald (k := 3) hx hb hK hP 3 2 rfl rfl (by decide) (by unfold vp_in; decide) dX1_write_130 ?_
  refine W.eq (g2 := F0 m 131 ls [.ref (fa + 4)]) rfl ?_
  refine lv_iload_n hx hb dX1_write_131 rfl (lv_at hl 5 rfl) ?_
  refine lv_lload_n hx hb dX1_write_132 rfl (lv_at hl 3 rfl) ?_
  refine lv_lload hx hb dX1_write_133 (lv_at hl 2 rfl) ?_
  refine va_mmin_long hx hb (by rw [hml]; exact hl.1.symm) hown (hts (.methodLink RX1 81 Lib.MathLoose.min_long.x) (by decide +kernel)) (hts (.static Lib.MathLoose.min_long.x) (by decide +kernel)) (hts (.initialized "java/lang/Math") (by decide +kernel)) (hts (.code Lib.MathLoose.min_long.x Lib.MathLoose.min_long.code 4 (some .long)) (by decide +kernel)) (Nat.le_of_ble_eq_true rfl) (Nat.le_of_ble_eq_true rfl) (Nat.le_of_ble_eq_true rfl) (Nat.le_of_ble_eq_true rfl) dX1_write_135 ?_
  refine lv_lload hx hb dX1_write_138 (lv_at hl 1 rfl) ?_
  refine lv_lload hx hb dX1_write_140 (lv_at hl 0 rfl) ?_
  refine va_mmin_long hx hb (by rw [hml]; exact hl.1.symm) hown (hts (.methodLink RX1 81 Lib.MathLoose.min_long.x) (by decide +kernel)) (hts (.static Lib.MathLoose.min_long.x) (by decide +kernel)) (hts (.initialized "java/lang/Math") (by decide +kernel)) (hts (.code Lib.MathLoose.min_long.x Lib.MathLoose.min_long.code 4 (some .long)) (by decide +kernel)) (Nat.le_of_ble_eq_true rfl) (Nat.le_of_ble_eq_true rfl) (Nat.le_of_ble_eq_true rfl) (Nat.le_of_ble_eq_true rfl) dX1_write_142 ?_
  refine va_mmin_long hx hb (by rw [hml]; exact hl.1.symm) hown (hts (.methodLink RX1 81 Lib.MathLoose.min_long.x) (by decide +kernel)) (hts (.static Lib.MathLoose.min_long.x) (by decide +kernel)) (hts (.initialized "java/lang/Math") (by decide +kernel)) (hts (.code Lib.MathLoose.min_long.x Lib.MathLoose.min_long.code 4 (some .long)) (by decide +kernel)) (Nat.le_of_ble_eq_true rfl) (Nat.le_of_ble_eq_true rfl) (Nat.le_of_ble_eq_true rfl) (Nat.le_of_ble_eq_true rfl) dX1_write_145 ?_
  refine va_last hx hb hK hP hD hS 7 1 rfl rfl (vp_in_nI hwi (by omega)) dX1_write_148 (fun H locs hP hD hS => ?_)
  have hP : va_P D vwCl [(h0, .inr (1, [.int (nI g), .ref fa, .ref s1, .ref s2, .int (nI gs), .int gt])), (s1, .inr (3, [.int sz1, .long sa1, .long sb1, .long sc1])), (s2, .inr (3, [.int sz2, .long sa2, .long sb2, .long sc2])), (fa, .inl (cQ, 5, .inr (.inr (.inr (.inr (fun j => if j < 5 then some (fa + 1 + j) else none)))))), (fa + 1, .inl (cL, g, .inr (.inl (vp_updL e0 (nI wi).toNatClampNeg key.toInt64)))), (fa + 2, .inl (cL, g, .inr (.inl (vp_updL e1 (nI wi).toNatClampNeg (sz1.toInt64 * sz2.toInt64))))), (fa + 3, .inl (cL, g, .inr (.inl (vp_updL e2 (nI wi).toNatClampNeg (sa1 * sa2))))), (fa + 4, .inl (cL, g, .inr (.inl (vp_updL e3 (nI wi).toNatClampNeg (if (if (sc1 * sc2) < (sc1 * sb2) then (sc1 * sc2) else (sc1 * sb2)) < (if (sb1 * sc2) < (sb1 * sb2) then (sb1 * sc2) else (sb1 * sb2)) then (if (sc1 * sc2) < (sc1 * sb2) then (sc1 * sc2) else (sc1 * sb2)) else (if (sb1 * sc2) < (sb1 * sb2) then (sb1 * sc2) else (sb1 * sb2))))))), (fa + 5, .inl (cL, g, .inr (.inl e4)))] H := hP
  have hD : va_D A [(h0, .inr (1, [.int (nI g), .ref fa, .ref s1, .ref s2, .int (nI gs), .int gt])), (s1, .inr (3, [.int sz1, .long sa1, .long sb1, .long sc1])), (s2, .inr (3, [.int sz2, .long sa2, .long sb2, .long sc2])), (fa, .inl (cQ, 5, .inr (.inr (.inr (.inr (fun j => if j < 5 then some (fa + 1 + j) else none)))))), (fa + 1, .inl (cL, g, .inr (.inl (vp_updL e0 (nI wi).toNatClampNeg key.toInt64)))), (fa + 2, .inl (cL, g, .inr (.inl (vp_updL e1 (nI wi).toNatClampNeg (sz1.toInt64 * sz2.toInt64))))), (fa + 3, .inl (cL, g, .inr (.inl (vp_updL e2 (nI wi).toNatClampNeg (sa1 * sa2))))), (fa + 4, .inl (cL, g, .inr (.inl (vp_updL e3 (nI wi).toNatClampNeg (if (if (sc1 * sc2) < (sc1 * sb2) then (sc1 * sc2) else (sc1 * sb2)) < (if (sb1 * sc2) < (sb1 * sb2) then (sb1 * sc2) else (sb1 * sb2)) then (if (sc1 * sc2) < (sc1 * sb2) then (sc1 * sc2) else (sc1 * sb2)) else (if (sb1 * sc2) < (sb1 * sb2) then (sb1 * sc2) else (sb1 * sb2))))))), (fa + 5, .inl (cL, g, .inr (.inl e4)))] := hD
  refine lv_aload_n hx hb dX1_write_149 rfl (lv_at hl 4 rfl) ?_
  refine va_get (D := D) (ci := 1) (v := .ref fa) (C := RX1) (T := TX1) (N := 6) hx hb hts (by decide +kernel) hown hK hP 0 rfl rfl 1 (by decide) (hts (.fieldLink RX1 17 "JoinDesk$GroupBook" "facts" "[[J") (by decide +kernel)) (fun _ h9 => h9) rfl dX1_write_150 ?_
  refine lv_iconst (v := 4) hx hb dX1_write_153 (by decide) ?_
  refine jg_ald (k := 4) hx hb hK hP 3 2 rfl rfl (by decide) (by unfold vp_in; decide) dX1_write_154 ?_
  refine W.eq (g2 := F0 m 155 ls [.ref (fa + 5)]) rfl ?_
  refine lv_iload_n hx hb dX1_write_155 rfl (lv_at hl 5 rfl) ?_
  refine lv_lload_n hx hb dX1_write_156 rfl (lv_at hl 3 rfl) ?_
  refine lv_lload hx hb dX1_write_157 (lv_at hl 2 rfl) ?_
  refine va_mmax_long hx hb (by rw [hml]; exact hl.1.symm) hown (hts (.methodLink RX1 87 Lib.MathLoose.max_long.x) (by decide +kernel)) (hts (.static Lib.MathLoose.max_long.x) (by decide +kernel)) (hts (.initialized "java/lang/Math") (by decide +kernel)) (hts (.code Lib.MathLoose.max_long.x Lib.MathLoose.max_long.code 4 (some .long)) (by decide +kernel)) (Nat.le_of_ble_eq_true rfl) (Nat.le_of_ble_eq_true rfl) (Nat.le_of_ble_eq_true rfl) (Nat.le_of_ble_eq_true rfl) dX1_write_159 ?_
  refine lv_lload hx hb dX1_write_162 (lv_at hl 1 rfl) ?_
  refine lv_lload hx hb dX1_write_164 (lv_at hl 0 rfl) ?_
  refine va_mmax_long hx hb (by rw [hml]; exact hl.1.symm) hown (hts (.methodLink RX1 87 Lib.MathLoose.max_long.x) (by decide +kernel)) (hts (.static Lib.MathLoose.max_long.x) (by decide +kernel)) (hts (.initialized "java/lang/Math") (by decide +kernel)) (hts (.code Lib.MathLoose.max_long.x Lib.MathLoose.max_long.code 4 (some .long)) (by decide +kernel)) (Nat.le_of_ble_eq_true rfl) (Nat.le_of_ble_eq_true rfl) (Nat.le_of_ble_eq_true rfl) (Nat.le_of_ble_eq_true rfl) dX1_write_166 ?_
  refine va_mmax_long hx hb (by rw [hml]; exact hl.1.symm) hown (hts (.methodLink RX1 87 Lib.MathLoose.max_long.x) (by decide +kernel)) (hts (.static Lib.MathLoose.max_long.x) (by decide +kernel)) (hts (.initialized "java/lang/Math") (by decide +kernel)) (hts (.code Lib.MathLoose.max_long.x Lib.MathLoose.max_long.code 4 (some .long)) (by decide +kernel)) (Nat.le_of_ble_eq_true rfl) (Nat.le_of_ble_eq_true rfl) (Nat.le_of_ble_eq_true rfl) (Nat.le_of_ble_eq_true rfl) dX1_write_169 ?_
  refine va_last hx hb hK hP hD hS 8 1 rfl rfl (vp_in_nI hwi (by omega)) dX1_write_172 (fun H locs hP hD hS => ?_)
  have hP : va_P D vwCl [(h0, .inr (1, [.int (nI g), .ref fa, .ref s1, .ref s2, .int (nI gs), .int gt])), (s1, .inr (3, [.int sz1, .long sa1, .long sb1, .long sc1])), (s2, .inr (3, [.int sz2, .long sa2, .long sb2, .long sc2])), (fa, .inl (cQ, 5, .inr (.inr (.inr (.inr (fun j => if j < 5 then some (fa + 1 + j) else none)))))), (fa + 1, .inl (cL, g, .inr (.inl (vp_updL e0 (nI wi).toNatClampNeg key.toInt64)))), (fa + 2, .inl (cL, g, .inr (.inl (vp_updL e1 (nI wi).toNatClampNeg (sz1.toInt64 * sz2.toInt64))))), (fa + 3, .inl (cL, g, .inr (.inl (vp_updL e2 (nI wi).toNatClampNeg (sa1 * sa2))))), (fa + 4, .inl (cL, g, .inr (.inl (vp_updL e3 (nI wi).toNatClampNeg (if (if (sc1 * sc2) < (sc1 * sb2) then (sc1 * sc2) else (sc1 * sb2)) < (if (sb1 * sc2) < (sb1 * sb2) then (sb1 * sc2) else (sb1 * sb2)) then (if (sc1 * sc2) < (sc1 * sb2) then (sc1 * sc2) else (sc1 * sb2)) else (if (sb1 * sc2) < (sb1 * sb2) then (sb1 * sc2) else (sb1 * sb2))))))), (fa + 5, .inl (cL, g, .inr (.inl (vp_updL e4 (nI wi).toNatClampNeg (if (if (sc1 * sc2) < (sc1 * sb2) then (sc1 * sb2) else (sc1 * sc2)) < (if (sb1 * sc2) < (sb1 * sb2) then (sb1 * sb2) else (sb1 * sc2)) then (if (sb1 * sc2) < (sb1 * sb2) then (sb1 * sb2) else (sb1 * sc2)) else (if (sc1 * sc2) < (sc1 * sb2) then (sc1 * sb2) else (sc1 * sc2)))))))] H := hP
  have hD : va_D A [(h0, .inr (1, [.int (nI g), .ref fa, .ref s1, .ref s2, .int (nI gs), .int gt])), (s1, .inr (3, [.int sz1, .long sa1, .long sb1, .long sc1])), (s2, .inr (3, [.int sz2, .long sa2, .long sb2, .long sc2])), (fa, .inl (cQ, 5, .inr (.inr (.inr (.inr (fun j => if j < 5 then some (fa + 1 + j) else none)))))), (fa + 1, .inl (cL, g, .inr (.inl (vp_updL e0 (nI wi).toNatClampNeg key.toInt64)))), (fa + 2, .inl (cL, g, .inr (.inl (vp_updL e1 (nI wi).toNatClampNeg (sz1.toInt64 * sz2.toInt64))))), (fa + 3, .inl (cL, g, .inr (.inl (vp_updL e2 (nI wi).toNatClampNeg (sa1 * sa2))))), (fa + 4, .inl (cL, g, .inr (.inl (vp_updL e3 (nI wi).toNatClampNeg (if (if (sc1 * sc2) < (sc1 * sb2) then (sc1 * sc2) else (sc1 * sb2)) < (if (sb1 * sc2) < (sb1 * sb2) then (sb1 * sc2) else (sb1 * sb2)) then (if (sc1 * sc2) < (sc1 * sb2) then (sc1 * sc2) else (sc1 * sb2)) else (if (sb1 * sc2) < (sb1 * sb2) then (sb1 * sc2) else (sb1 * sb2))))))), (fa + 5, .inl (cL, g, .inr (.inl (vp_updL e4 (nI wi).toNatClampNeg (if (if (sc1 * sc2) < (sc1 * sb2) then (sc1 * sb2) else (sc1 * sc2)) < (if (sb1 * sc2) < (sb1 * sb2) then (sb1 * sb2) else (sb1 * sc2)) then (if (sb1 * sc2) < (sb1 * sb2) then (sb1 * sb2) else (sb1 * sc2)) else (if (sc1 * sc2) < (sc1 * sb2) then (sc1 * sb2) else (sc1 * sc2)))))))] := hD
  refine W.widen (k := 0) (n := 0) (by omega) (by omega) ?_
  exact W.vret hx hb hr (fun t ht hW => ⟨⟨[(h0, .inr (1, [.int (nI g), .ref fa, .ref s1, .ref s2, .int (nI gs), .int gt])), (s1, .inr (3, [.int sz1, .long sa1, .long sb1, .long sc1])), (s2, .inr (3, [.int sz2, .long sa2, .long sb2, .long sc2])), (fa, .inl (cQ, 5, .inr (.inr (.inr (.inr (fun j => if j < 5 then some (fa + 1 + j) else none)))))), (fa + 1, .inl (cL, g, .inr (.inl (vp_updL e0 (nI wi).toNatClampNeg key.toInt64)))), (fa + 2, .inl (cL, g, .inr (.inl (vp_updL e1 (nI wi).toNatClampNeg (sz1.toInt64 * sz2.toInt64))))), (fa + 3, .inl (cL, g, .inr (.inl (vp_updL e2 (nI wi).toNatClampNeg (sa1 * sa2))))), (fa + 4, .inl (cL, g, .inr (.inl (vp_updL e3 (nI wi).toNatClampNeg (if (if (sc1 * sc2) < (sc1 * sb2) then (sc1 * sc2) else (sc1 * sb2)) < (if (sb1 * sc2) < (sb1 * sb2) then (sb1 * sc2) else (sb1 * sb2)) then (if (sc1 * sc2) < (sc1 * sb2) then (sc1 * sc2) else (sc1 * sb2)) else (if (sb1 * sc2) < (sb1 * sb2) then (sb1 * sc2) else (sb1 * sb2))))))), (fa + 5, .inl (cL, g, .inr (.inl (vp_updL e4 (nI wi).toNatClampNeg (if (if (sc1 * sc2) < (sc1 * sb2) then (sc1 * sb2) else (sc1 * sc2)) < (if (sb1 * sc2) < (sb1 * sb2) then (sb1 * sb2) else (sb1 * sc2)) then (if (sb1 * sc2) < (sb1 * sb2) then (sb1 * sb2) else (sb1 * sc2)) else (if (sc1 * sc2) < (sc1 * sb2) then (sc1 * sb2) else (sc1 * sc2)))))))], rfl, (by rw [nI_clamp (show wi < 2 ^ 31 by omega)]; first | done | rfl), by rw [ht]; exact hP, hD⟩, hS.F ht⟩) hS.2.2 dX1_write_173
