set_option maxHeartbeats 1000000 in
set_option maxRecDepth 100000 in
theorem cT_init (l : Launch) (D : va_G) (cI cL cQ : ClassId) (h0 : Nat) (a : Nat) (sz : Nat) (ha : a ≤ 400) : Met l yX4_init wsX4_init ({ frames := 1, cells := 6, slots := 2402, locals := 12 }) (jw_P D vwCl (jT cI cL cQ) cL cQ [.ref h0, .int (nI a)] [(h0, .inr (4, [.int 0, .null, .null, .null, .null, .null, .null, .int 0, .int 0]))] sz) (va_Qv (fun u : va_W => ∃ (ak : Nat) (av : Nat) (ao : Nat) (ap : Nat) (al : Nat) (af : Nat), u = [(h0, .inr (4, [.int (nI a), .ref ak, .ref av, .ref ao, .ref ap, .ref al, .ref af, .int 0, .int 0])), (ak, .inl (cI, a, .inl (fun _ => 0))), (av, .inl (cI, a, .inl (fun _ => 0))), (ao, .inl (cI, a, .inl (fun _ => 0))), (ap, .inl (cI, a + 1, .inl (fun _ => 0))), (al, .inl (cI, a + 1, .inl (fun _ => 0))), (af, .inl (cI, a, .inl (fun _ => 0)))]) (jw_B D vwCl (va_A [(h0, .inr (4, [.int 0, .null, .null, .null, .null, .null, .null, .int 0, .int 0]))] sz) (fun u : va_W => u)) (va_A [(h0, .inr (4, [.int 0, .null, .null, .null, .null, .null, .null, .int 0, .int 0]))] sz)) 6 2402 (va_A [(h0, .inr (4, [.int 0, .null, .null, .null, .null, .null, .null, .int 0, .int 0]))] sz) := by
  refine Met.ofW (cc := cX4_init) (maxL := 2) (ret := none) (by decide) rfl ?_
  intro p e s m args below meth c s₁ B hml hv
  obtain ⟨rfl, hsz, hP, hK, hN, hD0⟩ := hv
  have hx := B.exec
  have hb := B.bytes
  have hr := B.returns
  have hts := atoms_spec (ws := wsX4_init) B.pre
  have hown : s.vm.findClass RX4 = some m.cls := findClass_of_methodNamed B.named
  have hlocks := B.notSynchronized
  have hin : meth.name = "<init>" := (name_of_methodNamed B.named B.method).1
  subst hsz
  have hD := hD0.self (sz := s.heap.size)
  generalize hAe : va_A [(h0, .inr (4, [.int 0, .null, .null, .null, .null, .null, .null, .int 0, .int 0]))] s.heap.size = A at hD ⊢
  have hA : ∀ q : Nat, s.heap.size ≤ q → A q := fun q h => by rw [← hAe]; exact Or.inr h
  have hS : va_S A s.heap s.heap [] := va_S.rf
  have hl := lv_entry ([.ref h0, .int (nI a)]) (n := 2) (Nat.le_of_ble_eq_true rfl)
  rw [lg_entry_eq]
  generalize (lg_sl ([.ref h0, .int (nI a)]) ++ List.replicate (2 - (lg_sl ([.ref h0, .int (nI a)])).length) Slot.unset).toArray = ls at hl ⊢
  have hl : lv_has ls 2 [(0, .ref h0), (1, .int (nI a))] := hl
  refine lv_aload_n hx hb dX4_init_0 rfl (lv_at hl 0 rfl) ?_
  refine W.objInit hx hb hown (hts (.methodLink RX4 3 objectInit) (by decide +kernel)) (hts (.instanceMethod objectInit) (by decide +kernel)) (hts (.code objectInit ⟨#[0xb1]⟩ 1 none) (by decide +kernel)) rfl (by rw [hml]; exact hl.1) rfl dX4_init_1 (Nat.le_of_ble_eq_true rfl) (Nat.le_of_ble_eq_true rfl) ?_
  refine W.eq (g2 := F0 m 4 ls []) rfl ?_
  refine lv_aload_n hx hb dX4_init_4 rfl (lv_at hl 0 rfl) ?_
  refine lv_iload_n hx hb dX4_init_5 rfl (lv_at hl 1 rfl) ?_
  refine va_putF (D := D) (ci := 4) (v := .int (nI a)) (ty := .int) (C := RX4) (T := TX4) (N := 9) hx hb hts (by decide +kernel) tyX4 tyX4_ok nmX4 hown hK hP hD hS 0 rfl rfl 0 (by decide) (hts (.fieldLink RX4 9 "JoinDesk$Table" "room" "I") (by decide +kernel)) (fun _ h9 => h9) rfl hin rfl (by decide +kernel) rfl rfl (Nat.le_of_ble_eq_true rfl) dX4_init_6 (fun H locs hP hD hS => ?_)
  have hP : va_P D vwCl [(h0, .inr (4, [.int (nI a), .null, .null, .null, .null, .null, .null, .int 0, .int 0]))] H := hP
  have hD : va_D A [(h0, .inr (4, [.int (nI a), .null, .null, .null, .null, .null, .null, .int 0, .int 0]))] := hD
  refine lv_aload_n hx hb dX4_init_9 rfl (lv_at hl 0 rfl) ?_
  refine lv_iload_n hx hb dX4_init_10 rfl (lv_at hl 1 rfl) ?_
  refine jx_newi (atype := .int) hx hb (hts (.arrayClass .int) (by decide +kernel)) rfl hK hP hD hS hA 0 rfl (N' := a) (nI_pos (by omega)) (nI_clamp (by omega)) (by omega) (Nat.le_of_ble_eq_true rfl) (Nat.le_trans (Nat.add_le_add_left (show a ≤ 400 by omega) _) (Nat.le_of_ble_eq_true rfl)) dX4_init_11 (fun ak H hP hD hS => ?_)
  have hP : va_P D vwCl [(h0, .inr (4, [.int (nI a), .null, .null, .null, .null, .null, .null, .int 0, .int 0])), (ak, .inl (cI, a, .inl (fun _ => 0)))] H := hP
  have hD : va_D A [(h0, .inr (4, [.int (nI a), .null, .null, .null, .null, .null, .null, .int 0, .int 0])), (ak, .inl (cI, a, .inl (fun _ => 0)))] := hD
  refine W.widen (k := 1) (n := 400) (by omega) (by omega) ?_
  refine va_putF (D := D) (ci := 4) (v := .ref ak) (ty := .array .int) (C := RX4) (T := TX4) (N := 9) hx hb hts (by decide +kernel) tyX4 tyX4_ok nmX4 hown hK hP hD hS 0 rfl rfl 1 (by decide) (hts (.fieldLink RX4 15 "JoinDesk$Table" "keys" "[I") (by decide +kernel)) (fun _ h9 => h9) rfl hin rfl (by decide +kernel) rfl rfl (Nat.le_of_ble_eq_true rfl) dX4_init_13 (fun H locs hP hD hS => ?_)
  have hP : va_P D vwCl [(h0, .inr (4, [.int (nI a), .ref ak, .null, .null, .null, .null, .null, .int 0, .int 0])), (ak, .inl (cI, a, .inl (fun _ => 0)))] H := hP
  have hD : va_D A [(h0, .inr (4, [.int (nI a), .ref ak, .null, .null, .null, .null, .null, .int 0, .int 0])), (ak, .inl (cI, a, .inl (fun _ => 0)))] := hD
  refine lv_aload_n hx hb dX4_init_16 rfl (lv_at hl 0 rfl) ?_
  refine lv_iload_n hx hb dX4_init_17 rfl (lv_at hl 1 rfl) ?_
  refine jx_newi (atype := .int) hx hb (hts (.arrayClass .int) (by decide +kernel)) rfl hK hP hD hS hA 0 rfl (N' := a) (nI_pos (by omega)) (nI_clamp (by omega)) (by omega) (Nat.le_of_ble_eq_true rfl) (Nat.le_trans (Nat.add_le_add_left (show a ≤ 400 by omega) _) (Nat.le_of_ble_eq_true rfl)) dX4_init_18 (fun av H hP hD hS => ?_)
  have hP : va_P D vwCl [(h0, .inr (4, [.int (nI a), .ref ak, .null, .null, .null, .null, .null, .int 0, .int 0])), (ak, .inl (cI, a, .inl (fun _ => 0))), (av, .inl (cI, a, .inl (fun _ => 0)))] H := hP
  have hD : va_D A [(h0, .inr (4, [.int (nI a), .ref ak, .null, .null, .null, .null, .null, .int 0, .int 0])), (ak, .inl (cI, a, .inl (fun _ => 0))), (av, .inl (cI, a, .inl (fun _ => 0)))] := hD
  refine W.widen (k := 2) (n := 800) (by omega) (by omega) ?_
  refine va_putF (D := D) (ci := 4) (v := .ref av) (ty := .array .int) (C := RX4) (T := TX4) (N := 9) hx hb hts (by decide +kernel) tyX4 tyX4_ok nmX4 hown hK hP hD hS 0 rfl rfl 2 (by decide) (hts (.fieldLink RX4 19 "JoinDesk$Table" "values" "[I") (by decide +kernel)) (fun _ h9 => h9) rfl hin rfl (by decide +kernel) rfl rfl (Nat.le_of_ble_eq_true rfl) dX4_init_20 (fun H locs hP hD hS => ?_)
  have hP : va_P D vwCl [(h0, .inr (4, [.int (nI a), .ref ak, .ref av, .null, .null, .null, .null, .int 0, .int 0])), (ak, .inl (cI, a, .inl (fun _ => 0))), (av, .inl (cI, a, .inl (fun _ => 0)))] H := hP
  have hD : va_D A [(h0, .inr (4, [.int (nI a), .ref ak, .ref av, .null, .null, .null, .null, .int 0, .int 0])), (ak, .inl (cI, a, .inl (fun _ => 0))), (av, .inl (cI, a, .inl (fun _ => 0)))] := hD
  refine lv_aload_n hx hb dX4_init_23 rfl (lv_at hl 0 rfl) ?_
  refine lv_iload_n hx hb dX4_init_24 rfl (lv_at hl 1 rfl) ?_
  refine jx_newi (atype := .int) hx hb (hts (.arrayClass .int) (by decide +kernel)) rfl hK hP hD hS hA 0 rfl (N' := a) (nI_pos (by omega)) (nI_clamp (by omega)) (by omega) (Nat.le_of_ble_eq_true rfl) (Nat.le_trans (Nat.add_le_add_left (show a ≤ 400 by omega) _) (Nat.le_of_ble_eq_true rfl)) dX4_init_25 (fun ao H hP hD hS => ?_)
  have hP : va_P D vwCl [(h0, .inr (4, [.int (nI a), .ref ak, .ref av, .null, .null, .null, .null, .int 0, .int 0])), (ak, .inl (cI, a, .inl (fun _ => 0))), (av, .inl (cI, a, .inl (fun _ => 0))), (ao, .inl (cI, a, .inl (fun _ => 0)))] H := hP
  have hD : va_D A [(h0, .inr (4, [.int (nI a), .ref ak, .ref av, .null, .null, .null, .null, .int 0, .int 0])), (ak, .inl (cI, a, .inl (fun _ => 0))), (av, .inl (cI, a, .inl (fun _ => 0))), (ao, .inl (cI, a, .inl (fun _ => 0)))] := hD
  refine W.widen (k := 3) (n := 1200) (by omega) (by omega) ?_
  refine va_putF (D := D) (ci := 4) (v := .ref ao) (ty := .array .int) (C := RX4) (T := TX4) (N := 9) hx hb hts (by decide +kernel) tyX4 tyX4_ok nmX4 hown hK hP hD hS 0 rfl rfl 3 (by decide) (hts (.fieldLink RX4 22 "JoinDesk$Table" "order" "[I") (by decide +kernel)) (fun _ h9 => h9) rfl hin rfl (by decide +kernel) rfl rfl (Nat.le_of_ble_eq_true rfl) dX4_init_27 (fun H locs hP hD hS => ?_)
  have hP : va_P D vwCl [(h0, .inr (4, [.int (nI a), .ref ak, .ref av, .ref ao, .null, .null, .null, .int 0, .int 0])), (ak, .inl (cI, a, .inl (fun _ => 0))), (av, .inl (cI, a, .inl (fun _ => 0))), (ao, .inl (cI, a, .inl (fun _ => 0)))] H := hP
  have hD : va_D A [(h0, .inr (4, [.int (nI a), .ref ak, .ref av, .ref ao, .null, .null, .null, .int 0, .int 0])), (ak, .inl (cI, a, .inl (fun _ => 0))), (av, .inl (cI, a, .inl (fun _ => 0))), (ao, .inl (cI, a, .inl (fun _ => 0)))] := hD
  refine lv_aload_n hx hb dX4_init_30 rfl (lv_at hl 0 rfl) ?_
  refine lv_iload_n hx hb dX4_init_31 rfl (lv_at hl 1 rfl) ?_
  refine lv_iconst (v := 1) hx hb dX4_init_32 (by decide) ?_
  refine lv_iadd hx hb dX4_init_33 ?_
  refine jx_newi (atype := .int) hx hb (hts (.arrayClass .int) (by decide +kernel)) rfl hK hP hD hS hA 0 rfl (N' := (a + 1)) (by rw [nI_1]; exact nI_pos (by omega)) (by rw [nI_1]; exact nI_clamp (by omega)) (by omega) (Nat.le_of_ble_eq_true rfl) (Nat.le_trans (Nat.add_le_add_left (show a + 1 ≤ 401 by omega) _) (Nat.le_of_ble_eq_true rfl)) dX4_init_34 (fun ap H hP hD hS => ?_)
  have hP : va_P D vwCl [(h0, .inr (4, [.int (nI a), .ref ak, .ref av, .ref ao, .null, .null, .null, .int 0, .int 0])), (ak, .inl (cI, a, .inl (fun _ => 0))), (av, .inl (cI, a, .inl (fun _ => 0))), (ao, .inl (cI, a, .inl (fun _ => 0))), (ap, .inl (cI, a + 1, .inl (fun _ => 0)))] H := hP
  have hD : va_D A [(h0, .inr (4, [.int (nI a), .ref ak, .ref av, .ref ao, .null, .null, .null, .int 0, .int 0])), (ak, .inl (cI, a, .inl (fun _ => 0))), (av, .inl (cI, a, .inl (fun _ => 0))), (ao, .inl (cI, a, .inl (fun _ => 0))), (ap, .inl (cI, a + 1, .inl (fun _ => 0)))] := hD
  refine W.widen (k := 4) (n := 1601) (by omega) (by omega) ?_
  refine va_putF (D := D) (ci := 4) (v := .ref ap) (ty := .array .int) (C := RX4) (T := TX4) (N := 9) hx hb hts (by decide +kernel) tyX4 tyX4_ok nmX4 hown hK hP hD hS 0 rfl rfl 4 (by decide) (hts (.fieldLink RX4 25 "JoinDesk$Table" "partnerSums" "[I") (by decide +kernel)) (fun _ h9 => h9) rfl hin rfl (by decide +kernel) rfl rfl (Nat.le_of_ble_eq_true rfl) dX4_init_36 (fun H locs hP hD hS => ?_)
  have hP : va_P D vwCl [(h0, .inr (4, [.int (nI a), .ref ak, .ref av, .ref ao, .ref ap, .null, .null, .int 0, .int 0])), (ak, .inl (cI, a, .inl (fun _ => 0))), (av, .inl (cI, a, .inl (fun _ => 0))), (ao, .inl (cI, a, .inl (fun _ => 0))), (ap, .inl (cI, a + 1, .inl (fun _ => 0)))] H := hP
  have hD : va_D A [(h0, .inr (4, [.int (nI a), .ref ak, .ref av, .ref ao, .ref ap, .null, .null, .int 0, .int 0])), (ak, .inl (cI, a, .inl (fun _ => 0))), (av, .inl (cI, a, .inl (fun _ => 0))), (ao, .inl (cI, a, .inl (fun _ => 0))), (ap, .inl (cI, a + 1, .inl (fun _ => 0)))] := hD
  refine lv_aload_n hx hb dX4_init_39 rfl (lv_at hl 0 rfl) ?_
  refine lv_iload_n hx hb dX4_init_40 rfl (lv_at hl 1 rfl) ?_
  refine lv_iconst (v := 1) hx hb dX4_init_41 (by decide) ?_
  refine lv_iadd hx hb dX4_init_42 ?_
  refine jx_newi (atype := .int) hx hb (hts (.arrayClass .int) (by decide +kernel)) rfl hK hP hD hS hA 0 rfl (N' := (a + 1)) (by rw [nI_1]; exact nI_pos (by omega)) (by rw [nI_1]; exact nI_clamp (by omega)) (by omega) (Nat.le_of_ble_eq_true rfl) (Nat.le_trans (Nat.add_le_add_left (show a + 1 ≤ 401 by omega) _) (Nat.le_of_ble_eq_true rfl)) dX4_init_43 (fun al H hP hD hS => ?_)
  have hP : va_P D vwCl [(h0, .inr (4, [.int (nI a), .ref ak, .ref av, .ref ao, .ref ap, .null, .null, .int 0, .int 0])), (ak, .inl (cI, a, .inl (fun _ => 0))), (av, .inl (cI, a, .inl (fun _ => 0))), (ao, .inl (cI, a, .inl (fun _ => 0))), (ap, .inl (cI, a + 1, .inl (fun _ => 0))), (al, .inl (cI, a + 1, .inl (fun _ => 0)))] H := hP
  have hD : va_D A [(h0, .inr (4, [.int (nI a), .ref ak, .ref av, .ref ao, .ref ap, .null, .null, .int 0, .int 0])), (ak, .inl (cI, a, .inl (fun _ => 0))), (av, .inl (cI, a, .inl (fun _ => 0))), (ao, .inl (cI, a, .inl (fun _ => 0))), (ap, .inl (cI, a + 1, .inl (fun _ => 0))), (al, .inl (cI, a + 1, .inl (fun _ => 0)))] := hD
  refine W.widen (k := 5) (n := 2002) (by omega) (by omega) ?_
  refine va_putF (D := D) (ci := 4) (v := .ref al) (ty := .array .int) (C := RX4) (T := TX4) (N := 9) hx hb hts (by decide +kernel) tyX4 tyX4_ok nmX4 hown hK hP hD hS 0 rfl rfl 5 (by decide) (hts (.fieldLink RX4 28 "JoinDesk$Table" "loneSums" "[I") (by decide +kernel)) (fun _ h9 => h9) rfl hin rfl (by decide +kernel) rfl rfl (Nat.le_of_ble_eq_true rfl) dX4_init_45 (fun H locs hP hD hS => ?_)
  have hP : va_P D vwCl [(h0, .inr (4, [.int (nI a), .ref ak, .ref av, .ref ao, .ref ap, .ref al, .null, .int 0, .int 0])), (ak, .inl (cI, a, .inl (fun _ => 0))), (av, .inl (cI, a, .inl (fun _ => 0))), (ao, .inl (cI, a, .inl (fun _ => 0))), (ap, .inl (cI, a + 1, .inl (fun _ => 0))), (al, .inl (cI, a + 1, .inl (fun _ => 0)))] H := hP
  have hD : va_D A [(h0, .inr (4, [.int (nI a), .ref ak, .ref av, .ref ao, .ref ap, .ref al, .null, .int 0, .int 0])), (ak, .inl (cI, a, .inl (fun _ => 0))), (av, .inl (cI, a, .inl (fun _ => 0))), (ao, .inl (cI, a, .inl (fun _ => 0))), (ap, .inl (cI, a + 1, .inl (fun _ => 0))), (al, .inl (cI, a + 1, .inl (fun _ => 0)))] := hD
  refine lv_aload_n hx hb dX4_init_48 rfl (lv_at hl 0 rfl) ?_
  refine lv_iload_n hx hb dX4_init_49 rfl (lv_at hl 1 rfl) ?_
  refine jx_newi (atype := .int) hx hb (hts (.arrayClass .int) (by decide +kernel)) rfl hK hP hD hS hA 0 rfl (N' := a) (nI_pos (by omega)) (nI_clamp (by omega)) (by omega) (Nat.le_of_ble_eq_true rfl) (Nat.le_trans (Nat.add_le_add_left (show a ≤ 400 by omega) _) (Nat.le_of_ble_eq_true rfl)) dX4_init_50 (fun af H hP hD hS => ?_)
  have hP : va_P D vwCl [(h0, .inr (4, [.int (nI a), .ref ak, .ref av, .ref ao, .ref ap, .ref al, .null, .int 0, .int 0])), (ak, .inl (cI, a, .inl (fun _ => 0))), (av, .inl (cI, a, .inl (fun _ => 0))), (ao, .inl (cI, a, .inl (fun _ => 0))), (ap, .inl (cI, a + 1, .inl (fun _ => 0))), (al, .inl (cI, a + 1, .inl (fun _ => 0))), (af, .inl (cI, a, .inl (fun _ => 0)))] H := hP
  have hD : va_D A [(h0, .inr (4, [.int (nI a), .ref ak, .ref av, .ref ao, .ref ap, .ref al, .null, .int 0, .int 0])), (ak, .inl (cI, a, .inl (fun _ => 0))), (av, .inl (cI, a, .inl (fun _ => 0))), (ao, .inl (cI, a, .inl (fun _ => 0))), (ap, .inl (cI, a + 1, .inl (fun _ => 0))), (al, .inl (cI, a + 1, .inl (fun _ => 0))), (af, .inl (cI, a, .inl (fun _ => 0)))] := hD
  refine W.widen (k := 6) (n := 2402) (by omega) (by omega) ?_
  refine va_putF (D := D) (ci := 4) (v := .ref af) (ty := .array .int) (C := RX4) (T := TX4) (N := 9) hx hb hts (by decide +kernel) tyX4 tyX4_ok nmX4 hown hK hP hD hS 0 rfl rfl 6 (by decide) (hts (.fieldLink RX4 31 "JoinDesk$Table" "firstPartners" "[I") (by decide +kernel)) (fun _ h9 => h9) rfl hin rfl (by decide +kernel) rfl rfl (Nat.le_of_ble_eq_true rfl) dX4_init_52 (fun H locs hP hD hS => ?_)
  have hP : va_P D vwCl [(h0, .inr (4, [.int (nI a), .ref ak, .ref av, .ref ao, .ref ap, .ref al, .ref af, .int 0, .int 0])), (ak, .inl (cI, a, .inl (fun _ => 0))), (av, .inl (cI, a, .inl (fun _ => 0))), (ao, .inl (cI, a, .inl (fun _ => 0))), (ap, .inl (cI, a + 1, .inl (fun _ => 0))), (al, .inl (cI, a + 1, .inl (fun _ => 0))), (af, .inl (cI, a, .inl (fun _ => 0)))] H := hP
  have hD : va_D A [(h0, .inr (4, [.int (nI a), .ref ak, .ref av, .ref ao, .ref ap, .ref al, .ref af, .int 0, .int 0])), (ak, .inl (cI, a, .inl (fun _ => 0))), (av, .inl (cI, a, .inl (fun _ => 0))), (ao, .inl (cI, a, .inl (fun _ => 0))), (ap, .inl (cI, a + 1, .inl (fun _ => 0))), (al, .inl (cI, a + 1, .inl (fun _ => 0))), (af, .inl (cI, a, .inl (fun _ => 0)))] := hD
  refine lv_aload_n hx hb dX4_init_55 rfl (lv_at hl 0 rfl) ?_
  refine lv_iconst (v := 0) hx hb dX4_init_56 (by decide) ?_
  refine va_put (D := D) (ci := 4) (v := .int 0) (ty := .int) (C := RX4) (T := TX4) (N := 9) hx hb hts (by decide +kernel) tyX4 tyX4_ok nmX4 hown hK hP hD hS 0 rfl rfl 7 (by decide) (hts (.fieldLink RX4 34 "JoinDesk$Table" "size" "I") (by decide +kernel)) (fun _ h9 => h9) rfl (by decide +kernel) rfl rfl (Nat.le_of_ble_eq_true rfl) dX4_init_57 (fun H locs hP hD hS => ?_)
  have hP : va_P D vwCl [(h0, .inr (4, [.int (nI a), .ref ak, .ref av, .ref ao, .ref ap, .ref al, .ref af, .int 0, .int 0])), (ak, .inl (cI, a, .inl (fun _ => 0))), (av, .inl (cI, a, .inl (fun _ => 0))), (ao, .inl (cI, a, .inl (fun _ => 0))), (ap, .inl (cI, a + 1, .inl (fun _ => 0))), (al, .inl (cI, a + 1, .inl (fun _ => 0))), (af, .inl (cI, a, .inl (fun _ => 0)))] H := hP
  have hD : va_D A [(h0, .inr (4, [.int (nI a), .ref ak, .ref av, .ref ao, .ref ap, .ref al, .ref af, .int 0, .int 0])), (ak, .inl (cI, a, .inl (fun _ => 0))), (av, .inl (cI, a, .inl (fun _ => 0))), (ao, .inl (cI, a, .inl (fun _ => 0))), (ap, .inl (cI, a + 1, .inl (fun _ => 0))), (al, .inl (cI, a + 1, .inl (fun _ => 0))), (af, .inl (cI, a, .inl (fun _ => 0)))] := hD
  refine lv_aload_n hx hb dX4_init_60 rfl (lv_at hl 0 rfl) ?_
  refine lv_iconst (v := 0) hx hb dX4_init_61 (by decide) ?_
  refine va_put (D := D) (ci := 4) (v := .int 0) (ty := .int) (C := RX4) (T := TX4) (N := 9) hx hb hts (by decide +kernel) tyX4 tyX4_ok nmX4 hown hK hP hD hS 0 rfl rfl 8 (by decide) (hts (.fieldLink RX4 37 "JoinDesk$Table" "placed" "I") (by decide +kernel)) (fun _ h9 => h9) rfl (by decide +kernel) rfl rfl (Nat.le_of_ble_eq_true rfl) dX4_init_62 (fun H locs hP hD hS => ?_)
  have hP : va_P D vwCl [(h0, .inr (4, [.int (nI a), .ref ak, .ref av, .ref ao, .ref ap, .ref al, .ref af, .int 0, .int 0])), (ak, .inl (cI, a, .inl (fun _ => 0))), (av, .inl (cI, a, .inl (fun _ => 0))), (ao, .inl (cI, a, .inl (fun _ => 0))), (ap, .inl (cI, a + 1, .inl (fun _ => 0))), (al, .inl (cI, a + 1, .inl (fun _ => 0))), (af, .inl (cI, a, .inl (fun _ => 0)))] H := hP
  have hD : va_D A [(h0, .inr (4, [.int (nI a), .ref ak, .ref av, .ref ao, .ref ap, .ref al, .ref af, .int 0, .int 0])), (ak, .inl (cI, a, .inl (fun _ => 0))), (av, .inl (cI, a, .inl (fun _ => 0))), (ao, .inl (cI, a, .inl (fun _ => 0))), (ap, .inl (cI, a + 1, .inl (fun _ => 0))), (al, .inl (cI, a + 1, .inl (fun _ => 0))), (af, .inl (cI, a, .inl (fun _ => 0)))] := hD
  refine W.widen (k := 6) (n := 2402) (by omega) (by omega) ?_
  exact W.vret hx hb hr (fun t ht hW => ⟨⟨[(h0, .inr (4, [.int (nI a), .ref ak, .ref av, .ref ao, .ref ap, .ref al, .ref af, .int 0, .int 0])), (ak, .inl (cI, a, .inl (fun _ => 0))), (av, .inl (cI, a, .inl (fun _ => 0))), (ao, .inl (cI, a, .inl (fun _ => 0))), (ap, .inl (cI, a + 1, .inl (fun _ => 0))), (al, .inl (cI, a + 1, .inl (fun _ => 0))), (af, .inl (cI, a, .inl (fun _ => 0)))], rfl, (by exact ⟨_, _, _, _, _, _, rfl⟩), by rw [ht]; exact hP, hD⟩, hS.F ht⟩) hS.2.2 dX4_init_65
