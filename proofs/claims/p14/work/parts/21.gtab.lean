set_option maxHeartbeats 1000000 in
set_option maxRecDepth 100000 in
theorem gT_size (l : Launch) (D : va_G) (cI cL cQ : ClassId) (h0 : Nat) (a : Nat) (n : Nat) (pl : Nat) (ak : Nat) (av : Nat) (ao : Nat) (ap : Nat) (al : Nat) (af : Nat) : Met l yX4_size wsX4_size ({ frames := 0, cells := 0, slots := 0, locals := 0 }) (jr_P D vwCl (jT cI cL cQ) cL cQ [.ref h0] [(h0, .inr (4, [.int (nI a), .ref ak, .ref av, .ref ao, .ref ap, .ref al, .ref af, .int (nI n), .int (nI pl)]))]) (vp_Si (fun r : Int32 => r = nI n)) 0 0 (fun _ => False) := by
  refine Met.ofW (cc := cX4_size) (maxL := 1) (ret := (some .int)) (by decide) rfl ?_
  intro p e s m args below meth c s₁ B hml hv
  obtain ⟨rfl, hP, hK, hN⟩ := hv
  have hx := B.exec
  have hb := B.bytes
  have hr := B.returns
  have hts := atoms_spec (ws := wsX4_size) B.pre
  have hown : s.vm.findClass RX4 = some m.cls := findClass_of_methodNamed B.named
  have hlocks := B.notSynchronized
  have hl := lv_entry ([.ref h0]) (n := 1) (Nat.le_of_ble_eq_true rfl)
  rw [lg_entry_eq]
  generalize (lg_sl ([.ref h0]) ++ List.replicate (1 - (lg_sl ([.ref h0])).length) Slot.unset).toArray = ls at hl ⊢
  have hl : lv_has ls 1 [(0, .ref h0)] := hl
  refine lv_aload_n hx hb dX4_size_0 rfl (lv_at hl 0 rfl) ?_
  refine va_get (D := D) (ci := 4) (v := .int (nI n)) (C := RX4) (T := TX4) (N := 9) hx hb hts (by decide +kernel) hown hK hP 0 rfl rfl 7 (by decide) (hts (.fieldLink RX4 34 "JoinDesk$Table" "size" "I") (by decide +kernel)) (fun _ h9 => h9) rfl dX4_size_1 ?_
  exact W.iret (v := nI n) hx hb hr (fun t ht hW => ⟨(nI n), rfl, (by exact rfl), ht⟩) (fun _ h => nomatch h) dX4_size_4
set_option maxHeartbeats 1000000 in
set_option maxRecDepth 100000 in
theorem gT_hasRoom (l : Launch) (D : va_G) (cI cL cQ : ClassId) (h0 : Nat) (a : Nat) (n : Nat) (pl : Nat) (ak : Nat) (av : Nat) (ao : Nat) (ap : Nat) (al : Nat) (af : Nat) : Met l yX4_hasRoom wsX4_hasRoom ({ frames := 0, cells := 0, slots := 0, locals := 0 }) (jr_P D vwCl (jT cI cL cQ) cL cQ [.ref h0] [(h0, .inr (4, [.int (nI a), .ref ak, .ref av, .ref ao, .ref ap, .ref al, .ref af, .int (nI n), .int (nI pl)]))]) (vp_Si (fun r : Int32 => (r = 1 ∧ (¬ nI a ≤ nI n)) ∨ (r = 0 ∧ (nI a ≤ nI n)))) 0 0 (fun _ => False) := by
  refine Met.ofW (cc := cX4_hasRoom) (maxL := 1) (ret := (some .boolean)) (by decide) rfl ?_
  intro p e s m args below meth c s₁ B hml hv
  obtain ⟨rfl, hP, hK, hN⟩ := hv
  have hx := B.exec
  have hb := B.bytes
  have hr := B.returns
  have hts := atoms_spec (ws := wsX4_hasRoom) B.pre
  have hown : s.vm.findClass RX4 = some m.cls := findClass_of_methodNamed B.named
  have hlocks := B.notSynchronized
  have hl := lv_entry ([.ref h0]) (n := 1) (Nat.le_of_ble_eq_true rfl)
  rw [lg_entry_eq]
  generalize (lg_sl ([.ref h0]) ++ List.replicate (1 - (lg_sl ([.ref h0])).length) Slot.unset).toArray = ls at hl ⊢
  have hl : lv_has ls 1 [(0, .ref h0)] := hl
  refine lv_aload_n hx hb dX4_hasRoom_0 rfl (lv_at hl 0 rfl) ?_
  refine va_get (D := D) (ci := 4) (v := .int (nI n)) (C := RX4) (T := TX4) (N := 9) hx hb hts (by decide +kernel) hown hK hP 0 rfl rfl 7 (by decide) (hts (.fieldLink RX4 34 "JoinDesk$Table" "size" "I") (by decide +kernel)) (fun _ h9 => h9) rfl dX4_hasRoom_1 ?_
  refine lv_aload_n hx hb dX4_hasRoom_4 rfl (lv_at hl 0 rfl) ?_
  refine va_get (D := D) (ci := 4) (v := .int (nI a)) (C := RX4) (T := TX4) (N := 9) hx hb hts (by decide +kernel) hown hK hP 0 rfl rfl 0 (by decide) (hts (.fieldLink RX4 9 "JoinDesk$Table" "room" "I") (by decide +kernel)) (fun _ h9 => h9) rfl dX4_hasRoom_5 ?_
  refine lv_icmp_ge (tgt := 15) hx hb dX4_hasRoom_8 (by decide) (fun c_1 => ?_) (fun c_1 => ?_)
  · refine lv_iconst (v := 0) hx hb dX4_hasRoom_15 (by decide) ?_
    exact W.zret (v := 0) (ty := .boolean) hx hb hr rfl (fun t ht hW => ⟨0, rfl, (by exact (Or.inr (⟨rfl, (by first | assumption | exact Or.inl (by assumption) | exact Or.inr (by assumption) | rfl | decide | omega)⟩))), ht⟩) (fun _ h => nomatch h) dX4_hasRoom_16
  · refine lv_iconst (v := 1) hx hb dX4_hasRoom_11 (by decide) ?_
    refine lv_goto (tgt := 16) hx hb dX4_hasRoom_12 (by decide) ?_
    exact W.zret (v := 1) (ty := .boolean) hx hb hr rfl (fun t ht hW => ⟨1, rfl, (by exact (Or.inl ⟨rfl, (by first | assumption | exact Or.inl (by assumption) | exact Or.inr (by assumption) | rfl | decide | omega)⟩)), ht⟩) (fun _ h => nomatch h) dX4_hasRoom_16
set_option maxHeartbeats 1000000 in
set_option maxRecDepth 100000 in
theorem gT_has (l : Launch) (D : va_G) (cI cL cQ : ClassId) (h0 : Nat) (a : Nat) (n : Nat) (pl : Nat) (ak : Nat) (av : Nat) (ao : Nat) (ap : Nat) (al : Nat) (af : Nat) (x : Int32) : Met l yX4_has wsX4_has ({ frames := 0, cells := 0, slots := 0, locals := 0 }) (jr_P D vwCl (jT cI cL cQ) cL cQ [.ref h0, .int x] [(h0, .inr (4, [.int (nI a), .ref ak, .ref av, .ref ao, .ref ap, .ref al, .ref af, .int (nI n), .int (nI pl)]))]) (vp_Si (fun r : Int32 => (r = 1 ∧ (¬ x < 0) ∧ (¬ nI n ≤ x)) ∨ (r = 0 ∧ (x < 0 ∨ nI n ≤ x)))) 0 0 (fun _ => False) := by
  refine Met.ofW (cc := cX4_has) (maxL := 2) (ret := (some .boolean)) (by decide) rfl ?_
  intro p e s m args below meth c s₁ B hml hv
  obtain ⟨rfl, hP, hK, hN⟩ := hv
  have hx := B.exec
  have hb := B.bytes
  have hr := B.returns
  have hts := atoms_spec (ws := wsX4_has) B.pre
  have hown : s.vm.findClass RX4 = some m.cls := findClass_of_methodNamed B.named
  have hlocks := B.notSynchronized
  have hl := lv_entry ([.ref h0, .int x]) (n := 2) (Nat.le_of_ble_eq_true rfl)
  rw [lg_entry_eq]
  generalize (lg_sl ([.ref h0, .int x]) ++ List.replicate (2 - (lg_sl ([.ref h0, .int x])).length) Slot.unset).toArray = ls at hl ⊢
  have hl : lv_has ls 2 [(0, .ref h0), (1, .int x)] := hl
  refine lv_iload_n hx hb dX4_has_0 rfl (lv_at hl 1 rfl) ?_
  refine lv_if_lt (tgt := 16) hx hb dX4_has_1 (by decide) (fun c_1 => ?_) (fun c_1 => ?_)
  · refine lv_iconst (v := 0) hx hb dX4_has_16 (by decide) ?_
    exact W.zret (v := 0) (ty := .boolean) hx hb hr rfl (fun t ht hW => ⟨0, rfl, (by exact (Or.inr (⟨rfl, (by first | assumption | exact Or.inl (by assumption) | exact Or.inr (by assumption) | rfl | decide | omega)⟩))), ht⟩) (fun _ h => nomatch h) dX4_has_17
  · refine lv_iload_n hx hb dX4_has_4 rfl (lv_at hl 1 rfl) ?_
    refine lv_aload_n hx hb dX4_has_5 rfl (lv_at hl 0 rfl) ?_
    refine va_get (D := D) (ci := 4) (v := .int (nI n)) (C := RX4) (T := TX4) (N := 9) hx hb hts (by decide +kernel) hown hK hP 0 rfl rfl 7 (by decide) (hts (.fieldLink RX4 34 "JoinDesk$Table" "size" "I") (by decide +kernel)) (fun _ h9 => h9) rfl dX4_has_6 ?_
    refine lv_icmp_ge (tgt := 16) hx hb dX4_has_9 (by decide) (fun c_2 => ?_) (fun c_2 => ?_)
    · refine lv_iconst (v := 0) hx hb dX4_has_16 (by decide) ?_
      exact W.zret (v := 0) (ty := .boolean) hx hb hr rfl (fun t ht hW => ⟨0, rfl, (by exact (Or.inr (⟨rfl, (by first | assumption | exact Or.inl (by assumption) | exact Or.inr (by assumption) | rfl | decide | omega)⟩))), ht⟩) (fun _ h => nomatch h) dX4_has_17
    · refine lv_iconst (v := 1) hx hb dX4_has_12 (by decide) ?_
      refine lv_goto (tgt := 17) hx hb dX4_has_13 (by decide) ?_
      exact W.zret (v := 1) (ty := .boolean) hx hb hr rfl (fun t ht hW => ⟨1, rfl, (by exact (Or.inl ⟨rfl, (by first | assumption | exact Or.inl (by assumption) | exact Or.inr (by assumption) | rfl | decide | omega), (by first | assumption | exact Or.inl (by assumption) | exact Or.inr (by assumption) | rfl | decide | omega)⟩)), ht⟩) (fun _ h => nomatch h) dX4_has_17
set_option maxHeartbeats 1000000 in
set_option maxRecDepth 100000 in
theorem gT_keyAt (l : Launch) (D : va_G) (cI cL cQ : ClassId) (h0 : Nat) (a : Nat) (n : Nat) (pl : Nat) (ak : Nat) (av : Nat) (ao : Nat) (ap : Nat) (al : Nat) (af : Nat) (fk : Nat → Int32) (fo : Nat → Int32) (x : Int32) (ha : a ≤ 400) (hn : n ≤ a) (ho : jord a fo) : Met l yX4_keyAt wsX4_keyAt ({ frames := 1, cells := 0, slots := 0, locals := 21 }) (jr_P D vwCl (jT cI cL cQ) cL cQ [.ref h0, .int x] [(h0, .inr (4, [.int (nI a), .ref ak, .ref av, .ref ao, .ref ap, .ref al, .ref af, .int (nI n), .int (nI pl)])), (ak, .inl (cI, a, .inl fk)), (ao, .inl (cI, a, .inl fo))]) (vp_Si (fun r : Int32 => r = jat n fk fo x)) 0 0 (fun _ => False) := by
  refine Met.ofW (cc := cX4_keyAt) (maxL := 2) (ret := (some .int)) (by decide) rfl ?_
  intro p e s m args below meth c s₁ B hml hv
  obtain ⟨rfl, hP, hK, hN⟩ := hv
  have hx := B.exec
  have hb := B.bytes
  have hr := B.returns
  have hts := atoms_spec (ws := wsX4_keyAt) B.pre
  have hown : s.vm.findClass RX4 = some m.cls := findClass_of_methodNamed B.named
  have hlocks := B.notSynchronized
  have hl := lv_entry ([.ref h0, .int x]) (n := 2) (Nat.le_of_ble_eq_true rfl)
  rw [lg_entry_eq]
  generalize (lg_sl ([.ref h0, .int x]) ++ List.replicate (2 - (lg_sl ([.ref h0, .int x])).length) Slot.unset).toArray = ls at hl ⊢
  have hl : lv_has ls 2 [(0, .ref h0), (1, .int x)] := hl
  refine lv_aload_n hx hb dX4_keyAt_0 rfl (lv_at hl 0 rfl) ?_
  refine lv_iload_n hx hb dX4_keyAt_1 rfl (lv_at hl 1 rfl) ?_
  refine vp_callSi (va_Run.run (va_runV (As := [.int x]) (rest := []) ⟨hx, hb, hml, hown, hts⟩ (gT_has l D cI cL cQ h0 a n pl ak av ao ap al af x) (cwV 1 hts gX4_keyAt_X4_has rfl rfl rfl (by decide +kernel) ⟨Nat.le_of_ble_eq_true rfl, Nat.le_of_ble_eq_true rfl⟩) (jr_V hK hN hP [0] rfl 4 0 rfl rfl rfl) rfl rfl hl.1 rfl (lv_room (Nat.le_of_ble_eq_true rfl)) dX4_keyAt_2 ⟨Nat.le_of_ble_eq_true rfl, Nat.le_of_ble_eq_true rfl⟩)) (fun r f_1 => ?_)
  rcases f_1 with ⟨rfl, f_2, f_3⟩ | ⟨rfl, f_4⟩
  · refine lv_if_eq (tgt := 22) hx hb dX4_keyAt_5 (by decide) (fun c_5 => absurd c_5 (by decide)) (fun c_5 => ?_)
    refine lv_aload_n hx hb dX4_keyAt_8 rfl (lv_at hl 0 rfl) ?_
    refine va_get (D := D) (ci := 4) (v := .ref ak) (C := RX4) (T := TX4) (N := 9) hx hb hts (by decide +kernel) hown hK hP 0 rfl rfl 1 (by decide) (hts (.fieldLink RX4 15 "JoinDesk$Table" "keys" "[I") (by decide +kernel)) (fun _ h9 => h9) rfl dX4_keyAt_9 ?_
    refine lv_aload_n hx hb dX4_keyAt_12 rfl (lv_at hl 0 rfl) ?_
    refine va_get (D := D) (ci := 4) (v := .ref ao) (C := RX4) (T := TX4) (N := 9) hx hb hts (by decide +kernel) hown hK hP 0 rfl rfl 3 (by decide) (hts (.fieldLink RX4 22 "JoinDesk$Table" "order" "[I") (by decide +kernel)) (fun _ h9 => h9) rfl dX4_keyAt_13 ?_
    refine lv_iload_n hx hb dX4_keyAt_16 rfl (lv_at hl 1 rfl) ?_
    refine va_iald hx hb hK hP 2 0 rfl rfl (jt_in (by assumption) (by assumption) hn ha) dX4_keyAt_17 ?_
    refine va_iald hx hb hK hP 1 0 rfl rfl (jt_ino ho (Nat.lt_of_lt_of_le (jt_lt (by assumption) (by assumption) (by omega)) hn) ha) dX4_keyAt_18 ?_
    refine lv_goto (tgt := 23) hx hb dX4_keyAt_19 (by decide) ?_
    exact W.iret (v := fk (fo x.toNatClampNeg).toNatClampNeg) hx hb hr (fun t ht hW => ⟨(fk (fo x.toNatClampNeg).toNatClampNeg), rfl, (by first | exact jat_o (by assumption) | exact jat_i (by assumption) (by assumption)), ht⟩) (fun _ h => nomatch h) dX4_keyAt_23
  · refine lv_if_eq (tgt := 22) hx hb dX4_keyAt_5 (by decide) (fun c_6 => ?_) (fun c_6 => absurd c_6 (by decide))
    refine lv_iconst (v := 0) hx hb dX4_keyAt_22 (by decide) ?_
    exact W.iret (v := 0) hx hb hr (fun t ht hW => ⟨0, rfl, (by first | exact jat_o (by assumption) | exact jat_i (by assumption) (by assumption)), ht⟩) (fun _ h => nomatch h) dX4_keyAt_23
set_option maxHeartbeats 1000000 in
set_option maxRecDepth 100000 in
theorem gT_valueAt (l : Launch) (D : va_G) (cI cL cQ : ClassId) (h0 : Nat) (a : Nat) (n : Nat) (pl : Nat) (ak : Nat) (av : Nat) (ao : Nat) (ap : Nat) (al : Nat) (af : Nat) (fv : Nat → Int32) (fo : Nat → Int32) (x : Int32) (ha : a ≤ 400) (hn : n ≤ a) (ho : jord a fo) : Met l yX4_valueAt wsX4_valueAt ({ frames := 1, cells := 0, slots := 0, locals := 21 }) (jr_P D vwCl (jT cI cL cQ) cL cQ [.ref h0, .int x] [(h0, .inr (4, [.int (nI a), .ref ak, .ref av, .ref ao, .ref ap, .ref al, .ref af, .int (nI n), .int (nI pl)])), (av, .inl (cI, a, .inl fv)), (ao, .inl (cI, a, .inl fo))]) (vp_Si (fun r : Int32 => r = jat n fv fo x)) 0 0 (fun _ => False) := by
  refine Met.ofW (cc := cX4_valueAt) (maxL := 2) (ret := (some .int)) (by decide) rfl ?_
  intro p e s m args below meth c s₁ B hml hv
  obtain ⟨rfl, hP, hK, hN⟩ := hv
  have hx := B.exec
  have hb := B.bytes
  have hr := B.returns
  have hts := atoms_spec (ws := wsX4_valueAt) B.pre
  have hown : s.vm.findClass RX4 = some m.cls := findClass_of_methodNamed B.named
  have hlocks := B.notSynchronized
  have hl := lv_entry ([.ref h0, .int x]) (n := 2) (Nat.le_of_ble_eq_true rfl)
  rw [lg_entry_eq]
  generalize (lg_sl ([.ref h0, .int x]) ++ List.replicate (2 - (lg_sl ([.ref h0, .int x])).length) Slot.unset).toArray = ls at hl ⊢
  have hl : lv_has ls 2 [(0, .ref h0), (1, .int x)] := hl
  refine lv_aload_n hx hb dX4_valueAt_0 rfl (lv_at hl 0 rfl) ?_
  refine lv_iload_n hx hb dX4_valueAt_1 rfl (lv_at hl 1 rfl) ?_
  refine vp_callSi (va_Run.run (va_runV (As := [.int x]) (rest := []) ⟨hx, hb, hml, hown, hts⟩ (gT_has l D cI cL cQ h0 a n pl ak av ao ap al af x) (cwV 1 hts gX4_valueAt_X4_has rfl rfl rfl (by decide +kernel) ⟨Nat.le_of_ble_eq_true rfl, Nat.le_of_ble_eq_true rfl⟩) (jr_V hK hN hP [0] rfl 4 0 rfl rfl rfl) rfl rfl hl.1 rfl (lv_room (Nat.le_of_ble_eq_true rfl)) dX4_valueAt_2 ⟨Nat.le_of_ble_eq_true rfl, Nat.le_of_ble_eq_true rfl⟩)) (fun r f_1 => ?_)
  rcases f_1 with ⟨rfl, f_2, f_3⟩ | ⟨rfl, f_4⟩
  · refine lv_if_eq (tgt := 22) hx hb dX4_valueAt_5 (by decide) (fun c_5 => absurd c_5 (by decide)) (fun c_5 => ?_)
    refine lv_aload_n hx hb dX4_valueAt_8 rfl (lv_at hl 0 rfl) ?_
    refine va_get (D := D) (ci := 4) (v := .ref av) (C := RX4) (T := TX4) (N := 9) hx hb hts (by decide +kernel) hown hK hP 0 rfl rfl 2 (by decide) (hts (.fieldLink RX4 19 "JoinDesk$Table" "values" "[I") (by decide +kernel)) (fun _ h9 => h9) rfl dX4_valueAt_9 ?_
    refine lv_aload_n hx hb dX4_valueAt_12 rfl (lv_at hl 0 rfl) ?_
    refine va_get (D := D) (ci := 4) (v := .ref ao) (C := RX4) (T := TX4) (N := 9) hx hb hts (by decide +kernel) hown hK hP 0 rfl rfl 3 (by decide) (hts (.fieldLink RX4 22 "JoinDesk$Table" "order" "[I") (by decide +kernel)) (fun _ h9 => h9) rfl dX4_valueAt_13 ?_
    refine lv_iload_n hx hb dX4_valueAt_16 rfl (lv_at hl 1 rfl) ?_
    refine va_iald hx hb hK hP 2 0 rfl rfl (jt_in (by assumption) (by assumption) hn ha) dX4_valueAt_17 ?_
    refine va_iald hx hb hK hP 1 0 rfl rfl (jt_ino ho (Nat.lt_of_lt_of_le (jt_lt (by assumption) (by assumption) (by omega)) hn) ha) dX4_valueAt_18 ?_
    refine lv_goto (tgt := 23) hx hb dX4_valueAt_19 (by decide) ?_
    exact W.iret (v := fv (fo x.toNatClampNeg).toNatClampNeg) hx hb hr (fun t ht hW => ⟨(fv (fo x.toNatClampNeg).toNatClampNeg), rfl, (by first | exact jat_o (by assumption) | exact jat_i (by assumption) (by assumption)), ht⟩) (fun _ h => nomatch h) dX4_valueAt_23
  · refine lv_if_eq (tgt := 22) hx hb dX4_valueAt_5 (by decide) (fun c_6 => ?_) (fun c_6 => absurd c_6 (by decide))
    refine lv_iconst (v := 0) hx hb dX4_valueAt_22 (by decide) ?_
    exact W.iret (v := 0) hx hb hr (fun t ht hW => ⟨0, rfl, (by first | exact jat_o (by assumption) | exact jat_i (by assumption) (by assumption)), ht⟩) (fun _ h => nomatch h) dX4_valueAt_23
set_option maxHeartbeats 1000000 in
set_option maxRecDepth 100000 in
theorem gT_numberAt (l : Launch) (D : va_G) (cI cL cQ : ClassId) (h0 : Nat) (a : Nat) (n : Nat) (pl : Nat) (ak : Nat) (av : Nat) (ao : Nat) (ap : Nat) (al : Nat) (af : Nat) (fo : Nat → Int32) (x : Int32) (ha : a ≤ 400) (hn : n ≤ a) : Met l yX4_numberAt wsX4_numberAt ({ frames := 1, cells := 0, slots := 0, locals := 21 }) (jr_P D vwCl (jT cI cL cQ) cL cQ [.ref h0, .int x] [(h0, .inr (4, [.int (nI a), .ref ak, .ref av, .ref ao, .ref ap, .ref al, .ref af, .int (nI n), .int (nI pl)])), (ao, .inl (cI, a, .inl fo))]) (vp_Si (fun r : Int32 => r = jnum n fo x)) 0 0 (fun _ => False) := by
  refine Met.ofW (cc := cX4_numberAt) (maxL := 2) (ret := (some .int)) (by decide) rfl ?_
  intro p e s m args below meth c s₁ B hml hv
  obtain ⟨rfl, hP, hK, hN⟩ := hv
  have hx := B.exec
  have hb := B.bytes
  have hr := B.returns
  have hts := atoms_spec (ws := wsX4_numberAt) B.pre
  have hown : s.vm.findClass RX4 = some m.cls := findClass_of_methodNamed B.named
  have hlocks := B.notSynchronized
  have hl := lv_entry ([.ref h0, .int x]) (n := 2) (Nat.le_of_ble_eq_true rfl)
  rw [lg_entry_eq]
  generalize (lg_sl ([.ref h0, .int x]) ++ List.replicate (2 - (lg_sl ([.ref h0, .int x])).length) Slot.unset).toArray = ls at hl ⊢
  have hl : lv_has ls 2 [(0, .ref h0), (1, .int x)] := hl
  refine lv_aload_n hx hb dX4_numberAt_0 rfl (lv_at hl 0 rfl) ?_
  refine lv_iload_n hx hb dX4_numberAt_1 rfl (lv_at hl 1 rfl) ?_
  refine vp_callSi (va_Run.run (va_runV (As := [.int x]) (rest := []) ⟨hx, hb, hml, hown, hts⟩ (gT_has l D cI cL cQ h0 a n pl ak av ao ap al af x) (cwV 1 hts gX4_numberAt_X4_has rfl rfl rfl (by decide +kernel) ⟨Nat.le_of_ble_eq_true rfl, Nat.le_of_ble_eq_true rfl⟩) (jr_V hK hN hP [0] rfl 4 0 rfl rfl rfl) rfl rfl hl.1 rfl (lv_room (Nat.le_of_ble_eq_true rfl)) dX4_numberAt_2 ⟨Nat.le_of_ble_eq_true rfl, Nat.le_of_ble_eq_true rfl⟩)) (fun r f_1 => ?_)
  rcases f_1 with ⟨rfl, f_2, f_3⟩ | ⟨rfl, f_4⟩
  · refine lv_if_eq (tgt := 17) hx hb dX4_numberAt_5 (by decide) (fun c_5 => absurd c_5 (by decide)) (fun c_5 => ?_)
    refine lv_aload_n hx hb dX4_numberAt_8 rfl (lv_at hl 0 rfl) ?_
    refine va_get (D := D) (ci := 4) (v := .ref ao) (C := RX4) (T := TX4) (N := 9) hx hb hts (by decide +kernel) hown hK hP 0 rfl rfl 3 (by decide) (hts (.fieldLink RX4 22 "JoinDesk$Table" "order" "[I") (by decide +kernel)) (fun _ h9 => h9) rfl dX4_numberAt_9 ?_
    refine lv_iload_n hx hb dX4_numberAt_12 rfl (lv_at hl 1 rfl) ?_
    refine va_iald hx hb hK hP 1 0 rfl rfl (jt_in (by assumption) (by assumption) hn ha) dX4_numberAt_13 ?_
    refine lv_goto (tgt := 18) hx hb dX4_numberAt_14 (by decide) ?_
    exact W.iret (v := fo x.toNatClampNeg) hx hb hr (fun t ht hW => ⟨(fo x.toNatClampNeg), rfl, (by first | exact jnum_o (by assumption) | exact jnum_i (by assumption) (by assumption)), ht⟩) (fun _ h => nomatch h) dX4_numberAt_18
  · refine lv_if_eq (tgt := 17) hx hb dX4_numberAt_5 (by decide) (fun c_6 => ?_) (fun c_6 => absurd c_6 (by decide))
    refine lv_iconst (v := (-1)) hx hb dX4_numberAt_17 (by decide) ?_
    exact W.iret (v := (-1)) hx hb hr (fun t ht hW => ⟨(-1), rfl, (by first | exact jnum_o (by assumption) | exact jnum_i (by assumption) (by assumption)), ht⟩) (fun _ h => nomatch h) dX4_numberAt_18
set_option maxHeartbeats 1000000 in
set_option maxRecDepth 100000 in
theorem gT_partnersBefore (l : Launch) (D : va_G) (cI cL cQ : ClassId) (h0 : Nat) (a : Nat) (n : Nat) (pl : Nat) (ak : Nat) (av : Nat) (ao : Nat) (ap : Nat) (al : Nat) (af : Nat) (fp : Nat → Int32) (x : Int32) (ha : a ≤ 400) (hn : n ≤ a) : Met l yX4_partnersBefore wsX4_partnersBefore ({ frames := 0, cells := 0, slots := 0, locals := 0 }) (jr_P D vwCl (jT cI cL cQ) cL cQ [.ref h0, .int x] [(h0, .inr (4, [.int (nI a), .ref ak, .ref av, .ref ao, .ref ap, .ref al, .ref af, .int (nI n), .int (nI pl)])), (ap, .inl (cI, a + 1, .inl fp))]) (vp_Si (fun r : Int32 => r = jsum n fp x)) 0 0 (fun _ => False) := by
  refine Met.ofW (cc := cX4_partnersBefore) (maxL := 2) (ret := (some .int)) (by decide) rfl ?_
  intro p e s m args below meth c s₁ B hml hv
  obtain ⟨rfl, hP, hK, hN⟩ := hv
  have hx := B.exec
  have hb := B.bytes
  have hr := B.returns
  have hts := atoms_spec (ws := wsX4_partnersBefore) B.pre
  have hown : s.vm.findClass RX4 = some m.cls := findClass_of_methodNamed B.named
  have hlocks := B.notSynchronized
  have hl := lv_entry ([.ref h0, .int x]) (n := 2) (Nat.le_of_ble_eq_true rfl)
  rw [lg_entry_eq]
  generalize (lg_sl ([.ref h0, .int x]) ++ List.replicate (2 - (lg_sl ([.ref h0, .int x])).length) Slot.unset).toArray = ls at hl ⊢
  have hl : lv_has ls 2 [(0, .ref h0), (1, .int x)] := hl
  refine lv_iload_n hx hb dX4_partnersBefore_0 rfl (lv_at hl 1 rfl) ?_
  refine lv_if_lt (tgt := 21) hx hb dX4_partnersBefore_1 (by decide) (fun c_1 => ?_) (fun c_1 => ?_)
  · refine lv_iconst (v := 0) hx hb dX4_partnersBefore_21 (by decide) ?_
    exact W.iret (v := 0) hx hb hr (fun t ht hW => ⟨0, rfl, (by first | exact jsum_a (by assumption) | exact jsum_b (by assumption) | exact jsum_i (by assumption) (by assumption)), ht⟩) (fun _ h => nomatch h) dX4_partnersBefore_22
  · refine lv_iload_n hx hb dX4_partnersBefore_4 rfl (lv_at hl 1 rfl) ?_
    refine lv_aload_n hx hb dX4_partnersBefore_5 rfl (lv_at hl 0 rfl) ?_
    refine va_get (D := D) (ci := 4) (v := .int (nI n)) (C := RX4) (T := TX4) (N := 9) hx hb hts (by decide +kernel) hown hK hP 0 rfl rfl 7 (by decide) (hts (.fieldLink RX4 34 "JoinDesk$Table" "size" "I") (by decide +kernel)) (fun _ h9 => h9) rfl dX4_partnersBefore_6 ?_
    refine lv_icmp_gt (tgt := 21) hx hb dX4_partnersBefore_9 (by decide) (fun c_2 => ?_) (fun c_2 => ?_)
    · refine lv_iconst (v := 0) hx hb dX4_partnersBefore_21 (by decide) ?_
      exact W.iret (v := 0) hx hb hr (fun t ht hW => ⟨0, rfl, (by first | exact jsum_a (by assumption) | exact jsum_b (by assumption) | exact jsum_i (by assumption) (by assumption)), ht⟩) (fun _ h => nomatch h) dX4_partnersBefore_22
    · refine lv_aload_n hx hb dX4_partnersBefore_12 rfl (lv_at hl 0 rfl) ?_
      refine va_get (D := D) (ci := 4) (v := .ref ap) (C := RX4) (T := TX4) (N := 9) hx hb hts (by decide +kernel) hown hK hP 0 rfl rfl 4 (by decide) (hts (.fieldLink RX4 25 "JoinDesk$Table" "partnerSums" "[I") (by decide +kernel)) (fun _ h9 => h9) rfl dX4_partnersBefore_13 ?_
      refine lv_iload_n hx hb dX4_partnersBefore_16 rfl (lv_at hl 1 rfl) ?_
      refine va_iald hx hb hK hP 1 0 rfl rfl (jt_in1 (by assumption) (by assumption) hn ha) dX4_partnersBefore_17 ?_
      refine lv_goto (tgt := 22) hx hb dX4_partnersBefore_18 (by decide) ?_
      exact W.iret (v := fp x.toNatClampNeg) hx hb hr (fun t ht hW => ⟨(fp x.toNatClampNeg), rfl, (by first | exact jsum_a (by assumption) | exact jsum_b (by assumption) | exact jsum_i (by assumption) (by assumption)), ht⟩) (fun _ h => nomatch h) dX4_partnersBefore_22
set_option maxHeartbeats 1000000 in
set_option maxRecDepth 100000 in
theorem gT_loneBefore (l : Launch) (D : va_G) (cI cL cQ : ClassId) (h0 : Nat) (a : Nat) (n : Nat) (pl : Nat) (ak : Nat) (av : Nat) (ao : Nat) (ap : Nat) (al : Nat) (af : Nat) (fl : Nat → Int32) (x : Int32) (ha : a ≤ 400) (hn : n ≤ a) : Met l yX4_loneBefore wsX4_loneBefore ({ frames := 0, cells := 0, slots := 0, locals := 0 }) (jr_P D vwCl (jT cI cL cQ) cL cQ [.ref h0, .int x] [(h0, .inr (4, [.int (nI a), .ref ak, .ref av, .ref ao, .ref ap, .ref al, .ref af, .int (nI n), .int (nI pl)])), (al, .inl (cI, a + 1, .inl fl))]) (vp_Si (fun r : Int32 => r = jsum n fl x)) 0 0 (fun _ => False) := by
  refine Met.ofW (cc := cX4_loneBefore) (maxL := 2) (ret := (some .int)) (by decide) rfl ?_
  intro p e s m args below meth c s₁ B hml hv
  obtain ⟨rfl, hP, hK, hN⟩ := hv
  have hx := B.exec
  have hb := B.bytes
  have hr := B.returns
  have hts := atoms_spec (ws := wsX4_loneBefore) B.pre
  have hown : s.vm.findClass RX4 = some m.cls := findClass_of_methodNamed B.named
  have hlocks := B.notSynchronized
  have hl := lv_entry ([.ref h0, .int x]) (n := 2) (Nat.le_of_ble_eq_true rfl)
  rw [lg_entry_eq]
  generalize (lg_sl ([.ref h0, .int x]) ++ List.replicate (2 - (lg_sl ([.ref h0, .int x])).length) Slot.unset).toArray = ls at hl ⊢
  have hl : lv_has ls 2 [(0, .ref h0), (1, .int x)] := hl
  refine lv_iload_n hx hb dX4_loneBefore_0 rfl (lv_at hl 1 rfl) ?_
  refine lv_if_lt (tgt := 21) hx hb dX4_loneBefore_1 (by decide) (fun c_1 => ?_) (fun c_1 => ?_)
  · refine lv_iconst (v := 0) hx hb dX4_loneBefore_21 (by decide) ?_
    exact W.iret (v := 0) hx hb hr (fun t ht hW => ⟨0, rfl, (by first | exact jsum_a (by assumption) | exact jsum_b (by assumption) | exact jsum_i (by assumption) (by assumption)), ht⟩) (fun _ h => nomatch h) dX4_loneBefore_22
  · refine lv_iload_n hx hb dX4_loneBefore_4 rfl (lv_at hl 1 rfl) ?_
    refine lv_aload_n hx hb dX4_loneBefore_5 rfl (lv_at hl 0 rfl) ?_
    refine va_get (D := D) (ci := 4) (v := .int (nI n)) (C := RX4) (T := TX4) (N := 9) hx hb hts (by decide +kernel) hown hK hP 0 rfl rfl 7 (by decide) (hts (.fieldLink RX4 34 "JoinDesk$Table" "size" "I") (by decide +kernel)) (fun _ h9 => h9) rfl dX4_loneBefore_6 ?_
    refine lv_icmp_gt (tgt := 21) hx hb dX4_loneBefore_9 (by decide) (fun c_2 => ?_) (fun c_2 => ?_)
    · refine lv_iconst (v := 0) hx hb dX4_loneBefore_21 (by decide) ?_
      exact W.iret (v := 0) hx hb hr (fun t ht hW => ⟨0, rfl, (by first | exact jsum_a (by assumption) | exact jsum_b (by assumption) | exact jsum_i (by assumption) (by assumption)), ht⟩) (fun _ h => nomatch h) dX4_loneBefore_22
    · refine lv_aload_n hx hb dX4_loneBefore_12 rfl (lv_at hl 0 rfl) ?_
      refine va_get (D := D) (ci := 4) (v := .ref al) (C := RX4) (T := TX4) (N := 9) hx hb hts (by decide +kernel) hown hK hP 0 rfl rfl 5 (by decide) (hts (.fieldLink RX4 28 "JoinDesk$Table" "loneSums" "[I") (by decide +kernel)) (fun _ h9 => h9) rfl dX4_loneBefore_13 ?_
      refine lv_iload_n hx hb dX4_loneBefore_16 rfl (lv_at hl 1 rfl) ?_
      refine va_iald hx hb hK hP 1 0 rfl rfl (jt_in1 (by assumption) (by assumption) hn ha) dX4_loneBefore_17 ?_
      refine lv_goto (tgt := 22) hx hb dX4_loneBefore_18 (by decide) ?_
      exact W.iret (v := fl x.toNatClampNeg) hx hb hr (fun t ht hW => ⟨(fl x.toNatClampNeg), rfl, (by first | exact jsum_a (by assumption) | exact jsum_b (by assumption) | exact jsum_i (by assumption) (by assumption)), ht⟩) (fun _ h => nomatch h) dX4_loneBefore_22
set_option maxHeartbeats 1000000 in
set_option maxRecDepth 100000 in
theorem gT_firstPartnerOf (l : Launch) (D : va_G) (cI cL cQ : ClassId) (h0 : Nat) (a : Nat) (n : Nat) (pl : Nat) (ak : Nat) (av : Nat) (ao : Nat) (ap : Nat) (al : Nat) (af : Nat) (ff : Nat → Int32) (x : Int32) (ha : a ≤ 400) (hn : n ≤ a) (hff : ∀ j, ∃ k, k ≤ 400 ∧ ff j = nI k) : Met l yX4_firstPartnerOf wsX4_firstPartnerOf ({ frames := 1, cells := 0, slots := 0, locals := 21 }) (jr_P D vwCl (jT cI cL cQ) cL cQ [.ref h0, .int x] [(h0, .inr (4, [.int (nI a), .ref ak, .ref av, .ref ao, .ref ap, .ref al, .ref af, .int (nI n), .int (nI pl)])), (af, .inl (cI, a, .inl ff))]) (vp_Si (fun r : Int32 => ∃ (k9 : Nat), r = nI k9 ∧ (k9 ≤ 400) ∧ (nI k9 = if x < 0 ∨ nI n ≤ x then 0 else ff x.toNatClampNeg))) 0 0 (fun _ => False) := by
  refine Met.ofW (cc := cX4_firstPartnerOf) (maxL := 2) (ret := (some .int)) (by decide) rfl ?_
  intro p e s m args below meth c s₁ B hml hv
  obtain ⟨rfl, hP, hK, hN⟩ := hv
  have hx := B.exec
  have hb := B.bytes
  have hr := B.returns
  have hts := atoms_spec (ws := wsX4_firstPartnerOf) B.pre
  have hown : s.vm.findClass RX4 = some m.cls := findClass_of_methodNamed B.named
  have hlocks := B.notSynchronized
  have hl := lv_entry ([.ref h0, .int x]) (n := 2) (Nat.le_of_ble_eq_true rfl)
  rw [lg_entry_eq]
  generalize (lg_sl ([.ref h0, .int x]) ++ List.replicate (2 - (lg_sl ([.ref h0, .int x])).length) Slot.unset).toArray = ls at hl ⊢
  have hl : lv_has ls 2 [(0, .ref h0), (1, .int x)] := hl
  refine lv_aload_n hx hb dX4_firstPartnerOf_0 rfl (lv_at hl 0 rfl) ?_
  refine lv_iload_n hx hb dX4_firstPartnerOf_1 rfl (lv_at hl 1 rfl) ?_
  refine vp_callSi (va_Run.run (va_runV (As := [.int x]) (rest := []) ⟨hx, hb, hml, hown, hts⟩ (gT_has l D cI cL cQ h0 a n pl ak av ao ap al af x) (cwV 1 hts gX4_firstPartnerOf_X4_has rfl rfl rfl (by decide +kernel) ⟨Nat.le_of_ble_eq_true rfl, Nat.le_of_ble_eq_true rfl⟩) (jr_V hK hN hP [0] rfl 4 0 rfl rfl rfl) rfl rfl hl.1 rfl (lv_room (Nat.le_of_ble_eq_true rfl)) dX4_firstPartnerOf_2 ⟨Nat.le_of_ble_eq_true rfl, Nat.le_of_ble_eq_true rfl⟩)) (fun r f_1 => ?_)
  rcases f_1 with ⟨rfl, f_2, f_3⟩ | ⟨rfl, f_4⟩
  · refine lv_if_eq (tgt := 17) hx hb dX4_firstPartnerOf_5 (by decide) (fun c_5 => absurd c_5 (by decide)) (fun c_5 => ?_)
    refine lv_aload_n hx hb dX4_firstPartnerOf_8 rfl (lv_at hl 0 rfl) ?_
    refine va_get (D := D) (ci := 4) (v := .ref af) (C := RX4) (T := TX4) (N := 9) hx hb hts (by decide +kernel) hown hK hP 0 rfl rfl 6 (by decide) (hts (.fieldLink RX4 31 "JoinDesk$Table" "firstPartners" "[I") (by decide +kernel)) (fun _ h9 => h9) rfl dX4_firstPartnerOf_9 ?_
    refine lv_iload_n hx hb dX4_firstPartnerOf_12 rfl (lv_at hl 1 rfl) ?_
    refine va_iald hx hb hK hP 1 0 rfl rfl (jt_in (by assumption) (by assumption) hn ha) dX4_firstPartnerOf_13 ?_
    refine lv_goto (tgt := 18) hx hb dX4_firstPartnerOf_14 (by decide) ?_
    exact W.iret (v := ff x.toNatClampNeg) hx hb hr (fun t ht hW => ⟨(ff x.toNatClampNeg), rfl, (by first | exact ⟨0, nI_0.symm, Nat.zero_le _, by rw [if_pos (by assumption)]; exact nI_0⟩ | (obtain ⟨k, hk, e⟩ := hff x.toNatClampNeg; exact ⟨k, e, hk, by rw [if_neg (fun h => h.elim (by assumption) (by assumption))]; exact e.symm⟩)), ht⟩) (fun _ h => nomatch h) dX4_firstPartnerOf_18
  · refine lv_if_eq (tgt := 17) hx hb dX4_firstPartnerOf_5 (by decide) (fun c_6 => ?_) (fun c_6 => absurd c_6 (by decide))
    refine lv_iconst (v := 0) hx hb dX4_firstPartnerOf_17 (by decide) ?_
    exact W.iret (v := 0) hx hb hr (fun t ht hW => ⟨0, rfl, (by first | exact ⟨0, nI_0.symm, Nat.zero_le _, by rw [if_pos (by assumption)]; exact nI_0⟩ | (obtain ⟨k, hk, e⟩ := hff x.toNatClampNeg; exact ⟨k, e, hk, by rw [if_neg (fun h => h.elim (by assumption) (by assumption))]; exact e.symm⟩)), ht⟩) (fun _ h => nomatch h) dX4_firstPartnerOf_18
set_option maxHeartbeats 1000000 in
set_option maxRecDepth 100000 in
theorem gT_empty (l : Launch) (D : va_G) (cI cL cQ : ClassId) (h0 : Nat) (a : Nat) (n : Nat) (pl : Nat) (ak : Nat) (av : Nat) (ao : Nat) (ap : Nat) (al : Nat) (af : Nat) (sz : Nat) : Met l yX4_empty wsX4_empty ({ frames := 0, cells := 0, slots := 0, locals := 0 }) (jw_P D vwCl (jT cI cL cQ) cL cQ [.ref h0] [(h0, .inr (4, [.int (nI a), .ref ak, .ref av, .ref ao, .ref ap, .ref al, .ref af, .int (nI n), .int (nI pl)]))] sz) (va_Qv (fun u : va_W => u = [(h0, .inr (4, [.int (nI a), .ref ak, .ref av, .ref ao, .ref ap, .ref al, .ref af, .int (nI 0), .int (nI 0)]))]) (jw_B D vwCl (va_A [(h0, .inr (4, [.int (nI a), .ref ak, .ref av, .ref ao, .ref ap, .ref al, .ref af, .int (nI n), .int (nI pl)]))] sz) (fun u : va_W => u)) (va_A [(h0, .inr (4, [.int (nI a), .ref ak, .ref av, .ref ao, .ref ap, .ref al, .ref af, .int (nI n), .int (nI pl)]))] sz)) 0 0 (va_A [(h0, .inr (4, [.int (nI a), .ref ak, .ref av, .ref ao, .ref ap, .ref al, .ref af, .int (nI n), .int (nI pl)]))] sz) := by
  refine Met.ofW (cc := cX4_empty) (maxL := 1) (ret := none) (by decide) rfl ?_
  intro p e s m args below meth c s₁ B hml hv
  obtain ⟨rfl, hsz, hP, hK, hN, hD0⟩ := hv
  have hx := B.exec
  have hb := B.bytes
  have hr := B.returns
  have hts := atoms_spec (ws := wsX4_empty) B.pre
  have hown : s.vm.findClass RX4 = some m.cls := findClass_of_methodNamed B.named
  have hlocks := B.notSynchronized
  subst hsz
  have hD := hD0.self (sz := s.heap.size)
  generalize hAe : va_A [(h0, .inr (4, [.int (nI a), .ref ak, .ref av, .ref ao, .ref ap, .ref al, .ref af, .int (nI n), .int (nI pl)]))] s.heap.size = A at hD ⊢
  have hA : ∀ q : Nat, s.heap.size ≤ q → A q := fun q h => by rw [← hAe]; exact Or.inr h
  have hS : va_S A s.heap s.heap [] := va_S.rf
  have hl := lv_entry ([.ref h0]) (n := 1) (Nat.le_of_ble_eq_true rfl)
  rw [lg_entry_eq]
  generalize (lg_sl ([.ref h0]) ++ List.replicate (1 - (lg_sl ([.ref h0])).length) Slot.unset).toArray = ls at hl ⊢
  have hl : lv_has ls 1 [(0, .ref h0)] := hl
  refine lv_aload_n hx hb dX4_empty_0 rfl (lv_at hl 0 rfl) ?_
  refine lv_iconst (v := 0) hx hb dX4_empty_1 (by decide) ?_
  refine va_put (D := D) (ci := 4) (v := .int 0) (ty := .int) (C := RX4) (T := TX4) (N := 9) hx hb hts (by decide +kernel) tyX4 tyX4_ok nmX4 hown hK hP hD hS 0 rfl rfl 7 (by decide) (hts (.fieldLink RX4 34 "JoinDesk$Table" "size" "I") (by decide +kernel)) (fun _ h9 => h9) rfl (by decide +kernel) rfl rfl (Nat.le_of_ble_eq_true rfl) dX4_empty_2 (fun H locs hP hD hS => ?_)
  have hP : va_P D vwCl [(h0, .inr (4, [.int (nI a), .ref ak, .ref av, .ref ao, .ref ap, .ref al, .ref af, .int 0, .int (nI pl)]))] H := hP
  have hD : va_D A [(h0, .inr (4, [.int (nI a), .ref ak, .ref av, .ref ao, .ref ap, .ref al, .ref af, .int 0, .int (nI pl)]))] := hD
  refine lv_aload_n hx hb dX4_empty_5 rfl (lv_at hl 0 rfl) ?_
  refine lv_iconst (v := 0) hx hb dX4_empty_6 (by decide) ?_
  refine va_put (D := D) (ci := 4) (v := .int 0) (ty := .int) (C := RX4) (T := TX4) (N := 9) hx hb hts (by decide +kernel) tyX4 tyX4_ok nmX4 hown hK hP hD hS 0 rfl rfl 8 (by decide) (hts (.fieldLink RX4 37 "JoinDesk$Table" "placed" "I") (by decide +kernel)) (fun _ h9 => h9) rfl (by decide +kernel) rfl rfl (Nat.le_of_ble_eq_true rfl) dX4_empty_7 (fun H locs hP hD hS => ?_)
  have hP : va_P D vwCl [(h0, .inr (4, [.int (nI a), .ref ak, .ref av, .ref ao, .ref ap, .ref al, .ref af, .int 0, .int 0]))] H := hP
  have hD : va_D A [(h0, .inr (4, [.int (nI a), .ref ak, .ref av, .ref ao, .ref ap, .ref al, .ref af, .int 0, .int 0]))] := hD
  refine W.widen (k := 0) (n := 0) (by omega) (by omega) ?_
  exact W.vret hx hb hr (fun t ht hW => ⟨⟨[(h0, .inr (4, [.int (nI a), .ref ak, .ref av, .ref ao, .ref ap, .ref al, .ref af, .int 0, .int 0]))], rfl, (by exact rfl), by rw [ht]; exact hP, hD⟩, hS.F ht⟩) hS.2.2 dX4_empty_10
set_option maxHeartbeats 1000000 in
set_option maxRecDepth 100000 in
theorem gT_append (l : Launch) (D : va_G) (cI cL cQ : ClassId) (h0 : Nat) (a : Nat) (n : Nat) (pl : Nat) (ak : Nat) (av : Nat) (ao : Nat) (ap : Nat) (al : Nat) (af : Nat) (fk : Nat → Int32) (fv : Nat → Int32) (x : Int32) (y : Int32) (sz : Nat) (ha : a ≤ 400) (hlt : n < a) : Met l yX4_append wsX4_append ({ frames := 1, cells := 0, slots := 0, locals := 20 }) (jw_P D vwCl (jT cI cL cQ) cL cQ [.ref h0, .int x, .int y] [(h0, .inr (4, [.int (nI a), .ref ak, .ref av, .ref ao, .ref ap, .ref al, .ref af, .int (nI n), .int (nI pl)])), (ak, .inl (cI, a, .inl fk)), (av, .inl (cI, a, .inl fv))] sz) (va_Qi (fun (r : Int32) (u : va_W) => r = nI n ∧ u = [(h0, .inr (4, [.int (nI a), .ref ak, .ref av, .ref ao, .ref ap, .ref al, .ref af, .int (nI (n + 1)), .int (nI pl)])), (ak, .inl (cI, a, .inl (upd fk n x))), (av, .inl (cI, a, .inl (upd fv n y)))]) (jw_B D vwCl (va_A [(h0, .inr (4, [.int (nI a), .ref ak, .ref av, .ref ao, .ref ap, .ref al, .ref af, .int (nI n), .int (nI pl)])), (ak, .inl (cI, a, .inl fk)), (av, .inl (cI, a, .inl fv))] sz) (fun u : va_W => u)) (va_A [(h0, .inr (4, [.int (nI a), .ref ak, .ref av, .ref ao, .ref ap, .ref al, .ref af, .int (nI n), .int (nI pl)])), (ak, .inl (cI, a, .inl fk)), (av, .inl (cI, a, .inl fv))] sz)) 0 0 (va_A [(h0, .inr (4, [.int (nI a), .ref ak, .ref av, .ref ao, .ref ap, .ref al, .ref af, .int (nI n), .int (nI pl)])), (ak, .inl (cI, a, .inl fk)), (av, .inl (cI, a, .inl fv))] sz) := by
  refine Met.ofW (cc := cX4_append) (maxL := 3) (ret := (some .int)) (by decide) rfl ?_
  intro p e s m args below meth c s₁ B hml hv
  obtain ⟨rfl, hsz, hP, hK, hN, hD0⟩ := hv
  have hx := B.exec
  have hb := B.bytes
  have hr := B.returns
  have hts := atoms_spec (ws := wsX4_append) B.pre
  have hown : s.vm.findClass RX4 = some m.cls := findClass_of_methodNamed B.named
  have hlocks := B.notSynchronized
  subst hsz
  have hD := hD0.self (sz := s.heap.size)
  generalize hAe : va_A [(h0, .inr (4, [.int (nI a), .ref ak, .ref av, .ref ao, .ref ap, .ref al, .ref af, .int (nI n), .int (nI pl)])), (ak, .inl (cI, a, .inl fk)), (av, .inl (cI, a, .inl fv))] s.heap.size = A at hD ⊢
  have hA : ∀ q : Nat, s.heap.size ≤ q → A q := fun q h => by rw [← hAe]; exact Or.inr h
  have hS : va_S A s.heap s.heap [] := va_S.rf
  have hl := lv_entry ([.ref h0, .int x, .int y]) (n := 3) (Nat.le_of_ble_eq_true rfl)
  rw [lg_entry_eq]
  generalize (lg_sl ([.ref h0, .int x, .int y]) ++ List.replicate (3 - (lg_sl ([.ref h0, .int x, .int y])).length) Slot.unset).toArray = ls at hl ⊢
  have hl : lv_has ls 3 [(0, .ref h0), (1, .int x), (2, .int y)] := hl
  refine lv_aload_n hx hb dX4_append_0 rfl (lv_at hl 0 rfl) ?_
  refine vp_callSi (va_Run.run (va_runV (As := []) (rest := []) ⟨hx, hb, hml, hown, hts⟩ (gT_hasRoom l D cI cL cQ h0 a n pl ak av ao ap al af) (cwV 0 hts gX4_append_X4_hasRoom rfl rfl rfl (by decide +kernel) ⟨Nat.le_of_ble_eq_true rfl, Nat.le_of_ble_eq_true rfl⟩) (jr_V hK hN hP [0] rfl 4 0 rfl rfl rfl) rfl rfl hl.1 rfl (lv_room (Nat.le_of_ble_eq_true rfl)) dX4_append_1 ⟨Nat.le_of_ble_eq_true rfl, Nat.le_of_ble_eq_true rfl⟩)) (fun r f_1 => ?_)
  rcases f_1 with ⟨rfl, f_2⟩ | ⟨rfl, f_3⟩
  · refine lv_if_ne (tgt := 9) hx hb dX4_append_4 (by decide) (fun c_4 => ?_) (fun c_4 => absurd c_4 (by decide))
    refine lv_aload_n hx hb dX4_append_9 rfl (lv_at hl 0 rfl) ?_
    refine va_get (D := D) (ci := 4) (v := .ref ak) (C := RX4) (T := TX4) (N := 9) hx hb hts (by decide +kernel) hown hK hP 0 rfl rfl 1 (by decide) (hts (.fieldLink RX4 15 "JoinDesk$Table" "keys" "[I") (by decide +kernel)) (fun _ h9 => h9) rfl dX4_append_10 ?_
    refine lv_aload_n hx hb dX4_append_13 rfl (lv_at hl 0 rfl) ?_
    refine va_get (D := D) (ci := 4) (v := .int (nI n)) (C := RX4) (T := TX4) (N := 9) hx hb hts (by decide +kernel) hown hK hP 0 rfl rfl 7 (by decide) (hts (.fieldLink RX4 34 "JoinDesk$Table" "size" "I") (by decide +kernel)) (fun _ h9 => h9) rfl dX4_append_14 ?_
    refine lv_iload_n hx hb dX4_append_17 rfl (lv_at hl 1 rfl) ?_
    refine va_iast hx hb hK hP hD hS 1 0 rfl rfl (vp_in_nI hlt (by omega)) dX4_append_18 (fun H locs hP hD hS => ?_)
    have hP : va_P D vwCl [(h0, .inr (4, [.int (nI a), .ref ak, .ref av, .ref ao, .ref ap, .ref al, .ref af, .int (nI n), .int (nI pl)])), (ak, .inl (cI, a, .inl (upd fk (nI n).toNatClampNeg x))), (av, .inl (cI, a, .inl fv))] H := hP
    have hD : va_D A [(h0, .inr (4, [.int (nI a), .ref ak, .ref av, .ref ao, .ref ap, .ref al, .ref af, .int (nI n), .int (nI pl)])), (ak, .inl (cI, a, .inl (upd fk (nI n).toNatClampNeg x))), (av, .inl (cI, a, .inl fv))] := hD
    refine lv_aload_n hx hb dX4_append_19 rfl (lv_at hl 0 rfl) ?_
    refine va_get (D := D) (ci := 4) (v := .ref av) (C := RX4) (T := TX4) (N := 9) hx hb hts (by decide +kernel) hown hK hP 0 rfl rfl 2 (by decide) (hts (.fieldLink RX4 19 "JoinDesk$Table" "values" "[I") (by decide +kernel)) (fun _ h9 => h9) rfl dX4_append_20 ?_
    refine lv_aload_n hx hb dX4_append_23 rfl (lv_at hl 0 rfl) ?_
    refine va_get (D := D) (ci := 4) (v := .int (nI n)) (C := RX4) (T := TX4) (N := 9) hx hb hts (by decide +kernel) hown hK hP 0 rfl rfl 7 (by decide) (hts (.fieldLink RX4 34 "JoinDesk$Table" "size" "I") (by decide +kernel)) (fun _ h9 => h9) rfl dX4_append_24 ?_
    refine lv_iload_n hx hb dX4_append_27 rfl (lv_at hl 2 rfl) ?_
    refine va_iast hx hb hK hP hD hS 2 0 rfl rfl (vp_in_nI hlt (by omega)) dX4_append_28 (fun H locs hP hD hS => ?_)
    have hP : va_P D vwCl [(h0, .inr (4, [.int (nI a), .ref ak, .ref av, .ref ao, .ref ap, .ref al, .ref af, .int (nI n), .int (nI pl)])), (ak, .inl (cI, a, .inl (upd fk (nI n).toNatClampNeg x))), (av, .inl (cI, a, .inl (upd fv (nI n).toNatClampNeg y)))] H := hP
    have hD : va_D A [(h0, .inr (4, [.int (nI a), .ref ak, .ref av, .ref ao, .ref ap, .ref al, .ref af, .int (nI n), .int (nI pl)])), (ak, .inl (cI, a, .inl (upd fk (nI n).toNatClampNeg x))), (av, .inl (cI, a, .inl (upd fv (nI n).toNatClampNeg y)))] := hD
    refine lv_aload_n hx hb dX4_append_29 rfl (lv_at hl 0 rfl) ?_
    refine lv_dup hx hb dX4_append_30 rfl ?_
    refine va_get (D := D) (ci := 4) (v := .int (nI n)) (C := RX4) (T := TX4) (N := 9) hx hb hts (by decide +kernel) hown hK hP 0 rfl rfl 7 (by decide) (hts (.fieldLink RX4 34 "JoinDesk$Table" "size" "I") (by decide +kernel)) (fun _ h9 => h9) rfl dX4_append_31 ?_
    refine lv_iconst (v := 1) hx hb dX4_append_34 (by decide) ?_
    refine lv_iadd hx hb dX4_append_35 ?_
    refine lv_topi (fun z_5 e_z_5 => ?_)
    obtain rfl : z_5 = nI (n + 1) := e_z_5.trans (nI_add n 1)
    refine va_put (D := D) (ci := 4) (v := .int (nI (n + 1))) (ty := .int) (C := RX4) (T := TX4) (N := 9) hx hb hts (by decide +kernel) tyX4 tyX4_ok nmX4 hown hK hP hD hS 0 rfl rfl 7 (by decide) (hts (.fieldLink RX4 34 "JoinDesk$Table" "size" "I") (by decide +kernel)) (fun _ h9 => h9) rfl (by decide +kernel) rfl rfl (Nat.le_of_ble_eq_true rfl) dX4_append_36 (fun H locs hP hD hS => ?_)
    have hP : va_P D vwCl [(h0, .inr (4, [.int (nI a), .ref ak, .ref av, .ref ao, .ref ap, .ref al, .ref af, .int (nI (n + 1)), .int (nI pl)])), (ak, .inl (cI, a, .inl (upd fk (nI n).toNatClampNeg x))), (av, .inl (cI, a, .inl (upd fv (nI n).toNatClampNeg y)))] H := hP
    have hD : va_D A [(h0, .inr (4, [.int (nI a), .ref ak, .ref av, .ref ao, .ref ap, .ref al, .ref af, .int (nI (n + 1)), .int (nI pl)])), (ak, .inl (cI, a, .inl (upd fk (nI n).toNatClampNeg x))), (av, .inl (cI, a, .inl (upd fv (nI n).toNatClampNeg y)))] := hD
    refine lv_aload_n hx hb dX4_append_39 rfl (lv_at hl 0 rfl) ?_
    refine va_get (D := D) (ci := 4) (v := .int (nI (n + 1))) (C := RX4) (T := TX4) (N := 9) hx hb hts (by decide +kernel) hown hK hP 0 rfl rfl 7 (by decide) (hts (.fieldLink RX4 34 "JoinDesk$Table" "size" "I") (by decide +kernel)) (fun _ h9 => h9) rfl dX4_append_40 ?_
    refine lv_iconst (v := 1) hx hb dX4_append_43 (by decide) ?_
    refine lv_isub hx hb dX4_append_44 ?_
    refine lv_topi (fun z_6 e_z_6 => ?_)
    obtain rfl : z_6 = nI n := e_z_6.trans (nI_pred _)
    refine W.widen (k := 0) (n := 0) (by omega) (by omega) ?_
    exact W.iret (v := nI n) hx hb hr (fun t ht hW => ⟨⟨(nI n), [(h0, .inr (4, [.int (nI a), .ref ak, .ref av, .ref ao, .ref ap, .ref al, .ref af, .int (nI (n + 1)), .int (nI pl)])), (ak, .inl (cI, a, .inl (upd fk (nI n).toNatClampNeg x))), (av, .inl (cI, a, .inl (upd fv (nI n).toNatClampNeg y)))], rfl, (by rw [nI_clamp (show n < 2 ^ 31 by omega)]; exact ⟨rfl, rfl⟩), by rw [ht]; exact hP, hD⟩, hS.F ht⟩) hS.2.2 dX4_append_45
  · exact False.elim (by have h := f_3; rw [nI_leI (by omega) (by omega)] at h; omega)
set_option maxHeartbeats 1000000 in
set_option maxRecDepth 100000 in
theorem gT_putInOrder (l : Launch) (D : va_G) (cI cL cQ : ClassId) (h0 : Nat) (a : Nat) (n : Nat) (pl : Nat) (ak : Nat) (av : Nat) (ao : Nat) (ap : Nat) (al : Nat) (af : Nat) (fk : Nat → Int32) (fo : Nat → Int32) (num : Nat) (sz : Nat) (ha : a ≤ 400) (ho : jord a fo) (hnum : num < a) : Met l yX4_putInOrder wsX4_putInOrder ({ frames := 0, cells := 0, slots := 0, locals := 0 }) (jw_P D vwCl (jT cI cL cQ) cL cQ [.ref h0, .int (nI num)] [(h0, .inr (4, [.int (nI a), .ref ak, .ref av, .ref ao, .ref ap, .ref al, .ref af, .int (nI n), .int (nI pl)])), (ak, .inl (cI, a, .inl fk)), (ao, .inl (cI, a, .inl fo))] sz) (va_Qv (fun u : va_W => u = [(h0, .inr (4, [.int (nI a), .ref ak, .ref av, .ref ao, .ref ap, .ref al, .ref af, .int (nI n), .int (nI pl)])), (ak, .inl (cI, a, .inl fk)), (ao, .inl (cI, a, .inl (jins fk num fo num)))]) (jw_B D vwCl (va_A [(h0, .inr (4, [.int (nI a), .ref ak, .ref av, .ref ao, .ref ap, .ref al, .ref af, .int (nI n), .int (nI pl)])), (ak, .inl (cI, a, .inl fk)), (ao, .inl (cI, a, .inl fo))] sz) (fun u : va_W => u)) (va_A [(h0, .inr (4, [.int (nI a), .ref ak, .ref av, .ref ao, .ref ap, .ref al, .ref af, .int (nI n), .int (nI pl)])), (ak, .inl (cI, a, .inl fk)), (ao, .inl (cI, a, .inl fo))] sz)) 0 0 (va_A [(h0, .inr (4, [.int (nI a), .ref ak, .ref av, .ref ao, .ref ap, .ref al, .ref af, .int (nI n), .int (nI pl)])), (ak, .inl (cI, a, .inl fk)), (ao, .inl (cI, a, .inl fo))] sz) := by
  refine Met.ofW (cc := cX4_putInOrder) (maxL := 3) (ret := none) (by decide) rfl ?_
  intro p e s m args below meth c s₁ B hml hv
  obtain ⟨rfl, hsz, hP, hK, hN, hD0⟩ := hv
  have hx := B.exec
  have hb := B.bytes
  have hr := B.returns
  have hts := atoms_spec (ws := wsX4_putInOrder) B.pre
  have hown : s.vm.findClass RX4 = some m.cls := findClass_of_methodNamed B.named
  have hlocks := B.notSynchronized
  subst hsz
  have hD := hD0.self (sz := s.heap.size)
  generalize hAe : va_A [(h0, .inr (4, [.int (nI a), .ref ak, .ref av, .ref ao, .ref ap, .ref al, .ref af, .int (nI n), .int (nI pl)])), (ak, .inl (cI, a, .inl fk)), (ao, .inl (cI, a, .inl fo))] s.heap.size = A at hD ⊢
  have hA : ∀ q : Nat, s.heap.size ≤ q → A q := fun q h => by rw [← hAe]; exact Or.inr h
  have hS : va_S A s.heap s.heap [] := va_S.rf
  have hl := lv_entry ([.ref h0, .int (nI num)]) (n := 3) (Nat.le_of_ble_eq_true rfl)
  rw [lg_entry_eq]
  generalize (lg_sl ([.ref h0, .int (nI num)]) ++ List.replicate (3 - (lg_sl ([.ref h0, .int (nI num)])).length) Slot.unset).toArray = ls at hl ⊢
  have hl : lv_has ls 3 [(0, .ref h0), (1, .int (nI num))] := hl
  refine lv_iload_n hx hb dX4_putInOrder_0 rfl (lv_at hl 1 rfl) ?_
  refine lv_istore_n (lv' := [(2, .int (nI num)), (0, .ref h0), (1, .int (nI num))]) hx hb dX4_putInOrder_1 rfl hl (by decide) rfl (fun ls hl => ?_)
  have hloop_1 : ∀ (k_1 : Nat) (q : Nat) (fo1 : Nat → Int32), q < k_1 → (q ≤ num) → (jord a fo1) → (jins fk num fo1 q = jins fk num fo num) → ∀ (H : Heap) (locs : List Loc), va_P D vwCl [(h0, .inr (4, [.int (nI a), .ref ak, .ref av, .ref ao, .ref ap, .ref al, .ref af, .int (nI n), .int (nI pl)])), (ak, .inl (cI, a, .inl fk)), (ao, .inl (cI, a, .inl fo1))] H → va_D A [(h0, .inr (4, [.int (nI a), .ref ak, .ref av, .ref ao, .ref ap, .ref al, .ref af, .int (nI n), .int (nI pl)])), (ak, .inl (cI, a, .inl fk)), (ao, .inl (cI, a, .inl fo1))] → va_S A s.heap H locs → ∀ ls : Array Slot, lv_has ls 3 [(0, .ref h0), (1, .int (nI num)), (2, .int (nI q))] → W p l e (headSpec wsX4_putInOrder ({ frames := 0, cells := 0, slots := 0, locals := 0 })).room s m #[.ref h0, .int (nI num)] below meth c H locs 0 0 (MQ below (va_Qv (fun u : va_W => u = [(h0, .inr (4, [.int (nI a), .ref ak, .ref av, .ref ao, .ref ap, .ref al, .ref af, .int (nI n), .int (nI pl)])), (ak, .inl (cI, a, .inl fk)), (ao, .inl (cI, a, .inl (jins fk num fo num)))]) (jw_B D vwCl A (fun u : va_W => u)) A) #[.ref h0, .int (nI num)] s 0 0 A) (F0 m 2 ls []) := by
    intro k_1
    induction k_1 with
    | zero => exact fun _ _ hm => absurd hm (Nat.not_lt_zero _)
    | succ k_1 ih_1 =>
      intro q fo1 hm1 hq ho1 hf H locs hP hD hS ls hl
      rcases q with _ | q
      · have hl : lv_has ls 3 [(0, .ref h0), (1, .int (nI num)), (2, .int (nI 0))] := hl
        refine lv_iload_n hx hb dX4_putInOrder_2 rfl (lv_at hl 2 rfl) ?_
        refine lv_if_le (tgt := 48) hx hb dX4_putInOrder_3 (by decide) (fun c_1 => ?_) (fun c_1 => absurd c_1 (by decide))
        refine lv_aload_n hx hb dX4_putInOrder_48 rfl (lv_at hl 0 rfl) ?_
        refine va_get (D := D) (ci := 4) (v := .ref ao) (C := RX4) (T := TX4) (N := 9) hx hb hts (by decide +kernel) hown hK hP 0 rfl rfl 3 (by decide) (hts (.fieldLink RX4 22 "JoinDesk$Table" "order" "[I") (by decide +kernel)) (fun _ h9 => h9) rfl dX4_putInOrder_49 ?_
        refine lv_iload_n hx hb dX4_putInOrder_52 rfl (lv_at hl 2 rfl) ?_
        refine lv_iload_n hx hb dX4_putInOrder_53 rfl (lv_at hl 1 rfl) ?_
        refine va_iast hx hb hK hP hD hS 2 0 rfl rfl (vp_in_nI (show 0 < a by omega) (by omega)) dX4_putInOrder_54 (fun H locs hP hD hS => ?_)
        have hP : va_P D vwCl [(h0, .inr (4, [.int (nI a), .ref ak, .ref av, .ref ao, .ref ap, .ref al, .ref af, .int (nI n), .int (nI pl)])), (ak, .inl (cI, a, .inl fk)), (ao, .inl (cI, a, .inl (upd fo1 (nI 0).toNatClampNeg (nI num))))] H := hP
        have hD : va_D A [(h0, .inr (4, [.int (nI a), .ref ak, .ref av, .ref ao, .ref ap, .ref al, .ref af, .int (nI n), .int (nI pl)])), (ak, .inl (cI, a, .inl fk)), (ao, .inl (cI, a, .inl (upd fo1 (nI 0).toNatClampNeg (nI num))))] := hD
        refine W.widen (k := 0) (n := 0) (by omega) (by omega) ?_
        exact W.vret hx hb hr (fun t ht hW => ⟨⟨[(h0, .inr (4, [.int (nI a), .ref ak, .ref av, .ref ao, .ref ap, .ref al, .ref af, .int (nI n), .int (nI pl)])), (ak, .inl (cI, a, .inl fk)), (ao, .inl (cI, a, .inl (upd fo1 (nI 0).toNatClampNeg (nI num))))], rfl, (by have e : upd fo1 (nI 0).toNatClampNeg (nI num) = jins fk num fo num := (by rw [nI_clamp (show (0 : Nat) < 2 ^ 31 by omega)]; exact jins_0.trans hf); show _ = _; rw [e]), by rw [ht]; exact hP, hD⟩, hS.F ht⟩) hS.2.2 dX4_putInOrder_55
      · have hl : lv_has ls 3 [(0, .ref h0), (1, .int (nI num)), (2, .int (nI (q + 1)))] := hl
        refine lv_iload_n hx hb dX4_putInOrder_2 rfl (lv_at hl 2 rfl) ?_
        refine lv_if_le (tgt := 48) hx hb dX4_putInOrder_3 (by decide) (fun c_2 => absurd c_2 (by exact nI_nle (by omega) (by omega))) (fun c_2 => ?_)
        refine lv_aload_n hx hb dX4_putInOrder_6 rfl (lv_at hl 0 rfl) ?_
        refine va_get (D := D) (ci := 4) (v := .ref ak) (C := RX4) (T := TX4) (N := 9) hx hb hts (by decide +kernel) hown hK hP 0 rfl rfl 1 (by decide) (hts (.fieldLink RX4 15 "JoinDesk$Table" "keys" "[I") (by decide +kernel)) (fun _ h9 => h9) rfl dX4_putInOrder_7 ?_
        refine lv_aload_n hx hb dX4_putInOrder_10 rfl (lv_at hl 0 rfl) ?_
        refine va_get (D := D) (ci := 4) (v := .ref ao) (C := RX4) (T := TX4) (N := 9) hx hb hts (by decide +kernel) hown hK hP 0 rfl rfl 3 (by decide) (hts (.fieldLink RX4 22 "JoinDesk$Table" "order" "[I") (by decide +kernel)) (fun _ h9 => h9) rfl dX4_putInOrder_11 ?_
        refine lv_iload_n hx hb dX4_putInOrder_14 rfl (lv_at hl 2 rfl) ?_
        refine lv_iconst (v := 1) hx hb dX4_putInOrder_15 (by decide) ?_
        refine lv_isub hx hb dX4_putInOrder_16 ?_
        refine lv_topi (fun z_3 e_z_3 => ?_)
        obtain rfl : z_3 = nI q := e_z_3.trans (nI_pred _)
        refine va_iald hx hb hK hP 2 0 rfl rfl (vp_in_nI (show q < a by omega) (by omega)) dX4_putInOrder_17 ?_
        refine va_iald hx hb hK hP 1 0 rfl rfl (by rw [nI_clamp (show q < 2 ^ 31 by omega)]; exact jt_ino ho1 (show q < a by omega) ha) dX4_putInOrder_18 ?_
        refine lv_aload_n hx hb dX4_putInOrder_19 rfl (lv_at hl 0 rfl) ?_
        refine va_get (D := D) (ci := 4) (v := .ref ak) (C := RX4) (T := TX4) (N := 9) hx hb hts (by decide +kernel) hown hK hP 0 rfl rfl 1 (by decide) (hts (.fieldLink RX4 15 "JoinDesk$Table" "keys" "[I") (by decide +kernel)) (fun _ h9 => h9) rfl dX4_putInOrder_20 ?_
        refine lv_iload_n hx hb dX4_putInOrder_23 rfl (lv_at hl 1 rfl) ?_
        refine va_iald hx hb hK hP 1 0 rfl rfl (vp_in_nI hnum (by omega)) dX4_putInOrder_24 ?_
        refine lv_icmp_le (tgt := 48) hx hb dX4_putInOrder_25 (by decide) (fun cle => ?_) (fun cle => ?_)
        · refine lv_aload_n hx hb dX4_putInOrder_48 rfl (lv_at hl 0 rfl) ?_
          refine va_get (D := D) (ci := 4) (v := .ref ao) (C := RX4) (T := TX4) (N := 9) hx hb hts (by decide +kernel) hown hK hP 0 rfl rfl 3 (by decide) (hts (.fieldLink RX4 22 "JoinDesk$Table" "order" "[I") (by decide +kernel)) (fun _ h9 => h9) rfl dX4_putInOrder_49 ?_
          refine lv_iload_n hx hb dX4_putInOrder_52 rfl (lv_at hl 2 rfl) ?_
          refine lv_iload_n hx hb dX4_putInOrder_53 rfl (lv_at hl 1 rfl) ?_
          refine va_iast hx hb hK hP hD hS 2 0 rfl rfl (vp_in_nI (show q + 1 < a by omega) (by omega)) dX4_putInOrder_54 (fun H locs hP hD hS => ?_)
          have hP : va_P D vwCl [(h0, .inr (4, [.int (nI a), .ref ak, .ref av, .ref ao, .ref ap, .ref al, .ref af, .int (nI n), .int (nI pl)])), (ak, .inl (cI, a, .inl fk)), (ao, .inl (cI, a, .inl (upd fo1 (nI (q + 1)).toNatClampNeg (nI num))))] H := hP
          have hD : va_D A [(h0, .inr (4, [.int (nI a), .ref ak, .ref av, .ref ao, .ref ap, .ref al, .ref af, .int (nI n), .int (nI pl)])), (ak, .inl (cI, a, .inl fk)), (ao, .inl (cI, a, .inl (upd fo1 (nI (q + 1)).toNatClampNeg (nI num))))] := hD
          refine W.widen (k := 0) (n := 0) (by omega) (by omega) ?_
          exact W.vret hx hb hr (fun t ht hW => ⟨⟨[(h0, .inr (4, [.int (nI a), .ref ak, .ref av, .ref ao, .ref ap, .ref al, .ref af, .int (nI n), .int (nI pl)])), (ak, .inl (cI, a, .inl fk)), (ao, .inl (cI, a, .inl (upd fo1 (nI (q + 1)).toNatClampNeg (nI num))))], rfl, (by have e : upd fo1 (nI (q + 1)).toNatClampNeg (nI num) = jins fk num fo num := (by rw [nI_clamp (show q + 1 < 2 ^ 31 by omega)]; rw [nI_clamp (show q < 2 ^ 31 by omega), nI_clamp (show num < 2 ^ 31 by omega)] at cle; exact (jins_le cle).trans hf); show _ = _; rw [e]), by rw [ht]; exact hP, hD⟩, hS.F ht⟩) hS.2.2 dX4_putInOrder_55
        · refine lv_aload_n hx hb dX4_putInOrder_28 rfl (lv_at hl 0 rfl) ?_
          refine va_get (D := D) (ci := 4) (v := .ref ao) (C := RX4) (T := TX4) (N := 9) hx hb hts (by decide +kernel) hown hK hP 0 rfl rfl 3 (by decide) (hts (.fieldLink RX4 22 "JoinDesk$Table" "order" "[I") (by decide +kernel)) (fun _ h9 => h9) rfl dX4_putInOrder_29 ?_
          refine lv_iload_n hx hb dX4_putInOrder_32 rfl (lv_at hl 2 rfl) ?_
          refine lv_aload_n hx hb dX4_putInOrder_33 rfl (lv_at hl 0 rfl) ?_
          refine va_get (D := D) (ci := 4) (v := .ref ao) (C := RX4) (T := TX4) (N := 9) hx hb hts (by decide +kernel) hown hK hP 0 rfl rfl 3 (by decide) (hts (.fieldLink RX4 22 "JoinDesk$Table" "order" "[I") (by decide +kernel)) (fun _ h9 => h9) rfl dX4_putInOrder_34 ?_
          refine lv_iload_n hx hb dX4_putInOrder_37 rfl (lv_at hl 2 rfl) ?_
          refine lv_iconst (v := 1) hx hb dX4_putInOrder_38 (by decide) ?_
          refine lv_isub hx hb dX4_putInOrder_39 ?_
          refine lv_topi (fun z_4 e_z_4 => ?_)
          obtain rfl : z_4 = nI q := e_z_4.trans (nI_pred _)
          refine va_iald hx hb hK hP 2 0 rfl rfl (vp_in_nI (show q < a by omega) (by omega)) dX4_putInOrder_40 ?_
          refine va_iast hx hb hK hP hD hS 2 0 rfl rfl (vp_in_nI (show q + 1 < a by omega) (by omega)) dX4_putInOrder_41 (fun H locs hP hD hS => ?_)
          have hP : va_P D vwCl [(h0, .inr (4, [.int (nI a), .ref ak, .ref av, .ref ao, .ref ap, .ref al, .ref af, .int (nI n), .int (nI pl)])), (ak, .inl (cI, a, .inl fk)), (ao, .inl (cI, a, .inl (upd fo1 (nI (q + 1)).toNatClampNeg (fo1 (nI q).toNatClampNeg))))] H := hP
          have hD : va_D A [(h0, .inr (4, [.int (nI a), .ref ak, .ref av, .ref ao, .ref ap, .ref al, .ref af, .int (nI n), .int (nI pl)])), (ak, .inl (cI, a, .inl fk)), (ao, .inl (cI, a, .inl (upd fo1 (nI (q + 1)).toNatClampNeg (fo1 (nI q).toNatClampNeg))))] := hD
          refine lv_iinc (v := nI q) (lv' := [(2, .int (nI q)), (0, .ref h0), (1, .int (nI num))]) hx hb dX4_putInOrder_42 hl (k := 2) rfl (pk_m1 _) (by decide) rfl (fun ls hl => ?_)
          refine lv_goto (tgt := 2) hx hb dX4_putInOrder_45 (by decide) ?_
          exact ih_1 q (upd fo1 (nI (q + 1)).toNatClampNeg (fo1 (nI q).toNatClampNeg)) (by omega) (by first | assumption | omega) (by rw [nI_clamp (show q + 1 < 2 ^ 31 by omega), nI_clamp (show q < 2 ^ 31 by omega)]; exact jord_mv ho1 (by omega)) (by rw [nI_clamp (show q + 1 < 2 ^ 31 by omega), nI_clamp (show q < 2 ^ 31 by omega)]; rw [nI_clamp (show q < 2 ^ 31 by omega), nI_clamp (show num < 2 ^ 31 by omega)] at cle; exact (jins_gt cle).trans hf) _ _ hP hD hS ls (lv_sub hl [1, 2, 0] rfl)
  exact hloop_1 (num + 1) num fo (Nat.lt_succ_self _) (Nat.le_refl _) (ho) (rfl) _ _ hP hD hS ls (lv_sub hl [1, 2, 0] rfl)
set_option maxHeartbeats 1000000 in
set_option maxRecDepth 100000 in
theorem gT_sortRows (l : Launch) (D : va_G) (cI cL cQ : ClassId) (h0 : Nat) (a : Nat) (n : Nat) (pl : Nat) (ak : Nat) (av : Nat) (ao : Nat) (ap : Nat) (al : Nat) (af : Nat) (fk : Nat → Int32) (fo : Nat → Int32) (sz : Nat) (ha : a ≤ 400) (hn : n ≤ a) (hpl : pl ≤ n) (ho : jord a fo) : Met l yX4_sortRows wsX4_sortRows ({ frames := 1, cells := 0, slots := 0, locals := 22 }) (jw_P D vwCl (jT cI cL cQ) cL cQ [.ref h0] [(h0, .inr (4, [.int (nI a), .ref ak, .ref av, .ref ao, .ref ap, .ref al, .ref af, .int (nI n), .int (nI pl)])), (ak, .inl (cI, a, .inl fk)), (ao, .inl (cI, a, .inl fo))] sz) (va_Qv (fun u : va_W => u = [(h0, .inr (4, [.int (nI a), .ref ak, .ref av, .ref ao, .ref ap, .ref al, .ref af, .int (nI n), .int (nI n)])), (ak, .inl (cI, a, .inl fk)), (ao, .inl (cI, a, .inl (jsrt fk fo pl (n - pl))))]) (jw_B D vwCl (va_A [(h0, .inr (4, [.int (nI a), .ref ak, .ref av, .ref ao, .ref ap, .ref al, .ref af, .int (nI n), .int (nI pl)])), (ak, .inl (cI, a, .inl fk)), (ao, .inl (cI, a, .inl fo))] sz) (fun u : va_W => u)) (va_A [(h0, .inr (4, [.int (nI a), .ref ak, .ref av, .ref ao, .ref ap, .ref al, .ref af, .int (nI n), .int (nI pl)])), (ak, .inl (cI, a, .inl fk)), (ao, .inl (cI, a, .inl fo))] sz)) 0 0 (va_A [(h0, .inr (4, [.int (nI a), .ref ak, .ref av, .ref ao, .ref ap, .ref al, .ref af, .int (nI n), .int (nI pl)])), (ak, .inl (cI, a, .inl fk)), (ao, .inl (cI, a, .inl fo))] sz) := by
  refine Met.ofW (cc := cX4_sortRows) (maxL := 2) (ret := none) (by decide) rfl ?_
  intro p e s m args below meth c s₁ B hml hv
  obtain ⟨rfl, hsz, hP, hK, hN, hD0⟩ := hv
  have hx := B.exec
  have hb := B.bytes
  have hr := B.returns
  have hts := atoms_spec (ws := wsX4_sortRows) B.pre
  have hown : s.vm.findClass RX4 = some m.cls := findClass_of_methodNamed B.named
  have hlocks := B.notSynchronized
  subst hsz
  have hD := hD0.self (sz := s.heap.size)
  generalize hAe : va_A [(h0, .inr (4, [.int (nI a), .ref ak, .ref av, .ref ao, .ref ap, .ref al, .ref af, .int (nI n), .int (nI pl)])), (ak, .inl (cI, a, .inl fk)), (ao, .inl (cI, a, .inl fo))] s.heap.size = A at hD ⊢
  have hA : ∀ q : Nat, s.heap.size ≤ q → A q := fun q h => by rw [← hAe]; exact Or.inr h
  have hS : va_S A s.heap s.heap [] := va_S.rf
  have hl := lv_entry ([.ref h0]) (n := 2) (Nat.le_of_ble_eq_true rfl)
  rw [lg_entry_eq]
  generalize (lg_sl ([.ref h0]) ++ List.replicate (2 - (lg_sl ([.ref h0])).length) Slot.unset).toArray = ls at hl ⊢
  have hl : lv_has ls 2 [(0, .ref h0)] := hl
  refine lv_aload_n hx hb dX4_sortRows_0 rfl (lv_at hl 0 rfl) ?_
  refine va_get (D := D) (ci := 4) (v := .int (nI pl)) (C := RX4) (T := TX4) (N := 9) hx hb hts (by decide +kernel) hown hK hP 0 rfl rfl 8 (by decide) (hts (.fieldLink RX4 37 "JoinDesk$Table" "placed" "I") (by decide +kernel)) (fun _ h9 => h9) rfl dX4_sortRows_1 ?_
  refine lv_istore_n (lv' := [(1, .int (nI pl)), (0, .ref h0)]) hx hb dX4_sortRows_4 rfl hl (by decide) rfl (fun ls hl => ?_)
  have hloop_1 : ∀ (k_1 : Nat) (d : Nat) (fo1 : Nat → Int32), n - (pl + d) < k_1 → (pl + d ≤ n) → (fo1 = jsrt fk fo pl d) → ∀ (H : Heap) (locs : List Loc), va_P D vwCl [(h0, .inr (4, [.int (nI a), .ref ak, .ref av, .ref ao, .ref ap, .ref al, .ref af, .int (nI n), .int (nI pl)])), (ak, .inl (cI, a, .inl fk)), (ao, .inl (cI, a, .inl fo1))] H → va_D A [(h0, .inr (4, [.int (nI a), .ref ak, .ref av, .ref ao, .ref ap, .ref al, .ref af, .int (nI n), .int (nI pl)])), (ak, .inl (cI, a, .inl fk)), (ao, .inl (cI, a, .inl fo1))] → va_S A s.heap H locs → ∀ ls : Array Slot, lv_has ls 2 [(0, .ref h0), (1, .int (nI (pl + d)))] → W p l e (headSpec wsX4_sortRows ({ frames := 1, cells := 0, slots := 0, locals := 22 })).room s m #[.ref h0] below meth c H locs 0 0 (MQ below (va_Qv (fun u : va_W => u = [(h0, .inr (4, [.int (nI a), .ref ak, .ref av, .ref ao, .ref ap, .ref al, .ref af, .int (nI n), .int (nI n)])), (ak, .inl (cI, a, .inl fk)), (ao, .inl (cI, a, .inl (jsrt fk fo pl (n - pl))))]) (jw_B D vwCl A (fun u : va_W => u)) A) #[.ref h0] s 0 0 A) (F0 m 5 ls []) := by
    intro k_1
    induction k_1 with
    | zero => exact fun _ _ hm => absurd hm (Nat.not_lt_zero _)
    | succ k_1 ih_1 =>
      intro d fo1 hm1 hd hf H locs hP hD hS ls hl
      refine lv_iload_n hx hb dX4_sortRows_5 rfl (lv_at hl 1 rfl) ?_
      refine lv_aload_n hx hb dX4_sortRows_6 rfl (lv_at hl 0 rfl) ?_
      refine va_get (D := D) (ci := 4) (v := .int (nI n)) (C := RX4) (T := TX4) (N := 9) hx hb hts (by decide +kernel) hown hK hP 0 rfl rfl 7 (by decide) (hts (.fieldLink RX4 34 "JoinDesk$Table" "size" "I") (by decide +kernel)) (fun _ h9 => h9) rfl dX4_sortRows_7 ?_
      refine lv_icmp_ge (tgt := 24) hx hb dX4_sortRows_10 (by decide) (fun cge => ?_) (fun cge => ?_)
      · refine lv_aload_n hx hb dX4_sortRows_24 rfl (lv_at hl 0 rfl) ?_
        refine lv_aload_n hx hb dX4_sortRows_25 rfl (lv_at hl 0 rfl) ?_
        refine va_get (D := D) (ci := 4) (v := .int (nI n)) (C := RX4) (T := TX4) (N := 9) hx hb hts (by decide +kernel) hown hK hP 0 rfl rfl 7 (by decide) (hts (.fieldLink RX4 34 "JoinDesk$Table" "size" "I") (by decide +kernel)) (fun _ h9 => h9) rfl dX4_sortRows_26 ?_
        refine va_put (D := D) (ci := 4) (v := .int (nI n)) (ty := .int) (C := RX4) (T := TX4) (N := 9) hx hb hts (by decide +kernel) tyX4 tyX4_ok nmX4 hown hK hP hD hS 0 rfl rfl 8 (by decide) (hts (.fieldLink RX4 37 "JoinDesk$Table" "placed" "I") (by decide +kernel)) (fun _ h9 => h9) rfl (by decide +kernel) rfl rfl (Nat.le_of_ble_eq_true rfl) dX4_sortRows_29 (fun H locs hP hD hS => ?_)
        have hP : va_P D vwCl [(h0, .inr (4, [.int (nI a), .ref ak, .ref av, .ref ao, .ref ap, .ref al, .ref af, .int (nI n), .int (nI n)])), (ak, .inl (cI, a, .inl fk)), (ao, .inl (cI, a, .inl fo1))] H := hP
        have hD : va_D A [(h0, .inr (4, [.int (nI a), .ref ak, .ref av, .ref ao, .ref ap, .ref al, .ref af, .int (nI n), .int (nI n)])), (ak, .inl (cI, a, .inl fk)), (ao, .inl (cI, a, .inl fo1))] := hD
        refine W.widen (k := 0) (n := 0) (by omega) (by omega) ?_
        exact W.vret hx hb hr (fun t ht hW => ⟨⟨[(h0, .inr (4, [.int (nI a), .ref ak, .ref av, .ref ao, .ref ap, .ref al, .ref af, .int (nI n), .int (nI n)])), (ak, .inl (cI, a, .inl fk)), (ao, .inl (cI, a, .inl fo1))], rfl, (by rw [nI_leI (by omega) (by omega)] at cge; rw [hf, show n - pl = d by omega]), by rw [ht]; exact hP, hD⟩, hS.F ht⟩) hS.2.2 dX4_sortRows_32
      · refine lv_aload_n hx hb dX4_sortRows_13 rfl (lv_at hl 0 rfl) ?_
        refine lv_iload_n hx hb dX4_sortRows_14 rfl (lv_at hl 1 rfl) ?_
        refine jw_v (wr := []) (va_runV (As := [.int (nI (pl + d))]) (rest := []) ⟨hx, hb, hml, hown, hts⟩ (gT_putInOrder l D cI cL cQ h0 a n pl ak av ao ap al af fk fo1 (pl + d) _ (by first | assumption | decide | omega) (by rw [hf]; exact jord_srt ho d (by omega)) (by rw [nI_leI (by omega) (by omega)] at cge; omega)) (cwV 1 hts gX4_sortRows_X4_putInOrder rfl rfl rfl (by decide +kernel) ⟨Nat.le_of_ble_eq_true rfl, Nat.le_of_ble_eq_true rfl⟩) (jw_V hK hN hP hD [0, 1, 2] (by decide) rfl 4 0 rfl rfl rfl) rfl rfl hl.1 rfl (lv_room (Nat.le_of_ble_eq_true rfl)) dX4_sortRows_15 ⟨Nat.le_of_ble_eq_true rfl, Nat.le_of_ble_eq_true rfl⟩) hP hD hS hA [0, 1, 2] [] rfl rfl (by decide) (by decide) (fun u H locs f_1 hP hD hS => ?_)
        obtain rfl := f_1
        have hP : va_P D vwCl [(h0, .inr (4, [.int (nI a), .ref ak, .ref av, .ref ao, .ref ap, .ref al, .ref af, .int (nI n), .int (nI pl)])), (ak, .inl (cI, a, .inl fk)), (ao, .inl (cI, a, .inl (jins fk (pl + d) fo1 (pl + d))))] H := hP
        have hD : va_D A [(h0, .inr (4, [.int (nI a), .ref ak, .ref av, .ref ao, .ref ap, .ref al, .ref af, .int (nI n), .int (nI pl)])), (ak, .inl (cI, a, .inl fk)), (ao, .inl (cI, a, .inl (jins fk (pl + d) fo1 (pl + d))))] := hD
        refine lv_iinc (v := nI ((pl + d) + 1)) (lv' := [(1, .int (nI ((pl + d) + 1))), (0, .ref h0)]) hx hb dX4_sortRows_18 hl (k := 1) rfl (nI_1 _) (by decide) rfl (fun ls hl => ?_)
        refine lv_goto (tgt := 5) hx hb dX4_sortRows_21 (by decide) ?_
        exact ih_1 (d + 1) (jins fk (pl + d) fo1 (pl + d)) (by rw [nI_leI (by omega) (by omega)] at cge; omega) (by rw [nI_leI (by omega) (by omega)] at cge; omega) (by rw [hf]; rfl) _ _ hP hD hS ls (lv_sub hl [1, 0] rfl)
  exact hloop_1 (n - (pl + 0) + 1) 0 fo (Nat.lt_succ_self _) (hpl) (rfl) _ _ hP hD hS ls (lv_sub hl [1, 0] rfl)
