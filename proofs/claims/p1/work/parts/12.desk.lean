set_option maxHeartbeats 1000000 in
set_option maxRecDepth 100000 in
theorem cJ_roomFor (l : Launch) (D : va_G) (cI cL cQ : ClassId) (x : Int32) : Met l yX5_roomFor wsX5_roomFor ({ frames := 1, cells := 0, slots := 0, locals := 14 }) (jr_P D vwCl (jT cI cL cQ) cL cQ [.int x] []) (vp_Si (fun r : Int32 => r = nI (jroom x))) 0 0 (fun _ => False) := by
  refine Met.ofW (cc := cX5_roomFor) (maxL := 1) (ret := (some .int)) (by decide) rfl ?_
  intro p e s m args below meth c s₁ B hml hv
  obtain ⟨rfl, hP, hK, hN⟩ := hv
  have hx := B.exec
  have hb := B.bytes
  have hr := B.returns
  have hts := atoms_spec (ws := wsX5_roomFor) B.pre
  have hown : s.vm.findClass RX5 = some m.cls := findClass_of_methodNamed B.named
  have hlocks := B.notSynchronized
  have hl := lv_entry ([.int x]) (n := 1) (Nat.le_of_ble_eq_true rfl)
  rw [lg_entry_eq]
  generalize (lg_sl ([.int x]) ++ List.replicate (1 - (lg_sl ([.int x])).length) Slot.unset).toArray = ls at hl ⊢
  have hl : lv_has ls 1 [(0, .int x)] := hl
  refine lv_iconst (v := 0) hx hb dX5_roomFor_0 (by decide) ?_
  refine lv_sipush (v := 400) hx hb dX5_roomFor_1 (by decide) ?_
  refine lv_iload_n hx hb dX5_roomFor_4 rfl (lv_at hl 0 rfl) ?_
  refine va_mmin hx hb (by rw [hml]; exact hl.1.symm) hown (hts (.methodLink RX5 167 Lib.Math.min.name) (by decide +kernel)) (hts (.static Lib.Math.min.name) (by decide +kernel)) (hts (.initialized "java/lang/Math") (by decide +kernel)) (hts (.code Lib.Math.min.name Lib.Math.min.code 2 (some .int)) (by decide +kernel)) (Nat.le_of_ble_eq_true rfl) (Nat.le_of_ble_eq_true rfl) (Nat.le_of_ble_eq_true rfl) (Nat.le_of_ble_eq_true rfl) dX5_roomFor_5 ?_
  refine va_mmax hx hb (by rw [hml]; exact hl.1.symm) hown (hts (.methodLink RX5 172 Lib.Math.max.name) (by decide +kernel)) (hts (.static Lib.Math.max.name) (by decide +kernel)) (hts (.initialized "java/lang/Math") (by decide +kernel)) (hts (.code Lib.Math.max.name Lib.Math.max.code 2 (some .int)) (by decide +kernel)) (Nat.le_of_ble_eq_true rfl) (Nat.le_of_ble_eq_true rfl) (Nat.le_of_ble_eq_true rfl) (Nat.le_of_ble_eq_true rfl) dX5_roomFor_8 ?_
  refine lv_topi (fun v_1 e_v_1 => ?_)
  obtain rfl : v_1 = nI (jroom x) := e_v_1.trans (jroom_max x)
  exact W.iret (v := nI (jroom x)) hx hb hr (fun t ht hW => ⟨(nI (jroom x)), rfl, (by exact rfl), ht⟩) (fun _ h => nomatch h) dX5_roomFor_11
set_option maxHeartbeats 1000000 in
set_option maxRecDepth 100000 in
theorem cJ_tableOf_1 (l : Launch) (D : va_G) (cI cL cQ : ClassId) (h0 : Nat) (tl : Nat) (tr : Nat) (cu : Nat) (bk : Nat) (pr : Int32) : Met l yX5_tableOf wsX5_tableOf ({ frames := 0, cells := 0, slots := 0, locals := 0 }) (jr_P D vwCl (jT cI cL cQ) cL cQ [.ref h0, .int 1] [(h0, .inr (5, [.ref tl, .ref tr, .ref cu, .ref bk, .int pr]))]) (jr_Sr (fun r : Nat => r = tl)) 0 0 (fun _ => False) := by
  refine Met.ofW (cc := cX5_tableOf) (maxL := 2) (ret := (some (.object "JoinDesk$Table"))) (by decide) rfl ?_
  intro p e s m args below meth c s₁ B hml hv
  obtain ⟨rfl, hP, hK, hN⟩ := hv
  have hx := B.exec
  have hb := B.bytes
  have hr := B.returns
  have hts := atoms_spec (ws := wsX5_tableOf) B.pre
  have hown : s.vm.findClass RX5 = some m.cls := findClass_of_methodNamed B.named
  have hlocks := B.notSynchronized
  have hl := lv_entry ([.ref h0, .int 1]) (n := 2) (Nat.le_of_ble_eq_true rfl)
  rw [lg_entry_eq]
  generalize (lg_sl ([.ref h0, .int 1]) ++ List.replicate (2 - (lg_sl ([.ref h0, .int 1])).length) Slot.unset).toArray = ls at hl ⊢
  have hl : lv_has ls 2 [(0, .ref h0), (1, .int 1)] := hl
  refine lv_iload_n hx hb dX5_tableOf_0 rfl (lv_at hl 1 rfl) ?_
  refine lv_if_eq (tgt := 11) hx hb dX5_tableOf_1 (by decide) (fun c_1 => absurd c_1 (by decide)) (fun c_1 => ?_)
  refine lv_aload_n hx hb dX5_tableOf_4 rfl (lv_at hl 0 rfl) ?_
  refine va_get (D := D) (ci := 5) (v := .ref tl) (C := RX5) (T := TX5) (N := 5) hx hb hts (by decide +kernel) hown hK hP 0 rfl rfl 0 (by decide) (hts (.fieldLink RX5 18 "JoinDesk" "left" "LJoinDesk$Table;") (by decide +kernel)) (fun _ h9 => h9) rfl dX5_tableOf_5 ?_
  refine lv_goto (tgt := 15) hx hb dX5_tableOf_8 (by decide) ?_
  exact W.aret (v := .ref tl) hx hb hr (Or.inl ⟨_, rfl⟩) (Or.inr ⟨_, rfl⟩) (fun t ht hW => ⟨tl, rfl, (by exact rfl), ht⟩) (fun _ h => nomatch h) dX5_tableOf_15
set_option maxHeartbeats 1000000 in
set_option maxRecDepth 100000 in
theorem cJ_tableOf_0 (l : Launch) (D : va_G) (cI cL cQ : ClassId) (h0 : Nat) (tl : Nat) (tr : Nat) (cu : Nat) (bk : Nat) (pr : Int32) : Met l yX5_tableOf wsX5_tableOf ({ frames := 0, cells := 0, slots := 0, locals := 0 }) (jr_P D vwCl (jT cI cL cQ) cL cQ [.ref h0, .int 0] [(h0, .inr (5, [.ref tl, .ref tr, .ref cu, .ref bk, .int pr]))]) (jr_Sr (fun r : Nat => r = tr)) 0 0 (fun _ => False) := by
  refine Met.ofW (cc := cX5_tableOf) (maxL := 2) (ret := (some (.object "JoinDesk$Table"))) (by decide) rfl ?_
  intro p e s m args below meth c s₁ B hml hv
  obtain ⟨rfl, hP, hK, hN⟩ := hv
  have hx := B.exec
  have hb := B.bytes
  have hr := B.returns
  have hts := atoms_spec (ws := wsX5_tableOf) B.pre
  have hown : s.vm.findClass RX5 = some m.cls := findClass_of_methodNamed B.named
  have hlocks := B.notSynchronized
  have hl := lv_entry ([.ref h0, .int 0]) (n := 2) (Nat.le_of_ble_eq_true rfl)
  rw [lg_entry_eq]
  generalize (lg_sl ([.ref h0, .int 0]) ++ List.replicate (2 - (lg_sl ([.ref h0, .int 0])).length) Slot.unset).toArray = ls at hl ⊢
  have hl : lv_has ls 2 [(0, .ref h0), (1, .int 0)] := hl
  refine lv_iload_n hx hb dX5_tableOf_0 rfl (lv_at hl 1 rfl) ?_
  refine lv_if_eq (tgt := 11) hx hb dX5_tableOf_1 (by decide) (fun c_1 => ?_) (fun c_1 => absurd c_1 (by decide))
  refine lv_aload_n hx hb dX5_tableOf_11 rfl (lv_at hl 0 rfl) ?_
  refine va_get (D := D) (ci := 5) (v := .ref tr) (C := RX5) (T := TX5) (N := 5) hx hb hts (by decide +kernel) hown hK hP 0 rfl rfl 1 (by decide) (hts (.fieldLink RX5 22 "JoinDesk" "right" "LJoinDesk$Table;") (by decide +kernel)) (fun _ h9 => h9) rfl dX5_tableOf_12 ?_
  exact W.aret (v := .ref tr) hx hb hr (Or.inl ⟨_, rfl⟩) (Or.inr ⟨_, rfl⟩) (fun t ht hW => ⟨tr, rfl, (by exact rfl), ht⟩) (fun _ h => nomatch h) dX5_tableOf_15
set_option maxHeartbeats 1000000 in
set_option maxRecDepth 100000 in
theorem cJ_isBelow (l : Launch) (D : va_G) (cI cL cQ : ClassId) (x : Int32) (y : Int32) : Met l yX5_isBelow wsX5_isBelow ({ frames := 0, cells := 0, slots := 0, locals := 0 }) (jr_P D vwCl (jT cI cL cQ) cL cQ [.int x, .int y] []) (vp_Si (fun r : Int32 => (r = 1 ∧ (¬ x < 0) ∧ (¬ y ≤ x)) ∨ (r = 0 ∧ (x < 0 ∨ y ≤ x)))) 0 0 (fun _ => False) := by
  refine Met.ofW (cc := cX5_isBelow) (maxL := 2) (ret := (some .boolean)) (by decide) rfl ?_
  intro p e s m args below meth c s₁ B hml hv
  obtain ⟨rfl, hP, hK, hN⟩ := hv
  have hx := B.exec
  have hb := B.bytes
  have hr := B.returns
  have hts := atoms_spec (ws := wsX5_isBelow) B.pre
  have hown : s.vm.findClass RX5 = some m.cls := findClass_of_methodNamed B.named
  have hlocks := B.notSynchronized
  have hl := lv_entry ([.int x, .int y]) (n := 2) (Nat.le_of_ble_eq_true rfl)
  rw [lg_entry_eq]
  generalize (lg_sl ([.int x, .int y]) ++ List.replicate (2 - (lg_sl ([.int x, .int y])).length) Slot.unset).toArray = ls at hl ⊢
  have hl : lv_has ls 2 [(0, .int x), (1, .int y)] := hl
  refine lv_iload_n hx hb dX5_isBelow_0 rfl (lv_at hl 0 rfl) ?_
  refine lv_if_lt (tgt := 13) hx hb dX5_isBelow_1 (by decide) (fun c_1 => ?_) (fun c_1 => ?_)
  · refine lv_iconst (v := 0) hx hb dX5_isBelow_13 (by decide) ?_
    exact W.zret (v := 0) (ty := .boolean) hx hb hr rfl (fun t ht hW => ⟨0, rfl, (by exact (Or.inr (⟨rfl, (by first | assumption | exact Or.inl (by assumption) | exact Or.inr (by assumption) | rfl | decide | omega)⟩))), ht⟩) (fun _ h => nomatch h) dX5_isBelow_14
  · refine lv_iload_n hx hb dX5_isBelow_4 rfl (lv_at hl 0 rfl) ?_
    refine lv_iload_n hx hb dX5_isBelow_5 rfl (lv_at hl 1 rfl) ?_
    refine lv_icmp_ge (tgt := 13) hx hb dX5_isBelow_6 (by decide) (fun c_2 => ?_) (fun c_2 => ?_)
    · refine lv_iconst (v := 0) hx hb dX5_isBelow_13 (by decide) ?_
      exact W.zret (v := 0) (ty := .boolean) hx hb hr rfl (fun t ht hW => ⟨0, rfl, (by exact (Or.inr (⟨rfl, (by first | assumption | exact Or.inl (by assumption) | exact Or.inr (by assumption) | rfl | decide | omega)⟩))), ht⟩) (fun _ h => nomatch h) dX5_isBelow_14
    · refine lv_iconst (v := 1) hx hb dX5_isBelow_9 (by decide) ?_
      refine lv_goto (tgt := 14) hx hb dX5_isBelow_10 (by decide) ?_
      exact W.zret (v := 1) (ty := .boolean) hx hb hr rfl (fun t ht hW => ⟨1, rfl, (by exact (Or.inl ⟨rfl, (by first | assumption | exact Or.inl (by assumption) | exact Or.inr (by assumption) | rfl | decide | omega), (by first | assumption | exact Or.inl (by assumption) | exact Or.inr (by assumption) | rfl | decide | omega)⟩)), ht⟩) (fun _ h => nomatch h) dX5_isBelow_14
set_option maxHeartbeats 1000000 in
set_option maxRecDepth 100000 in
theorem cJ_requireState_ok (l : Launch) (D : va_G) (cI cL cQ : ClassId) : Met l yX5_requireState wsX5_requireState ({ frames := 0, cells := 0, slots := 0, locals := 0 }) (jr_P D vwCl (jT cI cL cQ) cL cQ [.int 1] []) (va_Sv (fun _ : Unit => True)) 0 0 (fun _ => False) := by
  refine Met.ofW (cc := cX5_requireState) (maxL := 1) (ret := none) (by decide) rfl ?_
  intro p e s m args below meth c s₁ B hml hv
  obtain ⟨rfl, hP, hK, hN⟩ := hv
  have hx := B.exec
  have hb := B.bytes
  have hr := B.returns
  have hts := atoms_spec (ws := wsX5_requireState) B.pre
  have hown : s.vm.findClass RX5 = some m.cls := findClass_of_methodNamed B.named
  have hlocks := B.notSynchronized
  have hl := lv_entry ([.int 1]) (n := 1) (Nat.le_of_ble_eq_true rfl)
  rw [lg_entry_eq]
  generalize (lg_sl ([.int 1]) ++ List.replicate (1 - (lg_sl ([.int 1])).length) Slot.unset).toArray = ls at hl ⊢
  have hl : lv_has ls 1 [(0, .int 1)] := hl
  refine lv_iload_n hx hb dX5_requireState_0 rfl (lv_at hl 0 rfl) ?_
  refine lv_if_ne (tgt := 14) hx hb dX5_requireState_1 (by decide) (fun c_1 => ?_) (fun c_1 => absurd c_1 (by decide))
  exact W.vret hx hb hr (fun t ht hW => ⟨rfl, (by exact trivial), ht⟩) (fun _ h => nomatch h) dX5_requireState_14
set_option maxHeartbeats 1000000 in
set_option maxRecDepth 100000 in
theorem cJ_requireArgument_ok (l : Launch) (D : va_G) (cI cL cQ : ClassId) : Met l yX5_requireArgument wsX5_requireArgument ({ frames := 0, cells := 0, slots := 0, locals := 0 }) (jr_P D vwCl (jT cI cL cQ) cL cQ [.int 1] []) (va_Sv (fun _ : Unit => True)) 0 0 (fun _ => False) := by
  refine Met.ofW (cc := cX5_requireArgument) (maxL := 1) (ret := none) (by decide) rfl ?_
  intro p e s m args below meth c s₁ B hml hv
  obtain ⟨rfl, hP, hK, hN⟩ := hv
  have hx := B.exec
  have hb := B.bytes
  have hr := B.returns
  have hts := atoms_spec (ws := wsX5_requireArgument) B.pre
  have hown : s.vm.findClass RX5 = some m.cls := findClass_of_methodNamed B.named
  have hlocks := B.notSynchronized
  have hl := lv_entry ([.int 1]) (n := 1) (Nat.le_of_ble_eq_true rfl)
  rw [lg_entry_eq]
  generalize (lg_sl ([.int 1]) ++ List.replicate (1 - (lg_sl ([.int 1])).length) Slot.unset).toArray = ls at hl ⊢
  have hl : lv_has ls 1 [(0, .int 1)] := hl
  refine lv_iload_n hx hb dX5_requireArgument_0 rfl (lv_at hl 0 rfl) ?_
  refine lv_if_ne (tgt := 14) hx hb dX5_requireArgument_1 (by decide) (fun c_1 => ?_) (fun c_1 => absurd c_1 (by decide))
  exact W.vret hx hb hr (fun t ht hW => ⟨rfl, (by exact trivial), ht⟩) (fun _ h => nomatch h) dX5_requireArgument_14
set_option maxHeartbeats 1000000 in
set_option maxRecDepth 100000 in
theorem cJ_add_1 (l : Launch) (D : va_G) (cI cL cQ : ClassId) (a : Nat) (h0 : Nat) (tl : Nat) (tr : Nat) (cu : Nat) (bk : Nat) (lk : Nat) (lv : Nat) (lo : Nat) (lp : Nat) (ll : Nat) (lf : Nat) (x : Int32) (y : Int32) (sz : Nat) (ha : a ≤ 400) (hb0 : 0 < a) : Met l yX5_add wsX5_add ({ frames := 2, cells := 0, slots := 0, locals := 42 }) (jw_P D vwCl (jT cI cL cQ) cL cQ [.ref h0, .int 1, .int x, .int y] [(h0, .inr (5, [.ref tl, .ref tr, .ref cu, .ref bk, .int 0])), (tl, .inr (4, [.int (nI a), .ref lk, .ref lv, .ref lo, .ref lp, .ref ll, .ref lf, .int 0, .int 0])), (lk, .inl (cI, a, .inl (fun _ => 0))), (lv, .inl (cI, a, .inl (fun _ => 0)))] sz) (va_Qi (fun (r : Int32) (u : va_W) => r = 0 ∧ u = [(h0, .inr (5, [.ref tl, .ref tr, .ref cu, .ref bk, .int 0])), (tl, .inr (4, [.int (nI a), .ref lk, .ref lv, .ref lo, .ref lp, .ref ll, .ref lf, .int 1, .int 0])), (lk, .inl (cI, a, .inl (upd (fun _ => 0) (0 : Int32).toNatClampNeg x))), (lv, .inl (cI, a, .inl (upd (fun _ => 0) (0 : Int32).toNatClampNeg y)))]) (jw_B D vwCl (va_A [(h0, .inr (5, [.ref tl, .ref tr, .ref cu, .ref bk, .int 0])), (tl, .inr (4, [.int (nI a), .ref lk, .ref lv, .ref lo, .ref lp, .ref ll, .ref lf, .int 0, .int 0])), (lk, .inl (cI, a, .inl (fun _ => 0))), (lv, .inl (cI, a, .inl (fun _ => 0)))] sz) (fun u : va_W => u)) (va_A [(h0, .inr (5, [.ref tl, .ref tr, .ref cu, .ref bk, .int 0])), (tl, .inr (4, [.int (nI a), .ref lk, .ref lv, .ref lo, .ref lp, .ref ll, .ref lf, .int 0, .int 0])), (lk, .inl (cI, a, .inl (fun _ => 0))), (lv, .inl (cI, a, .inl (fun _ => 0)))] sz)) 0 0 (va_A [(h0, .inr (5, [.ref tl, .ref tr, .ref cu, .ref bk, .int 0])), (tl, .inr (4, [.int (nI a), .ref lk, .ref lv, .ref lo, .ref lp, .ref ll, .ref lf, .int 0, .int 0])), (lk, .inl (cI, a, .inl (fun _ => 0))), (lv, .inl (cI, a, .inl (fun _ => 0)))] sz) := by
  refine Met.ofW (cc := cX5_add) (maxL := 5) (ret := (some .int)) (by decide) rfl ?_
  intro p e s m args below meth c s₁ B hml hv
  obtain ⟨rfl, hsz, hP, hK, hN, hD0⟩ := hv
  have hx := B.exec
  have hb := B.bytes
  have hr := B.returns
  have hts := atoms_spec (ws := wsX5_add) B.pre
  have hown : s.vm.findClass RX5 = some m.cls := findClass_of_methodNamed B.named
  have hlocks := B.notSynchronized
  subst hsz
  have hD := hD0.self (sz := s.heap.size)
  generalize hAe : va_A [(h0, .inr (5, [.ref tl, .ref tr, .ref cu, .ref bk, .int 0])), (tl, .inr (4, [.int (nI a), .ref lk, .ref lv, .ref lo, .ref lp, .ref ll, .ref lf, .int 0, .int 0])), (lk, .inl (cI, a, .inl (fun _ => 0))), (lv, .inl (cI, a, .inl (fun _ => 0)))] s.heap.size = A at hD ⊢
  have hA : ∀ q : Nat, s.heap.size ≤ q → A q := fun q h => by rw [← hAe]; exact Or.inr h
  have hS : va_S A s.heap s.heap [] := va_S.rf
  have hl := lv_entry ([.ref h0, .int 1, .int x, .int y]) (n := 5) (Nat.le_of_ble_eq_true rfl)
  rw [lg_entry_eq]
  generalize (lg_sl ([.ref h0, .int 1, .int x, .int y]) ++ List.replicate (5 - (lg_sl ([.ref h0, .int 1, .int x, .int y])).length) Slot.unset).toArray = ls at hl ⊢
  have hl : lv_has ls 5 [(0, .ref h0), (1, .int 1), (2, .int x), (3, .int y)] := hl
  refine lv_aload_n hx hb dX5_add_0 rfl (lv_at hl 0 rfl) ?_
  refine lv_iload_n hx hb dX5_add_1 rfl (lv_at hl 1 rfl) ?_
  refine jr_callr (va_Run.run (va_runV (As := [.int 1]) (rest := []) ⟨hx, hb, hml, hown, hts⟩ (cJ_tableOf_1 l D cI cL cQ h0 tl tr cu bk 0) (cwV 1 hts gX5_add_X5_tableOf rfl rfl rfl (by decide +kernel) ⟨Nat.le_of_ble_eq_true rfl, Nat.le_of_ble_eq_true rfl⟩) (jr_V hK hN hP [0] rfl 5 0 rfl rfl rfl) rfl rfl hl.1 rfl (lv_room (Nat.le_of_ble_eq_true rfl)) dX5_add_2 ⟨Nat.le_of_ble_eq_true rfl, Nat.le_of_ble_eq_true rfl⟩)) (fun r f_1 => ?_)
  obtain er_2 := f_1
  subst r
  refine lv_astore (lv' := [(4, .ref tl), (0, .ref h0), (1, .int 1), (2, .int x), (3, .int y)]) hx hb dX5_add_5 hl (by decide) rfl (fun ls hl => ?_)
  refine lv_aload hx hb dX5_add_7 (lv_at hl 0 rfl) ?_
  refine vp_callSi (va_Run.run (va_runV (As := []) (rest := []) ⟨hx, hb, hml, hown, hts⟩ (cT_hasRoom l D cI cL cQ tl (nI a) lk lv lo lp ll lf 0 0) (cwV 0 hts gX5_add_X4_hasRoom rfl rfl rfl (by decide +kernel) ⟨Nat.le_of_ble_eq_true rfl, Nat.le_of_ble_eq_true rfl⟩) (jr_V hK hN hP [1] rfl 4 1 rfl rfl rfl) rfl rfl hl.1 rfl (lv_room (Nat.le_of_ble_eq_true rfl)) dX5_add_9 ⟨Nat.le_of_ble_eq_true rfl, Nat.le_of_ble_eq_true rfl⟩)) (fun r f_3 => ?_)
  rcases f_3 with ⟨rfl, f_4⟩ | ⟨rfl, f_5⟩
  · refine va_csv (va_Run.run (va_runS (As := [.int 1]) (rest := []) ⟨hx, hb, hml, hown, hts⟩ (cJ_requireState_ok l D cI cL cQ) (va_cwS 1 hts gX5_add_X5_requireState rfl rfl rfl (by decide +kernel) ⟨Nat.le_of_ble_eq_true rfl, Nat.le_of_ble_eq_true rfl⟩) (jr_S hK hN hP [] rfl) rfl rfl hl.1 rfl (lv_room (Nat.le_of_ble_eq_true rfl)) dX5_add_12 ⟨Nat.le_of_ble_eq_true rfl, Nat.le_of_ble_eq_true rfl⟩)) (fun f_6 => ?_)
    refine lv_aload_n hx hb dX5_add_15 rfl (lv_at hl 1 rfl) ?_
    refine lv_iconst (v := 0) hx hb dX5_add_16 (by decide) ?_
    refine va_put (D := D) (ci := 5) (v := .int 0) (ty := .boolean) (C := RX5) (T := TX5) (N := 5) hx hb hts (by decide +kernel) tyX5 tyX5_ok nmX5 hown hK hP hD hS 0 rfl rfl 4 (by decide) (hts (.fieldLink RX5 41 "JoinDesk" "prepared" "Z") (by decide +kernel)) (fun _ h9 => h9) rfl (by decide +kernel) rfl rfl (Nat.le_of_ble_eq_true rfl) dX5_add_17 (fun H locs hP hD hS => ?_)
    have hP : va_P D vwCl [(h0, .inr (5, [.ref tl, .ref tr, .ref cu, .ref bk, .int 0])), (tl, .inr (4, [.int (nI a), .ref lk, .ref lv, .ref lo, .ref lp, .ref ll, .ref lf, .int 0, .int 0])), (lk, .inl (cI, a, .inl (fun _ => 0))), (lv, .inl (cI, a, .inl (fun _ => 0)))] H := hP
    have hD : va_D A [(h0, .inr (5, [.ref tl, .ref tr, .ref cu, .ref bk, .int 0])), (tl, .inr (4, [.int (nI a), .ref lk, .ref lv, .ref lo, .ref lp, .ref ll, .ref lf, .int 0, .int 0])), (lk, .inl (cI, a, .inl (fun _ => 0))), (lv, .inl (cI, a, .inl (fun _ => 0)))] := hD
    refine lv_aload hx hb dX5_add_20 (lv_at hl 0 rfl) ?_
    refine lv_iload_n hx hb dX5_add_22 rfl (lv_at hl 3 rfl) ?_
    refine lv_iload_n hx hb dX5_add_23 rfl (lv_at hl 4 rfl) ?_
    refine jw_i (wr := [(h0, .inr (5, [.ref tl, .ref tr, .ref cu, .ref bk, .int 0]))]) (va_runV (As := [.int x, .int y]) (rest := []) ⟨hx, hb, hml, hown, hts⟩ (cT_append_0 l D cI cL cQ tl a lk lv lo lp ll lf x y _ (by first | assumption | decide | omega) (by first | assumption | decide | omega)) (cwV 2 hts gX5_add_X4_append rfl rfl rfl (by decide +kernel) ⟨Nat.le_of_ble_eq_true rfl, Nat.le_of_ble_eq_true rfl⟩) (jw_V hK hN hP hD [1, 2, 3] (by decide) rfl 4 1 rfl rfl rfl) rfl rfl hl.1 rfl (lv_room (Nat.le_of_ble_eq_true rfl)) dX5_add_24 ⟨Nat.le_of_ble_eq_true rfl, Nat.le_of_ble_eq_true rfl⟩) hP hD hS hA [1, 2, 3] [0] rfl rfl (by decide) (by decide) (fun r u H locs f_7 hP hD hS => ?_)
    obtain ⟨rfl, rfl⟩ := f_7
    have hP : va_P D vwCl [(h0, .inr (5, [.ref tl, .ref tr, .ref cu, .ref bk, .int 0])), (tl, .inr (4, [.int (nI a), .ref lk, .ref lv, .ref lo, .ref lp, .ref ll, .ref lf, .int 1, .int 0])), (lk, .inl (cI, a, .inl (upd (fun _ => 0) (0 : Int32).toNatClampNeg x))), (lv, .inl (cI, a, .inl (upd (fun _ => 0) (0 : Int32).toNatClampNeg y)))] H := hP
    have hD : va_D A [(h0, .inr (5, [.ref tl, .ref tr, .ref cu, .ref bk, .int 0])), (tl, .inr (4, [.int (nI a), .ref lk, .ref lv, .ref lo, .ref lp, .ref ll, .ref lf, .int 1, .int 0])), (lk, .inl (cI, a, .inl (upd (fun _ => 0) (0 : Int32).toNatClampNeg x))), (lv, .inl (cI, a, .inl (upd (fun _ => 0) (0 : Int32).toNatClampNeg y)))] := hD
    refine W.widen (k := 0) (n := 0) (by omega) (by omega) ?_
    exact W.iret (v := 0) hx hb hr (fun t ht hW => ⟨⟨0, [(h0, .inr (5, [.ref tl, .ref tr, .ref cu, .ref bk, .int 0])), (tl, .inr (4, [.int (nI a), .ref lk, .ref lv, .ref lo, .ref lp, .ref ll, .ref lf, .int 1, .int 0])), (lk, .inl (cI, a, .inl (upd (fun _ => 0) (0 : Int32).toNatClampNeg x))), (lv, .inl (cI, a, .inl (upd (fun _ => 0) (0 : Int32).toNatClampNeg y)))], rfl, (by exact ⟨rfl, rfl⟩), by rw [ht]; exact hP, hD⟩, hS.F ht⟩) hS.2.2 dX5_add_27
  · exact False.elim (by have h := f_5; rw [← nI_0, nI_leI (by omega) (by omega)] at h; omega)
set_option maxHeartbeats 1000000 in
set_option maxRecDepth 100000 in
theorem cJ_add_1t (l : Launch) (hnt : l.stackTraces = false) (D : va_G) (cI cL cQ : ClassId) (a : Nat) (h0 : Nat) (tl : Nat) (tr : Nat) (cu : Nat) (bk : Nat) (lk : Nat) (lv : Nat) (lo : Nat) (lp : Nat) (ll : Nat) (lf : Nat) (x : Int32) (y : Int32) (hb0 : a = 0) : vx_Met l yX5_add wsX5_add ({ frames := 7, cells := 1, slots := 6, locals := 102 }) (jt_P D vwCl (jT cI cL cQ) cL cQ [.ref h0, .int 1, .int x, .int y] [(h0, .inr (5, [.ref tl, .ref tr, .ref cu, .ref bk, .int 0])), (tl, .inr (4, [.int (nI a), .ref lk, .ref lv, .ref lo, .ref lp, .ref ll, .ref lf, .int 0, .int 0]))]) (fun _ _ _ _ => False) (jx_X "java/lang/IllegalStateException") 1 6 (fun _ => False) := by
  refine vx_ofW (cc := cX5_add) (maxL := 5) (ret := (some .int)) (by decide) rfl ?_
  intro p e s m args below meth c s₁ B hml hxt hv
  obtain ⟨rfl, hP, hK, hN, hZ⟩ := hv
  have hx := B.exec
  have hb := B.bytes
  have hr := B.returns
  have hts := atoms_spec (ws := wsX5_add) B.pre
  have hown : s.vm.findClass RX5 = some m.cls := findClass_of_methodNamed B.named
  have hlocks := B.notSynchronized
  have hl := lv_entry ([.ref h0, .int 1, .int x, .int y]) (n := 5) (Nat.le_of_ble_eq_true rfl)
  rw [lg_entry_eq]
  generalize (lg_sl ([.ref h0, .int 1, .int x, .int y]) ++ List.replicate (5 - (lg_sl ([.ref h0, .int 1, .int x, .int y])).length) Slot.unset).toArray = ls at hl ⊢
  have hl : lv_has ls 5 [(0, .ref h0), (1, .int 1), (2, .int x), (3, .int y)] := hl
  refine lv_aload_n hx hb dX5_add_0 rfl (lv_at hl 0 rfl) ?_
  refine lv_iload_n hx hb dX5_add_1 rfl (lv_at hl 1 rfl) ?_
  refine jr_callr (va_Run.run (va_runV (As := [.int 1]) (rest := []) ⟨hx, hb, hml, hown, hts⟩ (cJ_tableOf_1 l D cI cL cQ h0 tl tr cu bk 0) (cwV 1 hts gX5_add_X5_tableOf rfl rfl rfl (by decide +kernel) ⟨Nat.le_of_ble_eq_true rfl, Nat.le_of_ble_eq_true rfl⟩) (jr_V hK hN hP [0] rfl 5 0 rfl rfl rfl) rfl rfl hl.1 rfl (lv_room (Nat.le_of_ble_eq_true rfl)) dX5_add_2 ⟨Nat.le_of_ble_eq_true rfl, Nat.le_of_ble_eq_true rfl⟩)) (fun r f_1 => ?_)
  obtain er_2 := f_1
  subst r
  refine lv_astore (lv' := [(4, .ref tl), (0, .ref h0), (1, .int 1), (2, .int x), (3, .int y)]) hx hb dX5_add_5 hl (by decide) rfl (fun ls hl => ?_)
  refine lv_aload hx hb dX5_add_7 (lv_at hl 0 rfl) ?_
  refine vp_callSi (va_Run.run (va_runV (As := []) (rest := []) ⟨hx, hb, hml, hown, hts⟩ (cT_hasRoom l D cI cL cQ tl (nI a) lk lv lo lp ll lf 0 0) (cwV 0 hts gX5_add_X4_hasRoom rfl rfl rfl (by decide +kernel) ⟨Nat.le_of_ble_eq_true rfl, Nat.le_of_ble_eq_true rfl⟩) (jr_V hK hN hP [1] rfl 4 1 rfl rfl rfl) rfl rfl hl.1 rfl (lv_room (Nat.le_of_ble_eq_true rfl)) dX5_add_9 ⟨Nat.le_of_ble_eq_true rfl, Nat.le_of_ble_eq_true rfl⟩)) (fun r f_3 => ?_)
  rcases f_3 with ⟨rfl, f_4⟩ | ⟨rfl, f_5⟩
  · exact False.elim (by have h := f_4; rw [hb0, nI_0] at h; exact h (by decide))
  · refine jx_thr (vx_runS (As := [.int 0]) (rest := []) ⟨hx, hb, hml, hown, hts⟩ (cJ_requireState_t l hnt D cI cL cQ) (va_cwS 1 hts gX5_add_X5_requireState rfl rfl rfl (by decide +kernel) ⟨Nat.le_of_ble_eq_true rfl, Nat.le_of_ble_eq_true rfl⟩) (jt_S hK hN hZ hP [] rfl) rfl rfl hl.1 rfl (lv_room (Nat.le_of_ble_eq_true rfl)) dX5_add_12 ⟨Nat.le_of_ble_eq_true rfl, Nat.le_of_ble_eq_true rfl⟩) (fun ce q9 H1 hz hk hce hcv hcl => ?_)
    exact jx_out hxt hlocks hz hk hce hcv hcl (Nat.le_of_ble_eq_true rfl) (Nat.le_of_ble_eq_true rfl)
set_option maxHeartbeats 1000000 in
set_option maxRecDepth 100000 in
theorem cJ_add_0 (l : Launch) (D : va_G) (cI cL cQ : ClassId) (b : Nat) (h0 : Nat) (tl : Nat) (tr : Nat) (cu : Nat) (bk : Nat) (rk : Nat) (rv : Nat) (ro : Nat) (rp : Nat) (rl : Nat) (rf : Nat) (x : Int32) (y : Int32) (sz : Nat) (ha : b ≤ 400) (hb0 : 0 < b) : Met l yX5_add wsX5_add ({ frames := 2, cells := 0, slots := 0, locals := 42 }) (jw_P D vwCl (jT cI cL cQ) cL cQ [.ref h0, .int 0, .int x, .int y] [(h0, .inr (5, [.ref tl, .ref tr, .ref cu, .ref bk, .int 0])), (tr, .inr (4, [.int (nI b), .ref rk, .ref rv, .ref ro, .ref rp, .ref rl, .ref rf, .int 0, .int 0])), (rk, .inl (cI, b, .inl (fun _ => 0))), (rv, .inl (cI, b, .inl (fun _ => 0)))] sz) (va_Qi (fun (r : Int32) (u : va_W) => r = 0 ∧ u = [(h0, .inr (5, [.ref tl, .ref tr, .ref cu, .ref bk, .int 0])), (tr, .inr (4, [.int (nI b), .ref rk, .ref rv, .ref ro, .ref rp, .ref rl, .ref rf, .int 1, .int 0])), (rk, .inl (cI, b, .inl (upd (fun _ => 0) (0 : Int32).toNatClampNeg x))), (rv, .inl (cI, b, .inl (upd (fun _ => 0) (0 : Int32).toNatClampNeg y)))]) (jw_B D vwCl (va_A [(h0, .inr (5, [.ref tl, .ref tr, .ref cu, .ref bk, .int 0])), (tr, .inr (4, [.int (nI b), .ref rk, .ref rv, .ref ro, .ref rp, .ref rl, .ref rf, .int 0, .int 0])), (rk, .inl (cI, b, .inl (fun _ => 0))), (rv, .inl (cI, b, .inl (fun _ => 0)))] sz) (fun u : va_W => u)) (va_A [(h0, .inr (5, [.ref tl, .ref tr, .ref cu, .ref bk, .int 0])), (tr, .inr (4, [.int (nI b), .ref rk, .ref rv, .ref ro, .ref rp, .ref rl, .ref rf, .int 0, .int 0])), (rk, .inl (cI, b, .inl (fun _ => 0))), (rv, .inl (cI, b, .inl (fun _ => 0)))] sz)) 0 0 (va_A [(h0, .inr (5, [.ref tl, .ref tr, .ref cu, .ref bk, .int 0])), (tr, .inr (4, [.int (nI b), .ref rk, .ref rv, .ref ro, .ref rp, .ref rl, .ref rf, .int 0, .int 0])), (rk, .inl (cI, b, .inl (fun _ => 0))), (rv, .inl (cI, b, .inl (fun _ => 0)))] sz) := by
  refine Met.ofW (cc := cX5_add) (maxL := 5) (ret := (some .int)) (by decide) rfl ?_
  intro p e s m args below meth c s₁ B hml hv
  obtain ⟨rfl, hsz, hP, hK, hN, hD0⟩ := hv
  have hx := B.exec
  have hb := B.bytes
  have hr := B.returns
  have hts := atoms_spec (ws := wsX5_add) B.pre
  have hown : s.vm.findClass RX5 = some m.cls := findClass_of_methodNamed B.named
  have hlocks := B.notSynchronized
  subst hsz
  have hD := hD0.self (sz := s.heap.size)
  generalize hAe : va_A [(h0, .inr (5, [.ref tl, .ref tr, .ref cu, .ref bk, .int 0])), (tr, .inr (4, [.int (nI b), .ref rk, .ref rv, .ref ro, .ref rp, .ref rl, .ref rf, .int 0, .int 0])), (rk, .inl (cI, b, .inl (fun _ => 0))), (rv, .inl (cI, b, .inl (fun _ => 0)))] s.heap.size = A at hD ⊢
  have hA : ∀ q : Nat, s.heap.size ≤ q → A q := fun q h => by rw [← hAe]; exact Or.inr h
  have hS : va_S A s.heap s.heap [] := va_S.rf
  have hl := lv_entry ([.ref h0, .int 0, .int x, .int y]) (n := 5) (Nat.le_of_ble_eq_true rfl)
  rw [lg_entry_eq]
  generalize (lg_sl ([.ref h0, .int 0, .int x, .int y]) ++ List.replicate (5 - (lg_sl ([.ref h0, .int 0, .int x, .int y])).length) Slot.unset).toArray = ls at hl ⊢
  have hl : lv_has ls 5 [(0, .ref h0), (1, .int 0), (2, .int x), (3, .int y)] := hl
  refine lv_aload_n hx hb dX5_add_0 rfl (lv_at hl 0 rfl) ?_
  refine lv_iload_n hx hb dX5_add_1 rfl (lv_at hl 1 rfl) ?_
  refine jr_callr (va_Run.run (va_runV (As := [.int 0]) (rest := []) ⟨hx, hb, hml, hown, hts⟩ (cJ_tableOf_0 l D cI cL cQ h0 tl tr cu bk 0) (cwV 1 hts gX5_add_X5_tableOf rfl rfl rfl (by decide +kernel) ⟨Nat.le_of_ble_eq_true rfl, Nat.le_of_ble_eq_true rfl⟩) (jr_V hK hN hP [0] rfl 5 0 rfl rfl rfl) rfl rfl hl.1 rfl (lv_room (Nat.le_of_ble_eq_true rfl)) dX5_add_2 ⟨Nat.le_of_ble_eq_true rfl, Nat.le_of_ble_eq_true rfl⟩)) (fun r f_1 => ?_)
  obtain er_2 := f_1
  subst r
  refine lv_astore (lv' := [(4, .ref tr), (0, .ref h0), (1, .int 0), (2, .int x), (3, .int y)]) hx hb dX5_add_5 hl (by decide) rfl (fun ls hl => ?_)
  refine lv_aload hx hb dX5_add_7 (lv_at hl 0 rfl) ?_
  refine vp_callSi (va_Run.run (va_runV (As := []) (rest := []) ⟨hx, hb, hml, hown, hts⟩ (cT_hasRoom l D cI cL cQ tr (nI b) rk rv ro rp rl rf 0 0) (cwV 0 hts gX5_add_X4_hasRoom rfl rfl rfl (by decide +kernel) ⟨Nat.le_of_ble_eq_true rfl, Nat.le_of_ble_eq_true rfl⟩) (jr_V hK hN hP [1] rfl 4 1 rfl rfl rfl) rfl rfl hl.1 rfl (lv_room (Nat.le_of_ble_eq_true rfl)) dX5_add_9 ⟨Nat.le_of_ble_eq_true rfl, Nat.le_of_ble_eq_true rfl⟩)) (fun r f_3 => ?_)
  rcases f_3 with ⟨rfl, f_4⟩ | ⟨rfl, f_5⟩
  · refine va_csv (va_Run.run (va_runS (As := [.int 1]) (rest := []) ⟨hx, hb, hml, hown, hts⟩ (cJ_requireState_ok l D cI cL cQ) (va_cwS 1 hts gX5_add_X5_requireState rfl rfl rfl (by decide +kernel) ⟨Nat.le_of_ble_eq_true rfl, Nat.le_of_ble_eq_true rfl⟩) (jr_S hK hN hP [] rfl) rfl rfl hl.1 rfl (lv_room (Nat.le_of_ble_eq_true rfl)) dX5_add_12 ⟨Nat.le_of_ble_eq_true rfl, Nat.le_of_ble_eq_true rfl⟩)) (fun f_6 => ?_)
    refine lv_aload_n hx hb dX5_add_15 rfl (lv_at hl 1 rfl) ?_
    refine lv_iconst (v := 0) hx hb dX5_add_16 (by decide) ?_
    refine va_put (D := D) (ci := 5) (v := .int 0) (ty := .boolean) (C := RX5) (T := TX5) (N := 5) hx hb hts (by decide +kernel) tyX5 tyX5_ok nmX5 hown hK hP hD hS 0 rfl rfl 4 (by decide) (hts (.fieldLink RX5 41 "JoinDesk" "prepared" "Z") (by decide +kernel)) (fun _ h9 => h9) rfl (by decide +kernel) rfl rfl (Nat.le_of_ble_eq_true rfl) dX5_add_17 (fun H locs hP hD hS => ?_)
    have hP : va_P D vwCl [(h0, .inr (5, [.ref tl, .ref tr, .ref cu, .ref bk, .int 0])), (tr, .inr (4, [.int (nI b), .ref rk, .ref rv, .ref ro, .ref rp, .ref rl, .ref rf, .int 0, .int 0])), (rk, .inl (cI, b, .inl (fun _ => 0))), (rv, .inl (cI, b, .inl (fun _ => 0)))] H := hP
    have hD : va_D A [(h0, .inr (5, [.ref tl, .ref tr, .ref cu, .ref bk, .int 0])), (tr, .inr (4, [.int (nI b), .ref rk, .ref rv, .ref ro, .ref rp, .ref rl, .ref rf, .int 0, .int 0])), (rk, .inl (cI, b, .inl (fun _ => 0))), (rv, .inl (cI, b, .inl (fun _ => 0)))] := hD
    refine lv_aload hx hb dX5_add_20 (lv_at hl 0 rfl) ?_
    refine lv_iload_n hx hb dX5_add_22 rfl (lv_at hl 3 rfl) ?_
    refine lv_iload_n hx hb dX5_add_23 rfl (lv_at hl 4 rfl) ?_
    refine jw_i (wr := [(h0, .inr (5, [.ref tl, .ref tr, .ref cu, .ref bk, .int 0]))]) (va_runV (As := [.int x, .int y]) (rest := []) ⟨hx, hb, hml, hown, hts⟩ (cT_append_0 l D cI cL cQ tr b rk rv ro rp rl rf x y _ (by first | assumption | decide | omega) (by first | assumption | decide | omega)) (cwV 2 hts gX5_add_X4_append rfl rfl rfl (by decide +kernel) ⟨Nat.le_of_ble_eq_true rfl, Nat.le_of_ble_eq_true rfl⟩) (jw_V hK hN hP hD [1, 2, 3] (by decide) rfl 4 1 rfl rfl rfl) rfl rfl hl.1 rfl (lv_room (Nat.le_of_ble_eq_true rfl)) dX5_add_24 ⟨Nat.le_of_ble_eq_true rfl, Nat.le_of_ble_eq_true rfl⟩) hP hD hS hA [1, 2, 3] [0] rfl rfl (by decide) (by decide) (fun r u H locs f_7 hP hD hS => ?_)
    obtain ⟨rfl, rfl⟩ := f_7
    have hP : va_P D vwCl [(h0, .inr (5, [.ref tl, .ref tr, .ref cu, .ref bk, .int 0])), (tr, .inr (4, [.int (nI b), .ref rk, .ref rv, .ref ro, .ref rp, .ref rl, .ref rf, .int 1, .int 0])), (rk, .inl (cI, b, .inl (upd (fun _ => 0) (0 : Int32).toNatClampNeg x))), (rv, .inl (cI, b, .inl (upd (fun _ => 0) (0 : Int32).toNatClampNeg y)))] H := hP
    have hD : va_D A [(h0, .inr (5, [.ref tl, .ref tr, .ref cu, .ref bk, .int 0])), (tr, .inr (4, [.int (nI b), .ref rk, .ref rv, .ref ro, .ref rp, .ref rl, .ref rf, .int 1, .int 0])), (rk, .inl (cI, b, .inl (upd (fun _ => 0) (0 : Int32).toNatClampNeg x))), (rv, .inl (cI, b, .inl (upd (fun _ => 0) (0 : Int32).toNatClampNeg y)))] := hD
    refine W.widen (k := 0) (n := 0) (by omega) (by omega) ?_
    exact W.iret (v := 0) hx hb hr (fun t ht hW => ⟨⟨0, [(h0, .inr (5, [.ref tl, .ref tr, .ref cu, .ref bk, .int 0])), (tr, .inr (4, [.int (nI b), .ref rk, .ref rv, .ref ro, .ref rp, .ref rl, .ref rf, .int 1, .int 0])), (rk, .inl (cI, b, .inl (upd (fun _ => 0) (0 : Int32).toNatClampNeg x))), (rv, .inl (cI, b, .inl (upd (fun _ => 0) (0 : Int32).toNatClampNeg y)))], rfl, (by exact ⟨rfl, rfl⟩), by rw [ht]; exact hP, hD⟩, hS.F ht⟩) hS.2.2 dX5_add_27
  · exact False.elim (by have h := f_5; rw [← nI_0, nI_leI (by omega) (by omega)] at h; omega)
set_option maxHeartbeats 1000000 in
set_option maxRecDepth 100000 in
theorem cJ_add_0t (l : Launch) (hnt : l.stackTraces = false) (D : va_G) (cI cL cQ : ClassId) (b : Nat) (h0 : Nat) (tl : Nat) (tr : Nat) (cu : Nat) (bk : Nat) (rk : Nat) (rv : Nat) (ro : Nat) (rp : Nat) (rl : Nat) (rf : Nat) (x : Int32) (y : Int32) (hb0 : b = 0) : vx_Met l yX5_add wsX5_add ({ frames := 7, cells := 1, slots := 6, locals := 102 }) (jt_P D vwCl (jT cI cL cQ) cL cQ [.ref h0, .int 0, .int x, .int y] [(h0, .inr (5, [.ref tl, .ref tr, .ref cu, .ref bk, .int 0])), (tr, .inr (4, [.int (nI b), .ref rk, .ref rv, .ref ro, .ref rp, .ref rl, .ref rf, .int 0, .int 0]))]) (fun _ _ _ _ => False) (jx_X "java/lang/IllegalStateException") 1 6 (fun _ => False) := by
  refine vx_ofW (cc := cX5_add) (maxL := 5) (ret := (some .int)) (by decide) rfl ?_
  intro p e s m args below meth c s₁ B hml hxt hv
  obtain ⟨rfl, hP, hK, hN, hZ⟩ := hv
  have hx := B.exec
  have hb := B.bytes
  have hr := B.returns
  have hts := atoms_spec (ws := wsX5_add) B.pre
  have hown : s.vm.findClass RX5 = some m.cls := findClass_of_methodNamed B.named
  have hlocks := B.notSynchronized
  have hl := lv_entry ([.ref h0, .int 0, .int x, .int y]) (n := 5) (Nat.le_of_ble_eq_true rfl)
  rw [lg_entry_eq]
  generalize (lg_sl ([.ref h0, .int 0, .int x, .int y]) ++ List.replicate (5 - (lg_sl ([.ref h0, .int 0, .int x, .int y])).length) Slot.unset).toArray = ls at hl ⊢
  have hl : lv_has ls 5 [(0, .ref h0), (1, .int 0), (2, .int x), (3, .int y)] := hl
  refine lv_aload_n hx hb dX5_add_0 rfl (lv_at hl 0 rfl) ?_
  refine lv_iload_n hx hb dX5_add_1 rfl (lv_at hl 1 rfl) ?_
  refine jr_callr (va_Run.run (va_runV (As := [.int 0]) (rest := []) ⟨hx, hb, hml, hown, hts⟩ (cJ_tableOf_0 l D cI cL cQ h0 tl tr cu bk 0) (cwV 1 hts gX5_add_X5_tableOf rfl rfl rfl (by decide +kernel) ⟨Nat.le_of_ble_eq_true rfl, Nat.le_of_ble_eq_true rfl⟩) (jr_V hK hN hP [0] rfl 5 0 rfl rfl rfl) rfl rfl hl.1 rfl (lv_room (Nat.le_of_ble_eq_true rfl)) dX5_add_2 ⟨Nat.le_of_ble_eq_true rfl, Nat.le_of_ble_eq_true rfl⟩)) (fun r f_1 => ?_)
  obtain er_2 := f_1
  subst r
  refine lv_astore (lv' := [(4, .ref tr), (0, .ref h0), (1, .int 0), (2, .int x), (3, .int y)]) hx hb dX5_add_5 hl (by decide) rfl (fun ls hl => ?_)
  refine lv_aload hx hb dX5_add_7 (lv_at hl 0 rfl) ?_
  refine vp_callSi (va_Run.run (va_runV (As := []) (rest := []) ⟨hx, hb, hml, hown, hts⟩ (cT_hasRoom l D cI cL cQ tr (nI b) rk rv ro rp rl rf 0 0) (cwV 0 hts gX5_add_X4_hasRoom rfl rfl rfl (by decide +kernel) ⟨Nat.le_of_ble_eq_true rfl, Nat.le_of_ble_eq_true rfl⟩) (jr_V hK hN hP [1] rfl 4 1 rfl rfl rfl) rfl rfl hl.1 rfl (lv_room (Nat.le_of_ble_eq_true rfl)) dX5_add_9 ⟨Nat.le_of_ble_eq_true rfl, Nat.le_of_ble_eq_true rfl⟩)) (fun r f_3 => ?_)
  rcases f_3 with ⟨rfl, f_4⟩ | ⟨rfl, f_5⟩
  · exact False.elim (by have h := f_4; rw [hb0, nI_0] at h; exact h (by decide))
  · refine jx_thr (vx_runS (As := [.int 0]) (rest := []) ⟨hx, hb, hml, hown, hts⟩ (cJ_requireState_t l hnt D cI cL cQ) (va_cwS 1 hts gX5_add_X5_requireState rfl rfl rfl (by decide +kernel) ⟨Nat.le_of_ble_eq_true rfl, Nat.le_of_ble_eq_true rfl⟩) (jt_S hK hN hZ hP [] rfl) rfl rfl hl.1 rfl (lv_room (Nat.le_of_ble_eq_true rfl)) dX5_add_12 ⟨Nat.le_of_ble_eq_true rfl, Nat.le_of_ble_eq_true rfl⟩) (fun ce q9 H1 hz hk hce hcv hcl => ?_)
    exact jx_out hxt hlocks hz hk hce hcv hcl (Nat.le_of_ble_eq_true rfl) (Nat.le_of_ble_eq_true rfl)
set_option maxHeartbeats 1000000 in
set_option maxRecDepth 100000 in
theorem cJ_prepare_0 (l : Launch) (D : va_G) (cI cL cQ : ClassId) (a : Nat) (b : Nat) (g : Nat) (h0 : Nat) (tl : Nat) (tr : Nat) (cu : Nat) (bk : Nat) (lk : Nat) (lv : Nat) (lo : Nat) (lp : Nat) (ll : Nat) (lf : Nat) (rk : Nat) (rv : Nat) (ro : Nat) (rp : Nat) (rl : Nat) (rf : Nat) (he : Nat) (ma : Nat) (fa : Nat) (s1 : Nat) (s2 : Nat) (sz : Nat) : Met l yX5_prepare wsX5_prepare ({ frames := 2, cells := 0, slots := 0, locals := 43 }) (jw_P D vwCl (jT cI cL cQ) cL cQ [.ref h0] [(h0, .inr (5, [.ref tl, .ref tr, .ref cu, .ref bk, .int 0])), (tl, .inr (4, [.int (nI a), .ref lk, .ref lv, .ref lo, .ref lp, .ref ll, .ref lf, .int 0, .int 0])), (tr, .inr (4, [.int (nI b), .ref rk, .ref rv, .ref ro, .ref rp, .ref rl, .ref rf, .int 0, .int 0])), (cu, .inr (0, [.ref tl, .ref tr, .ref he, .ref ma, .int 0, .int 0, .long 0])), (he, .inr (2, [.int 0, .int 0, .int 0, .int 0, .int (-1), .int (-1), .int 0])), (bk, .inr (1, [.int (nI g), .ref fa, .ref s1, .ref s2, .int 0, .int 0]))] sz) (va_Qv (fun u : va_W => u = [(h0, .inr (5, [.ref tl, .ref tr, .ref cu, .ref bk, .int 1])), (tl, .inr (4, [.int (nI a), .ref lk, .ref lv, .ref lo, .ref lp, .ref ll, .ref lf, .int 0, .int 0])), (tr, .inr (4, [.int (nI b), .ref rk, .ref rv, .ref ro, .ref rp, .ref rl, .ref rf, .int 0, .int 0])), (cu, .inr (0, [.ref tl, .ref tr, .ref he, .ref ma, .int 0, .int 0, .long 0])), (he, .inr (2, [.int 0, .int 0, .int 0, .int 0, .int (-1), .int (-1), .int 0])), (bk, .inr (1, [.int (nI g), .ref fa, .ref s1, .ref s2, .int 0, .int 0]))]) (jw_B D vwCl (va_A [(h0, .inr (5, [.ref tl, .ref tr, .ref cu, .ref bk, .int 0])), (tl, .inr (4, [.int (nI a), .ref lk, .ref lv, .ref lo, .ref lp, .ref ll, .ref lf, .int 0, .int 0])), (tr, .inr (4, [.int (nI b), .ref rk, .ref rv, .ref ro, .ref rp, .ref rl, .ref rf, .int 0, .int 0])), (cu, .inr (0, [.ref tl, .ref tr, .ref he, .ref ma, .int 0, .int 0, .long 0])), (he, .inr (2, [.int 0, .int 0, .int 0, .int 0, .int (-1), .int (-1), .int 0])), (bk, .inr (1, [.int (nI g), .ref fa, .ref s1, .ref s2, .int 0, .int 0]))] sz) (fun u : va_W => u)) (va_A [(h0, .inr (5, [.ref tl, .ref tr, .ref cu, .ref bk, .int 0])), (tl, .inr (4, [.int (nI a), .ref lk, .ref lv, .ref lo, .ref lp, .ref ll, .ref lf, .int 0, .int 0])), (tr, .inr (4, [.int (nI b), .ref rk, .ref rv, .ref ro, .ref rp, .ref rl, .ref rf, .int 0, .int 0])), (cu, .inr (0, [.ref tl, .ref tr, .ref he, .ref ma, .int 0, .int 0, .long 0])), (he, .inr (2, [.int 0, .int 0, .int 0, .int 0, .int (-1), .int (-1), .int 0])), (bk, .inr (1, [.int (nI g), .ref fa, .ref s1, .ref s2, .int 0, .int 0]))] sz)) 0 0 (va_A [(h0, .inr (5, [.ref tl, .ref tr, .ref cu, .ref bk, .int 0])), (tl, .inr (4, [.int (nI a), .ref lk, .ref lv, .ref lo, .ref lp, .ref ll, .ref lf, .int 0, .int 0])), (tr, .inr (4, [.int (nI b), .ref rk, .ref rv, .ref ro, .ref rp, .ref rl, .ref rf, .int 0, .int 0])), (cu, .inr (0, [.ref tl, .ref tr, .ref he, .ref ma, .int 0, .int 0, .long 0])), (he, .inr (2, [.int 0, .int 0, .int 0, .int 0, .int (-1), .int (-1), .int 0])), (bk, .inr (1, [.int (nI g), .ref fa, .ref s1, .ref s2, .int 0, .int 0]))] sz) := by
  refine Met.ofW (cc := cX5_prepare) (maxL := 1) (ret := none) (by decide) rfl ?_
  intro p e s m args below meth c s₁ B hml hv
  obtain ⟨rfl, hsz, hP, hK, hN, hD0⟩ := hv
  have hx := B.exec
  have hb := B.bytes
  have hr := B.returns
  have hts := atoms_spec (ws := wsX5_prepare) B.pre
  have hown : s.vm.findClass RX5 = some m.cls := findClass_of_methodNamed B.named
  have hlocks := B.notSynchronized
  subst hsz
  have hD := hD0.self (sz := s.heap.size)
  generalize hAe : va_A [(h0, .inr (5, [.ref tl, .ref tr, .ref cu, .ref bk, .int 0])), (tl, .inr (4, [.int (nI a), .ref lk, .ref lv, .ref lo, .ref lp, .ref ll, .ref lf, .int 0, .int 0])), (tr, .inr (4, [.int (nI b), .ref rk, .ref rv, .ref ro, .ref rp, .ref rl, .ref rf, .int 0, .int 0])), (cu, .inr (0, [.ref tl, .ref tr, .ref he, .ref ma, .int 0, .int 0, .long 0])), (he, .inr (2, [.int 0, .int 0, .int 0, .int 0, .int (-1), .int (-1), .int 0])), (bk, .inr (1, [.int (nI g), .ref fa, .ref s1, .ref s2, .int 0, .int 0]))] s.heap.size = A at hD ⊢
  have hA : ∀ q : Nat, s.heap.size ≤ q → A q := fun q h => by rw [← hAe]; exact Or.inr h
  have hS : va_S A s.heap s.heap [] := va_S.rf
  have hl := lv_entry ([.ref h0]) (n := 1) (Nat.le_of_ble_eq_true rfl)
  rw [lg_entry_eq]
  generalize (lg_sl ([.ref h0]) ++ List.replicate (1 - (lg_sl ([.ref h0])).length) Slot.unset).toArray = ls at hl ⊢
  have hl : lv_has ls 1 [(0, .ref h0)] := hl
  refine lv_aload_n hx hb dX5_prepare_0 rfl (lv_at hl 0 rfl) ?_
  refine va_get (D := D) (ci := 5) (v := .ref tl) (C := RX5) (T := TX5) (N := 5) hx hb hts (by decide +kernel) hown hK hP 0 rfl rfl 0 (by decide) (hts (.fieldLink RX5 18 "JoinDesk" "left" "LJoinDesk$Table;") (by decide +kernel)) (fun _ h9 => h9) rfl dX5_prepare_1 ?_
  refine jw_v (wr := [(h0, .inr (5, [.ref tl, .ref tr, .ref cu, .ref bk, .int 0])), (tr, .inr (4, [.int (nI b), .ref rk, .ref rv, .ref ro, .ref rp, .ref rl, .ref rf, .int 0, .int 0])), (cu, .inr (0, [.ref tl, .ref tr, .ref he, .ref ma, .int 0, .int 0, .long 0])), (he, .inr (2, [.int 0, .int 0, .int 0, .int 0, .int (-1), .int (-1), .int 0])), (bk, .inr (1, [.int (nI g), .ref fa, .ref s1, .ref s2, .int 0, .int 0]))]) (va_runV (As := []) (rest := []) ⟨hx, hb, hml, hown, hts⟩ (cT_sortRows_0 l D cI cL cQ tl (nI a) lk lv lo lp ll lf _) (cwV 0 hts gX5_prepare_X4_sortRows rfl rfl rfl (by decide +kernel) ⟨Nat.le_of_ble_eq_true rfl, Nat.le_of_ble_eq_true rfl⟩) (jw_V hK hN hP hD [1] (by decide) rfl 4 1 rfl rfl rfl) rfl rfl hl.1 rfl (lv_room (Nat.le_of_ble_eq_true rfl)) dX5_prepare_4 ⟨Nat.le_of_ble_eq_true rfl, Nat.le_of_ble_eq_true rfl⟩) hP hD hS hA [1] [0, 2, 3, 4, 5] rfl rfl (by decide) (by decide) (fun u H locs f_1 hP hD hS => ?_)
  obtain rfl := f_1
  have hP : va_P D vwCl [(h0, .inr (5, [.ref tl, .ref tr, .ref cu, .ref bk, .int 0])), (tr, .inr (4, [.int (nI b), .ref rk, .ref rv, .ref ro, .ref rp, .ref rl, .ref rf, .int 0, .int 0])), (cu, .inr (0, [.ref tl, .ref tr, .ref he, .ref ma, .int 0, .int 0, .long 0])), (he, .inr (2, [.int 0, .int 0, .int 0, .int 0, .int (-1), .int (-1), .int 0])), (bk, .inr (1, [.int (nI g), .ref fa, .ref s1, .ref s2, .int 0, .int 0])), (tl, .inr (4, [.int (nI a), .ref lk, .ref lv, .ref lo, .ref lp, .ref ll, .ref lf, .int 0, .int 0]))] H := hP
  have hD : va_D A [(h0, .inr (5, [.ref tl, .ref tr, .ref cu, .ref bk, .int 0])), (tr, .inr (4, [.int (nI b), .ref rk, .ref rv, .ref ro, .ref rp, .ref rl, .ref rf, .int 0, .int 0])), (cu, .inr (0, [.ref tl, .ref tr, .ref he, .ref ma, .int 0, .int 0, .long 0])), (he, .inr (2, [.int 0, .int 0, .int 0, .int 0, .int (-1), .int (-1), .int 0])), (bk, .inr (1, [.int (nI g), .ref fa, .ref s1, .ref s2, .int 0, .int 0])), (tl, .inr (4, [.int (nI a), .ref lk, .ref lv, .ref lo, .ref lp, .ref ll, .ref lf, .int 0, .int 0]))] := hD
  refine lv_aload_n hx hb dX5_prepare_7 rfl (lv_at hl 0 rfl) ?_
  refine va_get (D := D) (ci := 5) (v := .ref tr) (C := RX5) (T := TX5) (N := 5) hx hb hts (by decide +kernel) hown hK hP 0 rfl rfl 1 (by decide) (hts (.fieldLink RX5 22 "JoinDesk" "right" "LJoinDesk$Table;") (by decide +kernel)) (fun _ h9 => h9) rfl dX5_prepare_8 ?_
  refine jw_v (wr := [(h0, .inr (5, [.ref tl, .ref tr, .ref cu, .ref bk, .int 0])), (cu, .inr (0, [.ref tl, .ref tr, .ref he, .ref ma, .int 0, .int 0, .long 0])), (he, .inr (2, [.int 0, .int 0, .int 0, .int 0, .int (-1), .int (-1), .int 0])), (bk, .inr (1, [.int (nI g), .ref fa, .ref s1, .ref s2, .int 0, .int 0])), (tl, .inr (4, [.int (nI a), .ref lk, .ref lv, .ref lo, .ref lp, .ref ll, .ref lf, .int 0, .int 0]))]) (va_runV (As := []) (rest := []) ⟨hx, hb, hml, hown, hts⟩ (cT_sortRows_0 l D cI cL cQ tr (nI b) rk rv ro rp rl rf _) (cwV 0 hts gX5_prepare_X4_sortRows rfl rfl rfl (by decide +kernel) ⟨Nat.le_of_ble_eq_true rfl, Nat.le_of_ble_eq_true rfl⟩) (jw_V hK hN hP hD [1] (by decide) rfl 4 1 rfl rfl rfl) rfl rfl hl.1 rfl (lv_room (Nat.le_of_ble_eq_true rfl)) dX5_prepare_11 ⟨Nat.le_of_ble_eq_true rfl, Nat.le_of_ble_eq_true rfl⟩) hP hD hS hA [1] [0, 2, 3, 4, 5] rfl rfl (by decide) (by decide) (fun u H locs f_2 hP hD hS => ?_)
  obtain rfl := f_2
  have hP : va_P D vwCl [(h0, .inr (5, [.ref tl, .ref tr, .ref cu, .ref bk, .int 0])), (cu, .inr (0, [.ref tl, .ref tr, .ref he, .ref ma, .int 0, .int 0, .long 0])), (he, .inr (2, [.int 0, .int 0, .int 0, .int 0, .int (-1), .int (-1), .int 0])), (bk, .inr (1, [.int (nI g), .ref fa, .ref s1, .ref s2, .int 0, .int 0])), (tl, .inr (4, [.int (nI a), .ref lk, .ref lv, .ref lo, .ref lp, .ref ll, .ref lf, .int 0, .int 0])), (tr, .inr (4, [.int (nI b), .ref rk, .ref rv, .ref ro, .ref rp, .ref rl, .ref rf, .int 0, .int 0]))] H := hP
  have hD : va_D A [(h0, .inr (5, [.ref tl, .ref tr, .ref cu, .ref bk, .int 0])), (cu, .inr (0, [.ref tl, .ref tr, .ref he, .ref ma, .int 0, .int 0, .long 0])), (he, .inr (2, [.int 0, .int 0, .int 0, .int 0, .int (-1), .int (-1), .int 0])), (bk, .inr (1, [.int (nI g), .ref fa, .ref s1, .ref s2, .int 0, .int 0])), (tl, .inr (4, [.int (nI a), .ref lk, .ref lv, .ref lo, .ref lp, .ref ll, .ref lf, .int 0, .int 0])), (tr, .inr (4, [.int (nI b), .ref rk, .ref rv, .ref ro, .ref rp, .ref rl, .ref rf, .int 0, .int 0]))] := hD
  refine lv_aload_n hx hb dX5_prepare_14 rfl (lv_at hl 0 rfl) ?_
  refine va_get (D := D) (ci := 5) (v := .ref tl) (C := RX5) (T := TX5) (N := 5) hx hb hts (by decide +kernel) hown hK hP 0 rfl rfl 0 (by decide) (hts (.fieldLink RX5 18 "JoinDesk" "left" "LJoinDesk$Table;") (by decide +kernel)) (fun _ h9 => h9) rfl dX5_prepare_15 ?_
  refine lv_aload_n hx hb dX5_prepare_18 rfl (lv_at hl 0 rfl) ?_
  refine va_get (D := D) (ci := 5) (v := .ref tr) (C := RX5) (T := TX5) (N := 5) hx hb hts (by decide +kernel) hown hK hP 0 rfl rfl 1 (by decide) (hts (.fieldLink RX5 22 "JoinDesk" "right" "LJoinDesk$Table;") (by decide +kernel)) (fun _ h9 => h9) rfl dX5_prepare_19 ?_
  refine va_csv (va_Run.run (va_runV (As := [.ref tr]) (rest := []) ⟨hx, hb, hml, hown, hts⟩ (cT_findPartners_0 l D cI cL cQ tl (nI a) lk lv lo lp ll lf tr) (cwV 1 hts gX5_prepare_X4_findPartners rfl rfl rfl (by decide +kernel) ⟨Nat.le_of_ble_eq_true rfl, Nat.le_of_ble_eq_true rfl⟩) (jr_V hK hN hP [4] rfl 4 4 rfl rfl rfl) rfl rfl hl.1 rfl (lv_room (Nat.le_of_ble_eq_true rfl)) dX5_prepare_22 ⟨Nat.le_of_ble_eq_true rfl, Nat.le_of_ble_eq_true rfl⟩)) (fun f_3 => ?_)
  refine lv_aload_n hx hb dX5_prepare_25 rfl (lv_at hl 0 rfl) ?_
  refine va_get (D := D) (ci := 5) (v := .ref tr) (C := RX5) (T := TX5) (N := 5) hx hb hts (by decide +kernel) hown hK hP 0 rfl rfl 1 (by decide) (hts (.fieldLink RX5 22 "JoinDesk" "right" "LJoinDesk$Table;") (by decide +kernel)) (fun _ h9 => h9) rfl dX5_prepare_26 ?_
  refine lv_aload_n hx hb dX5_prepare_29 rfl (lv_at hl 0 rfl) ?_
  refine va_get (D := D) (ci := 5) (v := .ref tl) (C := RX5) (T := TX5) (N := 5) hx hb hts (by decide +kernel) hown hK hP 0 rfl rfl 0 (by decide) (hts (.fieldLink RX5 18 "JoinDesk" "left" "LJoinDesk$Table;") (by decide +kernel)) (fun _ h9 => h9) rfl dX5_prepare_30 ?_
  refine va_csv (va_Run.run (va_runV (As := [.ref tl]) (rest := []) ⟨hx, hb, hml, hown, hts⟩ (cT_findPartners_0 l D cI cL cQ tr (nI b) rk rv ro rp rl rf tl) (cwV 1 hts gX5_prepare_X4_findPartners rfl rfl rfl (by decide +kernel) ⟨Nat.le_of_ble_eq_true rfl, Nat.le_of_ble_eq_true rfl⟩) (jr_V hK hN hP [5] rfl 4 5 rfl rfl rfl) rfl rfl hl.1 rfl (lv_room (Nat.le_of_ble_eq_true rfl)) dX5_prepare_33 ⟨Nat.le_of_ble_eq_true rfl, Nat.le_of_ble_eq_true rfl⟩)) (fun f_4 => ?_)
  refine lv_aload_n hx hb dX5_prepare_36 rfl (lv_at hl 0 rfl) ?_
  refine va_get (D := D) (ci := 5) (v := .ref cu) (C := RX5) (T := TX5) (N := 5) hx hb hts (by decide +kernel) hown hK hP 0 rfl rfl 2 (by decide) (hts (.fieldLink RX5 30 "JoinDesk" "cursor" "LJoinDesk$Cursor;") (by decide +kernel)) (fun _ h9 => h9) rfl dX5_prepare_37 ?_
  refine jw_v (wr := [(h0, .inr (5, [.ref tl, .ref tr, .ref cu, .ref bk, .int 0])), (bk, .inr (1, [.int (nI g), .ref fa, .ref s1, .ref s2, .int 0, .int 0])), (tl, .inr (4, [.int (nI a), .ref lk, .ref lv, .ref lo, .ref lp, .ref ll, .ref lf, .int 0, .int 0])), (tr, .inr (4, [.int (nI b), .ref rk, .ref rv, .ref ro, .ref rp, .ref rl, .ref rf, .int 0, .int 0]))]) (va_runV (As := []) (rest := []) ⟨hx, hb, hml, hown, hts⟩ (cC_restart l D cI cL cQ cu tl tr he ma 0 0 0 0 0 0 0 (-1) (-1) 0 _) (cwV 0 hts gX5_prepare_X0_restart rfl rfl rfl (by decide +kernel) ⟨Nat.le_of_ble_eq_true rfl, Nat.le_of_ble_eq_true rfl⟩) (jw_V hK hN hP hD [1, 2] (by decide) rfl 0 1 rfl rfl rfl) rfl rfl hl.1 rfl (lv_room (Nat.le_of_ble_eq_true rfl)) dX5_prepare_40 ⟨Nat.le_of_ble_eq_true rfl, Nat.le_of_ble_eq_true rfl⟩) hP hD hS hA [1, 2] [0, 3, 4, 5] rfl rfl (by decide) (by decide) (fun u H locs f_5 hP hD hS => ?_)
  obtain rfl := f_5
  have hP : va_P D vwCl [(h0, .inr (5, [.ref tl, .ref tr, .ref cu, .ref bk, .int 0])), (bk, .inr (1, [.int (nI g), .ref fa, .ref s1, .ref s2, .int 0, .int 0])), (tl, .inr (4, [.int (nI a), .ref lk, .ref lv, .ref lo, .ref lp, .ref ll, .ref lf, .int 0, .int 0])), (tr, .inr (4, [.int (nI b), .ref rk, .ref rv, .ref ro, .ref rp, .ref rl, .ref rf, .int 0, .int 0])), (cu, .inr (0, [.ref tl, .ref tr, .ref he, .ref ma, .int 0, .int 0, .long 0])), (he, .inr (2, [.int 0, .int 0, .int 0, .int 0, .int (-1), .int (-1), .int 0]))] H := hP
  have hD : va_D A [(h0, .inr (5, [.ref tl, .ref tr, .ref cu, .ref bk, .int 0])), (bk, .inr (1, [.int (nI g), .ref fa, .ref s1, .ref s2, .int 0, .int 0])), (tl, .inr (4, [.int (nI a), .ref lk, .ref lv, .ref lo, .ref lp, .ref ll, .ref lf, .int 0, .int 0])), (tr, .inr (4, [.int (nI b), .ref rk, .ref rv, .ref ro, .ref rp, .ref rl, .ref rf, .int 0, .int 0])), (cu, .inr (0, [.ref tl, .ref tr, .ref he, .ref ma, .int 0, .int 0, .long 0])), (he, .inr (2, [.int 0, .int 0, .int 0, .int 0, .int (-1), .int (-1), .int 0]))] := hD
  refine lv_aload_n hx hb dX5_prepare_43 rfl (lv_at hl 0 rfl) ?_
  refine va_get (D := D) (ci := 5) (v := .ref cu) (C := RX5) (T := TX5) (N := 5) hx hb hts (by decide +kernel) hown hK hP 0 rfl rfl 2 (by decide) (hts (.fieldLink RX5 30 "JoinDesk" "cursor" "LJoinDesk$Cursor;") (by decide +kernel)) (fun _ h9 => h9) rfl dX5_prepare_44 ?_
  refine jw_v (wr := [(h0, .inr (5, [.ref tl, .ref tr, .ref cu, .ref bk, .int 0])), (bk, .inr (1, [.int (nI g), .ref fa, .ref s1, .ref s2, .int 0, .int 0])), (tl, .inr (4, [.int (nI a), .ref lk, .ref lv, .ref lo, .ref lp, .ref ll, .ref lf, .int 0, .int 0])), (tr, .inr (4, [.int (nI b), .ref rk, .ref rv, .ref ro, .ref rp, .ref rl, .ref rf, .int 0, .int 0])), (he, .inr (2, [.int 0, .int 0, .int 0, .int 0, .int (-1), .int (-1), .int 0]))]) (va_runV (As := []) (rest := []) ⟨hx, hb, hml, hown, hts⟩ (cC_forgetMark l D cI cL cQ cu tl tr he ma 0 0 0 _) (cwV 0 hts gX5_prepare_X0_forgetMark rfl rfl rfl (by decide +kernel) ⟨Nat.le_of_ble_eq_true rfl, Nat.le_of_ble_eq_true rfl⟩) (jw_V hK hN hP hD [4] (by decide) rfl 0 4 rfl rfl rfl) rfl rfl hl.1 rfl (lv_room (Nat.le_of_ble_eq_true rfl)) dX5_prepare_47 ⟨Nat.le_of_ble_eq_true rfl, Nat.le_of_ble_eq_true rfl⟩) hP hD hS hA [4] [0, 1, 2, 3, 5] rfl rfl (by decide) (by decide) (fun u H locs f_6 hP hD hS => ?_)
  obtain rfl := f_6
  have hP : va_P D vwCl [(h0, .inr (5, [.ref tl, .ref tr, .ref cu, .ref bk, .int 0])), (bk, .inr (1, [.int (nI g), .ref fa, .ref s1, .ref s2, .int 0, .int 0])), (tl, .inr (4, [.int (nI a), .ref lk, .ref lv, .ref lo, .ref lp, .ref ll, .ref lf, .int 0, .int 0])), (tr, .inr (4, [.int (nI b), .ref rk, .ref rv, .ref ro, .ref rp, .ref rl, .ref rf, .int 0, .int 0])), (he, .inr (2, [.int 0, .int 0, .int 0, .int 0, .int (-1), .int (-1), .int 0])), (cu, .inr (0, [.ref tl, .ref tr, .ref he, .ref ma, .int 0, .int 0, .long 0]))] H := hP
  have hD : va_D A [(h0, .inr (5, [.ref tl, .ref tr, .ref cu, .ref bk, .int 0])), (bk, .inr (1, [.int (nI g), .ref fa, .ref s1, .ref s2, .int 0, .int 0])), (tl, .inr (4, [.int (nI a), .ref lk, .ref lv, .ref lo, .ref lp, .ref ll, .ref lf, .int 0, .int 0])), (tr, .inr (4, [.int (nI b), .ref rk, .ref rv, .ref ro, .ref rp, .ref rl, .ref rf, .int 0, .int 0])), (he, .inr (2, [.int 0, .int 0, .int 0, .int 0, .int (-1), .int (-1), .int 0])), (cu, .inr (0, [.ref tl, .ref tr, .ref he, .ref ma, .int 0, .int 0, .long 0]))] := hD
  refine lv_aload_n hx hb dX5_prepare_50 rfl (lv_at hl 0 rfl) ?_
  refine va_get (D := D) (ci := 5) (v := .ref bk) (C := RX5) (T := TX5) (N := 5) hx hb hts (by decide +kernel) hown hK hP 0 rfl rfl 3 (by decide) (hts (.fieldLink RX5 37 "JoinDesk" "book" "LJoinDesk$GroupBook;") (by decide +kernel)) (fun _ h9 => h9) rfl dX5_prepare_51 ?_
  refine jw_v (wr := [(h0, .inr (5, [.ref tl, .ref tr, .ref cu, .ref bk, .int 0])), (tl, .inr (4, [.int (nI a), .ref lk, .ref lv, .ref lo, .ref lp, .ref ll, .ref lf, .int 0, .int 0])), (tr, .inr (4, [.int (nI b), .ref rk, .ref rv, .ref ro, .ref rp, .ref rl, .ref rf, .int 0, .int 0])), (he, .inr (2, [.int 0, .int 0, .int 0, .int 0, .int (-1), .int (-1), .int 0])), (cu, .inr (0, [.ref tl, .ref tr, .ref he, .ref ma, .int 0, .int 0, .long 0]))]) (va_runV (As := []) (rest := []) ⟨hx, hb, hml, hown, hts⟩ (cB_forget l D cI cL cQ bk (nI g) fa s1 s2 0 0 _) (cwV 0 hts gX5_prepare_X1_forget rfl rfl rfl (by decide +kernel) ⟨Nat.le_of_ble_eq_true rfl, Nat.le_of_ble_eq_true rfl⟩) (jw_V hK hN hP hD [1] (by decide) rfl 1 1 rfl rfl rfl) rfl rfl hl.1 rfl (lv_room (Nat.le_of_ble_eq_true rfl)) dX5_prepare_54 ⟨Nat.le_of_ble_eq_true rfl, Nat.le_of_ble_eq_true rfl⟩) hP hD hS hA [1] [0, 2, 3, 4, 5] rfl rfl (by decide) (by decide) (fun u H locs f_7 hP hD hS => ?_)
  obtain rfl := f_7
  have hP : va_P D vwCl [(h0, .inr (5, [.ref tl, .ref tr, .ref cu, .ref bk, .int 0])), (tl, .inr (4, [.int (nI a), .ref lk, .ref lv, .ref lo, .ref lp, .ref ll, .ref lf, .int 0, .int 0])), (tr, .inr (4, [.int (nI b), .ref rk, .ref rv, .ref ro, .ref rp, .ref rl, .ref rf, .int 0, .int 0])), (he, .inr (2, [.int 0, .int 0, .int 0, .int 0, .int (-1), .int (-1), .int 0])), (cu, .inr (0, [.ref tl, .ref tr, .ref he, .ref ma, .int 0, .int 0, .long 0])), (bk, .inr (1, [.int (nI g), .ref fa, .ref s1, .ref s2, .int 0, .int 0]))] H := hP
  have hD : va_D A [(h0, .inr (5, [.ref tl, .ref tr, .ref cu, .ref bk, .int 0])), (tl, .inr (4, [.int (nI a), .ref lk, .ref lv, .ref lo, .ref lp, .ref ll, .ref lf, .int 0, .int 0])), (tr, .inr (4, [.int (nI b), .ref rk, .ref rv, .ref ro, .ref rp, .ref rl, .ref rf, .int 0, .int 0])), (he, .inr (2, [.int 0, .int 0, .int 0, .int 0, .int (-1), .int (-1), .int 0])), (cu, .inr (0, [.ref tl, .ref tr, .ref he, .ref ma, .int 0, .int 0, .long 0])), (bk, .inr (1, [.int (nI g), .ref fa, .ref s1, .ref s2, .int 0, .int 0]))] := hD
  refine lv_aload_n hx hb dX5_prepare_57 rfl (lv_at hl 0 rfl) ?_
  refine lv_iconst (v := 1) hx hb dX5_prepare_58 (by decide) ?_
  refine va_put (D := D) (ci := 5) (v := .int 1) (ty := .boolean) (C := RX5) (T := TX5) (N := 5) hx hb hts (by decide +kernel) tyX5 tyX5_ok nmX5 hown hK hP hD hS 0 rfl rfl 4 (by decide) (hts (.fieldLink RX5 41 "JoinDesk" "prepared" "Z") (by decide +kernel)) (fun _ h9 => h9) rfl (by decide +kernel) rfl rfl (Nat.le_of_ble_eq_true rfl) dX5_prepare_59 (fun H locs hP hD hS => ?_)
  have hP : va_P D vwCl [(h0, .inr (5, [.ref tl, .ref tr, .ref cu, .ref bk, .int 1])), (tl, .inr (4, [.int (nI a), .ref lk, .ref lv, .ref lo, .ref lp, .ref ll, .ref lf, .int 0, .int 0])), (tr, .inr (4, [.int (nI b), .ref rk, .ref rv, .ref ro, .ref rp, .ref rl, .ref rf, .int 0, .int 0])), (he, .inr (2, [.int 0, .int 0, .int 0, .int 0, .int (-1), .int (-1), .int 0])), (cu, .inr (0, [.ref tl, .ref tr, .ref he, .ref ma, .int 0, .int 0, .long 0])), (bk, .inr (1, [.int (nI g), .ref fa, .ref s1, .ref s2, .int 0, .int 0]))] H := hP
  have hD : va_D A [(h0, .inr (5, [.ref tl, .ref tr, .ref cu, .ref bk, .int 1])), (tl, .inr (4, [.int (nI a), .ref lk, .ref lv, .ref lo, .ref lp, .ref ll, .ref lf, .int 0, .int 0])), (tr, .inr (4, [.int (nI b), .ref rk, .ref rv, .ref ro, .ref rp, .ref rl, .ref rf, .int 0, .int 0])), (he, .inr (2, [.int 0, .int 0, .int 0, .int 0, .int (-1), .int (-1), .int 0])), (cu, .inr (0, [.ref tl, .ref tr, .ref he, .ref ma, .int 0, .int 0, .long 0])), (bk, .inr (1, [.int (nI g), .ref fa, .ref s1, .ref s2, .int 0, .int 0]))] := hD
  have hP := hP.sub (ws' := [(h0, .inr (5, [.ref tl, .ref tr, .ref cu, .ref bk, .int 1])), (tl, .inr (4, [.int (nI a), .ref lk, .ref lv, .ref lo, .ref lp, .ref ll, .ref lf, .int 0, .int 0])), (tr, .inr (4, [.int (nI b), .ref rk, .ref rv, .ref ro, .ref rp, .ref rl, .ref rf, .int 0, .int 0])), (cu, .inr (0, [.ref tl, .ref tr, .ref he, .ref ma, .int 0, .int 0, .long 0])), (he, .inr (2, [.int 0, .int 0, .int 0, .int 0, .int (-1), .int (-1), .int 0])), (bk, .inr (1, [.int (nI g), .ref fa, .ref s1, .ref s2, .int 0, .int 0]))]) [0, 1, 2, 4, 3, 5] rfl
  have hD := hD.sub (ws' := [(h0, .inr (5, [.ref tl, .ref tr, .ref cu, .ref bk, .int 1])), (tl, .inr (4, [.int (nI a), .ref lk, .ref lv, .ref lo, .ref lp, .ref ll, .ref lf, .int 0, .int 0])), (tr, .inr (4, [.int (nI b), .ref rk, .ref rv, .ref ro, .ref rp, .ref rl, .ref rf, .int 0, .int 0])), (cu, .inr (0, [.ref tl, .ref tr, .ref he, .ref ma, .int 0, .int 0, .long 0])), (he, .inr (2, [.int 0, .int 0, .int 0, .int 0, .int (-1), .int (-1), .int 0])), (bk, .inr (1, [.int (nI g), .ref fa, .ref s1, .ref s2, .int 0, .int 0]))]) [0, 1, 2, 4, 3, 5] (by decide) rfl
  refine W.widen (k := 0) (n := 0) (by omega) (by omega) ?_
  exact W.vret hx hb hr (fun t ht hW => ⟨⟨[(h0, .inr (5, [.ref tl, .ref tr, .ref cu, .ref bk, .int 1])), (tl, .inr (4, [.int (nI a), .ref lk, .ref lv, .ref lo, .ref lp, .ref ll, .ref lf, .int 0, .int 0])), (tr, .inr (4, [.int (nI b), .ref rk, .ref rv, .ref ro, .ref rp, .ref rl, .ref rf, .int 0, .int 0])), (cu, .inr (0, [.ref tl, .ref tr, .ref he, .ref ma, .int 0, .int 0, .long 0])), (he, .inr (2, [.int 0, .int 0, .int 0, .int 0, .int (-1), .int (-1), .int 0])), (bk, .inr (1, [.int (nI g), .ref fa, .ref s1, .ref s2, .int 0, .int 0]))], rfl, (by exact rfl), by rw [ht]; exact hP, hD⟩, hS.F ht⟩) hS.2.2 dX5_prepare_62
set_option maxHeartbeats 1000000 in
set_option maxRecDepth 100000 in
theorem cJ_kind (l : Launch) (D : va_G) (cI cL cQ : ClassId) (h0 : Nat) (tl : Nat) (tr : Nat) (cu : Nat) (bk : Nat) (he : Nat) (ma : Nat) (x : Int32) (sz : Nat) (h1 : ¬ x < 0) (h2 : ¬ 4 ≤ x) : Met l yX5_kind wsX5_kind ({ frames := 2, cells := 0, slots := 0, locals := 43 }) (jw_P D vwCl (jT cI cL cQ) cL cQ [.ref h0, .int x] [(h0, .inr (5, [.ref tl, .ref tr, .ref cu, .ref bk, .int 0])), (cu, .inr (0, [.ref tl, .ref tr, .ref he, .ref ma, .int 0, .int 0, .long 0])), (he, .inr (2, [.int 0, .int 0, .int 0, .int 0, .int (-1), .int (-1), .int 0]))] sz) (va_Qv (fun u : va_W => u = [(h0, .inr (5, [.ref tl, .ref tr, .ref cu, .ref bk, .int 0])), (cu, .inr (0, [.ref tl, .ref tr, .ref he, .ref ma, .int 0, .int x, .long 0])), (he, .inr (2, [.int 0, .int 0, .int 0, .int 0, .int (-1), .int (-1), .int 0]))]) (jw_B D vwCl (va_A [(h0, .inr (5, [.ref tl, .ref tr, .ref cu, .ref bk, .int 0])), (cu, .inr (0, [.ref tl, .ref tr, .ref he, .ref ma, .int 0, .int 0, .long 0])), (he, .inr (2, [.int 0, .int 0, .int 0, .int 0, .int (-1), .int (-1), .int 0]))] sz) (fun u : va_W => u)) (va_A [(h0, .inr (5, [.ref tl, .ref tr, .ref cu, .ref bk, .int 0])), (cu, .inr (0, [.ref tl, .ref tr, .ref he, .ref ma, .int 0, .int 0, .long 0])), (he, .inr (2, [.int 0, .int 0, .int 0, .int 0, .int (-1), .int (-1), .int 0]))] sz)) 0 0 (va_A [(h0, .inr (5, [.ref tl, .ref tr, .ref cu, .ref bk, .int 0])), (cu, .inr (0, [.ref tl, .ref tr, .ref he, .ref ma, .int 0, .int 0, .long 0])), (he, .inr (2, [.int 0, .int 0, .int 0, .int 0, .int (-1), .int (-1), .int 0]))] sz) := by
  refine Met.ofW (cc := cX5_kind) (maxL := 2) (ret := none) (by decide) rfl ?_
  intro p e s m args below meth c s₁ B hml hv
  obtain ⟨rfl, hsz, hP, hK, hN, hD0⟩ := hv
  have hx := B.exec
  have hb := B.bytes
  have hr := B.returns
  have hts := atoms_spec (ws := wsX5_kind) B.pre
  have hown : s.vm.findClass RX5 = some m.cls := findClass_of_methodNamed B.named
  have hlocks := B.notSynchronized
  subst hsz
  have hD := hD0.self (sz := s.heap.size)
  generalize hAe : va_A [(h0, .inr (5, [.ref tl, .ref tr, .ref cu, .ref bk, .int 0])), (cu, .inr (0, [.ref tl, .ref tr, .ref he, .ref ma, .int 0, .int 0, .long 0])), (he, .inr (2, [.int 0, .int 0, .int 0, .int 0, .int (-1), .int (-1), .int 0]))] s.heap.size = A at hD ⊢
  have hA : ∀ q : Nat, s.heap.size ≤ q → A q := fun q h => by rw [← hAe]; exact Or.inr h
  have hS : va_S A s.heap s.heap [] := va_S.rf
  have hl := lv_entry ([.ref h0, .int x]) (n := 2) (Nat.le_of_ble_eq_true rfl)
  rw [lg_entry_eq]
  generalize (lg_sl ([.ref h0, .int x]) ++ List.replicate (2 - (lg_sl ([.ref h0, .int x])).length) Slot.unset).toArray = ls at hl ⊢
  have hl : lv_has ls 2 [(0, .ref h0), (1, .int x)] := hl
  refine lv_iload_n hx hb dX5_kind_0 rfl (lv_at hl 1 rfl) ?_
  refine lv_iconst (v := 4) hx hb dX5_kind_1 (by decide) ?_
  refine vp_callSi (va_Run.run (va_runS (As := [.int x, .int 4]) (rest := []) ⟨hx, hb, hml, hown, hts⟩ (cJ_isBelow l D cI cL cQ x 4) (va_cwS 2 hts gX5_kind_X5_isBelow rfl rfl rfl (by decide +kernel) ⟨Nat.le_of_ble_eq_true rfl, Nat.le_of_ble_eq_true rfl⟩) (jr_S hK hN hP [] rfl) rfl rfl hl.1 rfl (lv_room (Nat.le_of_ble_eq_true rfl)) dX5_kind_2 ⟨Nat.le_of_ble_eq_true rfl, Nat.le_of_ble_eq_true rfl⟩)) (fun r f_1 => ?_)
  rcases f_1 with ⟨rfl, f_2, f_3⟩ | ⟨rfl, f_4⟩
  · refine va_csv (va_Run.run (va_runS (As := [.int 1]) (rest := []) ⟨hx, hb, hml, hown, hts⟩ (cJ_requireArgument_ok l D cI cL cQ) (va_cwS 1 hts gX5_kind_X5_requireArgument rfl rfl rfl (by decide +kernel) ⟨Nat.le_of_ble_eq_true rfl, Nat.le_of_ble_eq_true rfl⟩) (jr_S hK hN hP [] rfl) rfl rfl hl.1 rfl (lv_room (Nat.le_of_ble_eq_true rfl)) dX5_kind_5 ⟨Nat.le_of_ble_eq_true rfl, Nat.le_of_ble_eq_true rfl⟩)) (fun f_5 => ?_)
    refine lv_aload_n hx hb dX5_kind_8 rfl (lv_at hl 0 rfl) ?_
    refine va_get (D := D) (ci := 5) (v := .ref cu) (C := RX5) (T := TX5) (N := 5) hx hb hts (by decide +kernel) hown hK hP 0 rfl rfl 2 (by decide) (hts (.fieldLink RX5 30 "JoinDesk" "cursor" "LJoinDesk$Cursor;") (by decide +kernel)) (fun _ h9 => h9) rfl dX5_kind_9 ?_
    refine lv_iload_n hx hb dX5_kind_12 rfl (lv_at hl 1 rfl) ?_
    refine jw_v (wr := [(h0, .inr (5, [.ref tl, .ref tr, .ref cu, .ref bk, .int 0])), (he, .inr (2, [.int 0, .int 0, .int 0, .int 0, .int (-1), .int (-1), .int 0]))]) (va_runV (As := [.int x]) (rest := []) ⟨hx, hb, hml, hown, hts⟩ (cC_useKind l D cI cL cQ cu tl tr he ma 0 0 0 x _) (cwV 1 hts gX5_kind_X0_useKind rfl rfl rfl (by decide +kernel) ⟨Nat.le_of_ble_eq_true rfl, Nat.le_of_ble_eq_true rfl⟩) (jw_V hK hN hP hD [1] (by decide) rfl 0 1 rfl rfl rfl) rfl rfl hl.1 rfl (lv_room (Nat.le_of_ble_eq_true rfl)) dX5_kind_13 ⟨Nat.le_of_ble_eq_true rfl, Nat.le_of_ble_eq_true rfl⟩) hP hD hS hA [1] [0, 2] rfl rfl (by decide) (by decide) (fun u H locs f_6 hP hD hS => ?_)
    obtain rfl := f_6
    have hP : va_P D vwCl [(h0, .inr (5, [.ref tl, .ref tr, .ref cu, .ref bk, .int 0])), (he, .inr (2, [.int 0, .int 0, .int 0, .int 0, .int (-1), .int (-1), .int 0])), (cu, .inr (0, [.ref tl, .ref tr, .ref he, .ref ma, .int 0, .int x, .long 0]))] H := hP
    have hD : va_D A [(h0, .inr (5, [.ref tl, .ref tr, .ref cu, .ref bk, .int 0])), (he, .inr (2, [.int 0, .int 0, .int 0, .int 0, .int (-1), .int (-1), .int 0])), (cu, .inr (0, [.ref tl, .ref tr, .ref he, .ref ma, .int 0, .int x, .long 0]))] := hD
    refine lv_aload_n hx hb dX5_kind_16 rfl (lv_at hl 0 rfl) ?_
    refine va_get (D := D) (ci := 5) (v := .ref cu) (C := RX5) (T := TX5) (N := 5) hx hb hts (by decide +kernel) hown hK hP 0 rfl rfl 2 (by decide) (hts (.fieldLink RX5 30 "JoinDesk" "cursor" "LJoinDesk$Cursor;") (by decide +kernel)) (fun _ h9 => h9) rfl dX5_kind_17 ?_
    refine jw_v (wr := [(h0, .inr (5, [.ref tl, .ref tr, .ref cu, .ref bk, .int 0]))]) (va_runV (As := []) (rest := []) ⟨hx, hb, hml, hown, hts⟩ (cC_restart l D cI cL cQ cu tl tr he ma 0 x 0 0 0 0 0 (-1) (-1) 0 _) (cwV 0 hts gX5_kind_X0_restart rfl rfl rfl (by decide +kernel) ⟨Nat.le_of_ble_eq_true rfl, Nat.le_of_ble_eq_true rfl⟩) (jw_V hK hN hP hD [2, 1] (by decide) rfl 0 2 rfl rfl rfl) rfl rfl hl.1 rfl (lv_room (Nat.le_of_ble_eq_true rfl)) dX5_kind_20 ⟨Nat.le_of_ble_eq_true rfl, Nat.le_of_ble_eq_true rfl⟩) hP hD hS hA [2, 1] [0] rfl rfl (by decide) (by decide) (fun u H locs f_7 hP hD hS => ?_)
    obtain rfl := f_7
    have hP : va_P D vwCl [(h0, .inr (5, [.ref tl, .ref tr, .ref cu, .ref bk, .int 0])), (cu, .inr (0, [.ref tl, .ref tr, .ref he, .ref ma, .int 0, .int x, .long 0])), (he, .inr (2, [.int 0, .int 0, .int 0, .int 0, .int (-1), .int (-1), .int 0]))] H := hP
    have hD : va_D A [(h0, .inr (5, [.ref tl, .ref tr, .ref cu, .ref bk, .int 0])), (cu, .inr (0, [.ref tl, .ref tr, .ref he, .ref ma, .int 0, .int x, .long 0])), (he, .inr (2, [.int 0, .int 0, .int 0, .int 0, .int (-1), .int (-1), .int 0]))] := hD
    refine lv_aload_n hx hb dX5_kind_23 rfl (lv_at hl 0 rfl) ?_
    refine va_get (D := D) (ci := 5) (v := .ref cu) (C := RX5) (T := TX5) (N := 5) hx hb hts (by decide +kernel) hown hK hP 0 rfl rfl 2 (by decide) (hts (.fieldLink RX5 30 "JoinDesk" "cursor" "LJoinDesk$Cursor;") (by decide +kernel)) (fun _ h9 => h9) rfl dX5_kind_24 ?_
    refine jw_v (wr := [(h0, .inr (5, [.ref tl, .ref tr, .ref cu, .ref bk, .int 0])), (he, .inr (2, [.int 0, .int 0, .int 0, .int 0, .int (-1), .int (-1), .int 0]))]) (va_runV (As := []) (rest := []) ⟨hx, hb, hml, hown, hts⟩ (cC_forgetMark l D cI cL cQ cu tl tr he ma 0 x 0 _) (cwV 0 hts gX5_kind_X0_forgetMark rfl rfl rfl (by decide +kernel) ⟨Nat.le_of_ble_eq_true rfl, Nat.le_of_ble_eq_true rfl⟩) (jw_V hK hN hP hD [1] (by decide) rfl 0 1 rfl rfl rfl) rfl rfl hl.1 rfl (lv_room (Nat.le_of_ble_eq_true rfl)) dX5_kind_27 ⟨Nat.le_of_ble_eq_true rfl, Nat.le_of_ble_eq_true rfl⟩) hP hD hS hA [1] [0, 2] rfl rfl (by decide) (by decide) (fun u H locs f_8 hP hD hS => ?_)
    obtain rfl := f_8
    have hP : va_P D vwCl [(h0, .inr (5, [.ref tl, .ref tr, .ref cu, .ref bk, .int 0])), (he, .inr (2, [.int 0, .int 0, .int 0, .int 0, .int (-1), .int (-1), .int 0])), (cu, .inr (0, [.ref tl, .ref tr, .ref he, .ref ma, .int 0, .int x, .long 0]))] H := hP
    have hD : va_D A [(h0, .inr (5, [.ref tl, .ref tr, .ref cu, .ref bk, .int 0])), (he, .inr (2, [.int 0, .int 0, .int 0, .int 0, .int (-1), .int (-1), .int 0])), (cu, .inr (0, [.ref tl, .ref tr, .ref he, .ref ma, .int 0, .int x, .long 0]))] := hD
    have hP := hP.sub (ws' := [(h0, .inr (5, [.ref tl, .ref tr, .ref cu, .ref bk, .int 0])), (cu, .inr (0, [.ref tl, .ref tr, .ref he, .ref ma, .int 0, .int x, .long 0])), (he, .inr (2, [.int 0, .int 0, .int 0, .int 0, .int (-1), .int (-1), .int 0]))]) [0, 2, 1] rfl
    have hD := hD.sub (ws' := [(h0, .inr (5, [.ref tl, .ref tr, .ref cu, .ref bk, .int 0])), (cu, .inr (0, [.ref tl, .ref tr, .ref he, .ref ma, .int 0, .int x, .long 0])), (he, .inr (2, [.int 0, .int 0, .int 0, .int 0, .int (-1), .int (-1), .int 0]))]) [0, 2, 1] (by decide) rfl
    refine W.widen (k := 0) (n := 0) (by omega) (by omega) ?_
    exact W.vret hx hb hr (fun t ht hW => ⟨⟨[(h0, .inr (5, [.ref tl, .ref tr, .ref cu, .ref bk, .int 0])), (cu, .inr (0, [.ref tl, .ref tr, .ref he, .ref ma, .int 0, .int x, .long 0])), (he, .inr (2, [.int 0, .int 0, .int 0, .int 0, .int (-1), .int (-1), .int 0]))], rfl, (by exact rfl), by rw [ht]; exact hP, hD⟩, hS.F ht⟩) hS.2.2 dX5_kind_30
  · exact False.elim (f_4.elim h1 h2)
set_option maxHeartbeats 1000000 in
set_option maxRecDepth 100000 in
theorem cJ_kind_t (l : Launch) (hnt : l.stackTraces = false) (D : va_G) (cI cL cQ : ClassId) (h0 : Nat) (tl : Nat) (tr : Nat) (cu : Nat) (bk : Nat) (x : Int32) (h1 : x < 0 ∨ 4 ≤ x) : vx_Met l yX5_kind wsX5_kind ({ frames := 7, cells := 1, slots := 6, locals := 102 }) (jt_P D vwCl (jT cI cL cQ) cL cQ [.ref h0, .int x] [(h0, .inr (5, [.ref tl, .ref tr, .ref cu, .ref bk, .int 0]))]) (fun _ _ _ _ => False) (jx_X "java/lang/IllegalArgumentException") 1 6 (fun _ => False) := by
  refine vx_ofW (cc := cX5_kind) (maxL := 2) (ret := none) (by decide) rfl ?_
  intro p e s m args below meth c s₁ B hml hxt hv
  obtain ⟨rfl, hP, hK, hN, hZ⟩ := hv
  have hx := B.exec
  have hb := B.bytes
  have hr := B.returns
  have hts := atoms_spec (ws := wsX5_kind) B.pre
  have hown : s.vm.findClass RX5 = some m.cls := findClass_of_methodNamed B.named
  have hlocks := B.notSynchronized
  have hl := lv_entry ([.ref h0, .int x]) (n := 2) (Nat.le_of_ble_eq_true rfl)
  rw [lg_entry_eq]
  generalize (lg_sl ([.ref h0, .int x]) ++ List.replicate (2 - (lg_sl ([.ref h0, .int x])).length) Slot.unset).toArray = ls at hl ⊢
  have hl : lv_has ls 2 [(0, .ref h0), (1, .int x)] := hl
  refine lv_iload_n hx hb dX5_kind_0 rfl (lv_at hl 1 rfl) ?_
  refine lv_iconst (v := 4) hx hb dX5_kind_1 (by decide) ?_
  refine vp_callSi (va_Run.run (va_runS (As := [.int x, .int 4]) (rest := []) ⟨hx, hb, hml, hown, hts⟩ (cJ_isBelow l D cI cL cQ x 4) (va_cwS 2 hts gX5_kind_X5_isBelow rfl rfl rfl (by decide +kernel) ⟨Nat.le_of_ble_eq_true rfl, Nat.le_of_ble_eq_true rfl⟩) (jr_S hK hN hP [] rfl) rfl rfl hl.1 rfl (lv_room (Nat.le_of_ble_eq_true rfl)) dX5_kind_2 ⟨Nat.le_of_ble_eq_true rfl, Nat.le_of_ble_eq_true rfl⟩)) (fun r f_1 => ?_)
  rcases f_1 with ⟨rfl, f_2, f_3⟩ | ⟨rfl, f_4⟩
  · exact False.elim (h1.elim f_2 f_3)
  · refine jx_thr (vx_runS (As := [.int 0]) (rest := []) ⟨hx, hb, hml, hown, hts⟩ (cJ_requireArgument_t l hnt D cI cL cQ) (va_cwS 1 hts gX5_kind_X5_requireArgument rfl rfl rfl (by decide +kernel) ⟨Nat.le_of_ble_eq_true rfl, Nat.le_of_ble_eq_true rfl⟩) (jt_S hK hN hZ hP [] rfl) rfl rfl hl.1 rfl (lv_room (Nat.le_of_ble_eq_true rfl)) dX5_kind_5 ⟨Nat.le_of_ble_eq_true rfl, Nat.le_of_ble_eq_true rfl⟩) (fun ce q9 H1 hz hk hce hcv hcl => ?_)
    exact jx_out hxt hlocks hz hk hce hcv hcl (Nat.le_of_ble_eq_true rfl) (Nat.le_of_ble_eq_true rfl)
set_option maxHeartbeats 1000000 in
set_option maxRecDepth 100000 in
theorem cJ_next_t (l : Launch) (hnt : l.stackTraces = false) (D : va_G) (cI cL cQ : ClassId) (h0 : Nat) (tl : Nat) (tr : Nat) (cu : Nat) (bk : Nat) : vx_Met l yX5_next wsX5_next ({ frames := 7, cells := 1, slots := 6, locals := 102 }) (jt_P D vwCl (jT cI cL cQ) cL cQ [.ref h0] [(h0, .inr (5, [.ref tl, .ref tr, .ref cu, .ref bk, .int 0]))]) (fun _ _ _ _ => False) (jx_X "java/lang/IllegalStateException") 1 6 (fun _ => False) := by
  refine vx_ofW (cc := cX5_next) (maxL := 1) (ret := (some .boolean)) (by decide) rfl ?_
  intro p e s m args below meth c s₁ B hml hxt hv
  obtain ⟨rfl, hP, hK, hN, hZ⟩ := hv
  have hx := B.exec
  have hb := B.bytes
  have hr := B.returns
  have hts := atoms_spec (ws := wsX5_next) B.pre
  have hown : s.vm.findClass RX5 = some m.cls := findClass_of_methodNamed B.named
  have hlocks := B.notSynchronized
  have hl := lv_entry ([.ref h0]) (n := 1) (Nat.le_of_ble_eq_true rfl)
  rw [lg_entry_eq]
  generalize (lg_sl ([.ref h0]) ++ List.replicate (1 - (lg_sl ([.ref h0])).length) Slot.unset).toArray = ls at hl ⊢
  have hl : lv_has ls 1 [(0, .ref h0)] := hl
  refine lv_aload_n hx hb dX5_next_0 rfl (lv_at hl 0 rfl) ?_
  refine va_get (D := D) (ci := 5) (v := .int 0) (C := RX5) (T := TX5) (N := 5) hx hb hts (by decide +kernel) hown hK hP 0 rfl rfl 4 (by decide) (hts (.fieldLink RX5 41 "JoinDesk" "prepared" "Z") (by decide +kernel)) (fun _ h9 => h9) rfl dX5_next_1 ?_
  refine jx_thr (vx_runS (As := [.int 0]) (rest := []) ⟨hx, hb, hml, hown, hts⟩ (cJ_requireState_t l hnt D cI cL cQ) (va_cwS 1 hts gX5_next_X5_requireState rfl rfl rfl (by decide +kernel) ⟨Nat.le_of_ble_eq_true rfl, Nat.le_of_ble_eq_true rfl⟩) (jt_S hK hN hZ hP [] rfl) rfl rfl hl.1 rfl (lv_room (Nat.le_of_ble_eq_true rfl)) dX5_next_4 ⟨Nat.le_of_ble_eq_true rfl, Nat.le_of_ble_eq_true rfl⟩) (fun ce q9 H1 hz hk hce hcv hcl => ?_)
  exact jx_out hxt hlocks hz hk hce hcv hcl (Nat.le_of_ble_eq_true rfl) (Nat.le_of_ble_eq_true rfl)
set_option maxHeartbeats 1000000 in
set_option maxRecDepth 100000 in
theorem cJ_mark_t (l : Launch) (hnt : l.stackTraces = false) (D : va_G) (cI cL cQ : ClassId) (h0 : Nat) (tl : Nat) (tr : Nat) (cu : Nat) (bk : Nat) : vx_Met l yX5_mark wsX5_mark ({ frames := 7, cells := 1, slots := 6, locals := 102 }) (jt_P D vwCl (jT cI cL cQ) cL cQ [.ref h0] [(h0, .inr (5, [.ref tl, .ref tr, .ref cu, .ref bk, .int 0]))]) (fun _ _ _ _ => False) (jx_X "java/lang/IllegalStateException") 1 6 (fun _ => False) := by
  refine vx_ofW (cc := cX5_mark) (maxL := 1) (ret := (some .int)) (by decide) rfl ?_
  intro p e s m args below meth c s₁ B hml hxt hv
  obtain ⟨rfl, hP, hK, hN, hZ⟩ := hv
  have hx := B.exec
  have hb := B.bytes
  have hr := B.returns
  have hts := atoms_spec (ws := wsX5_mark) B.pre
  have hown : s.vm.findClass RX5 = some m.cls := findClass_of_methodNamed B.named
  have hlocks := B.notSynchronized
  have hl := lv_entry ([.ref h0]) (n := 1) (Nat.le_of_ble_eq_true rfl)
  rw [lg_entry_eq]
  generalize (lg_sl ([.ref h0]) ++ List.replicate (1 - (lg_sl ([.ref h0])).length) Slot.unset).toArray = ls at hl ⊢
  have hl : lv_has ls 1 [(0, .ref h0)] := hl
  refine lv_aload_n hx hb dX5_mark_0 rfl (lv_at hl 0 rfl) ?_
  refine va_get (D := D) (ci := 5) (v := .int 0) (C := RX5) (T := TX5) (N := 5) hx hb hts (by decide +kernel) hown hK hP 0 rfl rfl 4 (by decide) (hts (.fieldLink RX5 41 "JoinDesk" "prepared" "Z") (by decide +kernel)) (fun _ h9 => h9) rfl dX5_mark_1 ?_
  refine jx_thr (vx_runS (As := [.int 0]) (rest := []) ⟨hx, hb, hml, hown, hts⟩ (cJ_requireState_t l hnt D cI cL cQ) (va_cwS 1 hts gX5_mark_X5_requireState rfl rfl rfl (by decide +kernel) ⟨Nat.le_of_ble_eq_true rfl, Nat.le_of_ble_eq_true rfl⟩) (jt_S hK hN hZ hP [] rfl) rfl rfl hl.1 rfl (lv_room (Nat.le_of_ble_eq_true rfl)) dX5_mark_4 ⟨Nat.le_of_ble_eq_true rfl, Nat.le_of_ble_eq_true rfl⟩) (fun ce q9 H1 hz hk hce hcv hcl => ?_)
  exact jx_out hxt hlocks hz hk hce hcv hcl (Nat.le_of_ble_eq_true rfl) (Nat.le_of_ble_eq_true rfl)
set_option maxHeartbeats 1000000 in
set_option maxRecDepth 100000 in
theorem cJ_back_t (l : Launch) (hnt : l.stackTraces = false) (D : va_G) (cI cL cQ : ClassId) (h0 : Nat) (tl : Nat) (tr : Nat) (cu : Nat) (bk : Nat) : vx_Met l yX5_back wsX5_back ({ frames := 7, cells := 1, slots := 6, locals := 102 }) (jt_P D vwCl (jT cI cL cQ) cL cQ [.ref h0] [(h0, .inr (5, [.ref tl, .ref tr, .ref cu, .ref bk, .int 0]))]) (fun _ _ _ _ => False) (jx_X "java/lang/IllegalStateException") 1 6 (fun _ => False) := by
  refine vx_ofW (cc := cX5_back) (maxL := 1) (ret := (some .int)) (by decide) rfl ?_
  intro p e s m args below meth c s₁ B hml hxt hv
  obtain ⟨rfl, hP, hK, hN, hZ⟩ := hv
  have hx := B.exec
  have hb := B.bytes
  have hr := B.returns
  have hts := atoms_spec (ws := wsX5_back) B.pre
  have hown : s.vm.findClass RX5 = some m.cls := findClass_of_methodNamed B.named
  have hlocks := B.notSynchronized
  have hl := lv_entry ([.ref h0]) (n := 1) (Nat.le_of_ble_eq_true rfl)
  rw [lg_entry_eq]
  generalize (lg_sl ([.ref h0]) ++ List.replicate (1 - (lg_sl ([.ref h0])).length) Slot.unset).toArray = ls at hl ⊢
  have hl : lv_has ls 1 [(0, .ref h0)] := hl
  refine lv_aload_n hx hb dX5_back_0 rfl (lv_at hl 0 rfl) ?_
  refine va_get (D := D) (ci := 5) (v := .int 0) (C := RX5) (T := TX5) (N := 5) hx hb hts (by decide +kernel) hown hK hP 0 rfl rfl 4 (by decide) (hts (.fieldLink RX5 41 "JoinDesk" "prepared" "Z") (by decide +kernel)) (fun _ h9 => h9) rfl dX5_back_1 ?_
  refine lv_if_eq (tgt := 21) hx hb dX5_back_4 (by decide) (fun c_1 => ?_) (fun c_1 => absurd c_1 (by decide))
  refine lv_iconst (v := 0) hx hb dX5_back_21 (by decide) ?_
  refine jx_thr (vx_runS (As := [.int 0]) (rest := []) ⟨hx, hb, hml, hown, hts⟩ (cJ_requireState_t l hnt D cI cL cQ) (va_cwS 1 hts gX5_back_X5_requireState rfl rfl rfl (by decide +kernel) ⟨Nat.le_of_ble_eq_true rfl, Nat.le_of_ble_eq_true rfl⟩) (jt_S hK hN hZ hP [] rfl) rfl rfl hl.1 rfl (lv_room (Nat.le_of_ble_eq_true rfl)) dX5_back_22 ⟨Nat.le_of_ble_eq_true rfl, Nat.le_of_ble_eq_true rfl⟩) (fun ce q9 H1 hz hk hce hcv hcl => ?_)
  exact jx_out hxt hlocks hz hk hce hcv hcl (Nat.le_of_ble_eq_true rfl) (Nat.le_of_ble_eq_true rfl)
set_option maxHeartbeats 1000000 in
set_option maxRecDepth 100000 in
theorem cJ_seek_t (l : Launch) (hnt : l.stackTraces = false) (D : va_G) (cI cL cQ : ClassId) (h0 : Nat) (tl : Nat) (tr : Nat) (cu : Nat) (bk : Nat) (x : Int32) : vx_Met l yX5_seek wsX5_seek ({ frames := 7, cells := 1, slots := 6, locals := 102 }) (jt_P D vwCl (jT cI cL cQ) cL cQ [.ref h0, .int x] [(h0, .inr (5, [.ref tl, .ref tr, .ref cu, .ref bk, .int 0]))]) (fun _ _ _ _ => False) (jx_X "java/lang/IllegalStateException") 1 6 (fun _ => False) := by
  refine vx_ofW (cc := cX5_seek) (maxL := 2) (ret := (some .boolean)) (by decide) rfl ?_
  intro p e s m args below meth c s₁ B hml hxt hv
  obtain ⟨rfl, hP, hK, hN, hZ⟩ := hv
  have hx := B.exec
  have hb := B.bytes
  have hr := B.returns
  have hts := atoms_spec (ws := wsX5_seek) B.pre
  have hown : s.vm.findClass RX5 = some m.cls := findClass_of_methodNamed B.named
  have hlocks := B.notSynchronized
  have hl := lv_entry ([.ref h0, .int x]) (n := 2) (Nat.le_of_ble_eq_true rfl)
  rw [lg_entry_eq]
  generalize (lg_sl ([.ref h0, .int x]) ++ List.replicate (2 - (lg_sl ([.ref h0, .int x])).length) Slot.unset).toArray = ls at hl ⊢
  have hl : lv_has ls 2 [(0, .ref h0), (1, .int x)] := hl
  refine lv_aload_n hx hb dX5_seek_0 rfl (lv_at hl 0 rfl) ?_
  refine va_get (D := D) (ci := 5) (v := .int 0) (C := RX5) (T := TX5) (N := 5) hx hb hts (by decide +kernel) hown hK hP 0 rfl rfl 4 (by decide) (hts (.fieldLink RX5 41 "JoinDesk" "prepared" "Z") (by decide +kernel)) (fun _ h9 => h9) rfl dX5_seek_1 ?_
  refine jx_thr (vx_runS (As := [.int 0]) (rest := []) ⟨hx, hb, hml, hown, hts⟩ (cJ_requireState_t l hnt D cI cL cQ) (va_cwS 1 hts gX5_seek_X5_requireState rfl rfl rfl (by decide +kernel) ⟨Nat.le_of_ble_eq_true rfl, Nat.le_of_ble_eq_true rfl⟩) (jt_S hK hN hZ hP [] rfl) rfl rfl hl.1 rfl (lv_room (Nat.le_of_ble_eq_true rfl)) dX5_seek_4 ⟨Nat.le_of_ble_eq_true rfl, Nat.le_of_ble_eq_true rfl⟩) (fun ce q9 H1 hz hk hce hcv hcl => ?_)
  exact jx_out hxt hlocks hz hk hce hcv hcl (Nat.le_of_ble_eq_true rfl) (Nat.le_of_ble_eq_true rfl)
set_option maxHeartbeats 1000000 in
set_option maxRecDepth 100000 in
theorem cJ_rewind_t (l : Launch) (hnt : l.stackTraces = false) (D : va_G) (cI cL cQ : ClassId) (h0 : Nat) (tl : Nat) (tr : Nat) (cu : Nat) (bk : Nat) : vx_Met l yX5_rewind wsX5_rewind ({ frames := 7, cells := 1, slots := 6, locals := 102 }) (jt_P D vwCl (jT cI cL cQ) cL cQ [.ref h0] [(h0, .inr (5, [.ref tl, .ref tr, .ref cu, .ref bk, .int 0]))]) (fun _ _ _ _ => False) (jx_X "java/lang/IllegalStateException") 1 6 (fun _ => False) := by
  refine vx_ofW (cc := cX5_rewind) (maxL := 1) (ret := none) (by decide) rfl ?_
  intro p e s m args below meth c s₁ B hml hxt hv
  obtain ⟨rfl, hP, hK, hN, hZ⟩ := hv
  have hx := B.exec
  have hb := B.bytes
  have hr := B.returns
  have hts := atoms_spec (ws := wsX5_rewind) B.pre
  have hown : s.vm.findClass RX5 = some m.cls := findClass_of_methodNamed B.named
  have hlocks := B.notSynchronized
  have hl := lv_entry ([.ref h0]) (n := 1) (Nat.le_of_ble_eq_true rfl)
  rw [lg_entry_eq]
  generalize (lg_sl ([.ref h0]) ++ List.replicate (1 - (lg_sl ([.ref h0])).length) Slot.unset).toArray = ls at hl ⊢
  have hl : lv_has ls 1 [(0, .ref h0)] := hl
  refine lv_aload_n hx hb dX5_rewind_0 rfl (lv_at hl 0 rfl) ?_
  refine va_get (D := D) (ci := 5) (v := .int 0) (C := RX5) (T := TX5) (N := 5) hx hb hts (by decide +kernel) hown hK hP 0 rfl rfl 4 (by decide) (hts (.fieldLink RX5 41 "JoinDesk" "prepared" "Z") (by decide +kernel)) (fun _ h9 => h9) rfl dX5_rewind_1 ?_
  refine jx_thr (vx_runS (As := [.int 0]) (rest := []) ⟨hx, hb, hml, hown, hts⟩ (cJ_requireState_t l hnt D cI cL cQ) (va_cwS 1 hts gX5_rewind_X5_requireState rfl rfl rfl (by decide +kernel) ⟨Nat.le_of_ble_eq_true rfl, Nat.le_of_ble_eq_true rfl⟩) (jt_S hK hN hZ hP [] rfl) rfl rfl hl.1 rfl (lv_room (Nat.le_of_ble_eq_true rfl)) dX5_rewind_4 ⟨Nat.le_of_ble_eq_true rfl, Nat.le_of_ble_eq_true rfl⟩) (fun ce q9 H1 hz hk hce hcv hcl => ?_)
  exact jx_out hxt hlocks hz hk hce hcv hcl (Nat.le_of_ble_eq_true rfl) (Nat.le_of_ble_eq_true rfl)
set_option maxHeartbeats 1000000 in
set_option maxRecDepth 100000 in
theorem cJ_groups_t (l : Launch) (hnt : l.stackTraces = false) (D : va_G) (cI cL cQ : ClassId) (h0 : Nat) (tl : Nat) (tr : Nat) (cu : Nat) (bk : Nat) : vx_Met l yX5_groups wsX5_groups ({ frames := 7, cells := 1, slots := 6, locals := 102 }) (jt_P D vwCl (jT cI cL cQ) cL cQ [.ref h0] [(h0, .inr (5, [.ref tl, .ref tr, .ref cu, .ref bk, .int 0]))]) (fun _ _ _ _ => False) (jx_X "java/lang/IllegalStateException") 1 6 (fun _ => False) := by
  refine vx_ofW (cc := cX5_groups) (maxL := 1) (ret := (some .int)) (by decide) rfl ?_
  intro p e s m args below meth c s₁ B hml hxt hv
  obtain ⟨rfl, hP, hK, hN, hZ⟩ := hv
  have hx := B.exec
  have hb := B.bytes
  have hr := B.returns
  have hts := atoms_spec (ws := wsX5_groups) B.pre
  have hown : s.vm.findClass RX5 = some m.cls := findClass_of_methodNamed B.named
  have hlocks := B.notSynchronized
  have hl := lv_entry ([.ref h0]) (n := 1) (Nat.le_of_ble_eq_true rfl)
  rw [lg_entry_eq]
  generalize (lg_sl ([.ref h0]) ++ List.replicate (1 - (lg_sl ([.ref h0])).length) Slot.unset).toArray = ls at hl ⊢
  have hl : lv_has ls 1 [(0, .ref h0)] := hl
  refine lv_aload_n hx hb dX5_groups_0 rfl (lv_at hl 0 rfl) ?_
  refine va_get (D := D) (ci := 5) (v := .int 0) (C := RX5) (T := TX5) (N := 5) hx hb hts (by decide +kernel) hown hK hP 0 rfl rfl 4 (by decide) (hts (.fieldLink RX5 41 "JoinDesk" "prepared" "Z") (by decide +kernel)) (fun _ h9 => h9) rfl dX5_groups_1 ?_
  refine jx_thr (vx_runS (As := [.int 0]) (rest := []) ⟨hx, hb, hml, hown, hts⟩ (cJ_requireState_t l hnt D cI cL cQ) (va_cwS 1 hts gX5_groups_X5_requireState rfl rfl rfl (by decide +kernel) ⟨Nat.le_of_ble_eq_true rfl, Nat.le_of_ble_eq_true rfl⟩) (jt_S hK hN hZ hP [] rfl) rfl rfl hl.1 rfl (lv_room (Nat.le_of_ble_eq_true rfl)) dX5_groups_4 ⟨Nat.le_of_ble_eq_true rfl, Nat.le_of_ble_eq_true rfl⟩) (fun ce q9 H1 hz hk hce hcv hcl => ?_)
  exact jx_out hxt hlocks hz hk hce hcv hcl (Nat.le_of_ble_eq_true rfl) (Nat.le_of_ble_eq_true rfl)
set_option maxHeartbeats 1000000 in
set_option maxRecDepth 100000 in
theorem cJ_rows_t (l : Launch) (hnt : l.stackTraces = false) (D : va_G) (cI cL cQ : ClassId) (h0 : Nat) (tl : Nat) (tr : Nat) (cu : Nat) (bk : Nat) (x : Int32) (y : Int32) : vx_Met l yX5_rows wsX5_rows ({ frames := 7, cells := 1, slots := 6, locals := 102 }) (jt_P D vwCl (jT cI cL cQ) cL cQ [.ref h0, .int x, .int y] [(h0, .inr (5, [.ref tl, .ref tr, .ref cu, .ref bk, .int 0]))]) (fun _ _ _ _ => False) (jx_X "java/lang/IllegalStateException") 1 6 (fun _ => False) := by
  refine vx_ofW (cc := cX5_rows) (maxL := 5) (ret := (some .int)) (by decide) rfl ?_
  intro p e s m args below meth c s₁ B hml hxt hv
  obtain ⟨rfl, hP, hK, hN, hZ⟩ := hv
  have hx := B.exec
  have hb := B.bytes
  have hr := B.returns
  have hts := atoms_spec (ws := wsX5_rows) B.pre
  have hown : s.vm.findClass RX5 = some m.cls := findClass_of_methodNamed B.named
  have hlocks := B.notSynchronized
  have hl := lv_entry ([.ref h0, .int x, .int y]) (n := 5) (Nat.le_of_ble_eq_true rfl)
  rw [lg_entry_eq]
  generalize (lg_sl ([.ref h0, .int x, .int y]) ++ List.replicate (5 - (lg_sl ([.ref h0, .int x, .int y])).length) Slot.unset).toArray = ls at hl ⊢
  have hl : lv_has ls 5 [(0, .ref h0), (1, .int x), (2, .int y)] := hl
  refine lv_aload_n hx hb dX5_rows_0 rfl (lv_at hl 0 rfl) ?_
  refine va_get (D := D) (ci := 5) (v := .int 0) (C := RX5) (T := TX5) (N := 5) hx hb hts (by decide +kernel) hown hK hP 0 rfl rfl 4 (by decide) (hts (.fieldLink RX5 41 "JoinDesk" "prepared" "Z") (by decide +kernel)) (fun _ h9 => h9) rfl dX5_rows_1 ?_
  refine jx_thr (vx_runS (As := [.int 0]) (rest := []) ⟨hx, hb, hml, hown, hts⟩ (cJ_requireState_t l hnt D cI cL cQ) (va_cwS 1 hts gX5_rows_X5_requireState rfl rfl rfl (by decide +kernel) ⟨Nat.le_of_ble_eq_true rfl, Nat.le_of_ble_eq_true rfl⟩) (jt_S hK hN hZ hP [] rfl) rfl rfl hl.1 rfl (lv_room (Nat.le_of_ble_eq_true rfl)) dX5_rows_4 ⟨Nat.le_of_ble_eq_true rfl, Nat.le_of_ble_eq_true rfl⟩) (fun ce q9 H1 hz hk hce hcv hcl => ?_)
  exact jx_out hxt hlocks hz hk hce hcv hcl (Nat.le_of_ble_eq_true rfl) (Nat.le_of_ble_eq_true rfl)
set_option maxHeartbeats 1000000 in
set_option maxRecDepth 100000 in
theorem cJ_count_a (l : Launch) (hnt : l.stackTraces = false) (D : va_G) (cI cL cQ : ClassId) (h0 : Nat) (tl : Nat) (tr : Nat) (cu : Nat) (bk : Nat) (x : Int32) (h1 : x < 0 ∨ 4 ≤ x) : vx_Met l yX5_count wsX5_count ({ frames := 7, cells := 1, slots := 6, locals := 102 }) (jt_P D vwCl (jT cI cL cQ) cL cQ [.ref h0, .int x] [(h0, .inr (5, [.ref tl, .ref tr, .ref cu, .ref bk, .int 0]))]) (fun _ _ _ _ => False) (jx_X "java/lang/IllegalArgumentException") 1 6 (fun _ => False) := by
  refine vx_ofW (cc := cX5_count) (maxL := 2) (ret := (some .long)) (by decide) rfl ?_
  intro p e s m args below meth c s₁ B hml hxt hv
  obtain ⟨rfl, hP, hK, hN, hZ⟩ := hv
  have hx := B.exec
  have hb := B.bytes
  have hr := B.returns
  have hts := atoms_spec (ws := wsX5_count) B.pre
  have hown : s.vm.findClass RX5 = some m.cls := findClass_of_methodNamed B.named
  have hlocks := B.notSynchronized
  have hl := lv_entry ([.ref h0, .int x]) (n := 2) (Nat.le_of_ble_eq_true rfl)
  rw [lg_entry_eq]
  generalize (lg_sl ([.ref h0, .int x]) ++ List.replicate (2 - (lg_sl ([.ref h0, .int x])).length) Slot.unset).toArray = ls at hl ⊢
  have hl : lv_has ls 2 [(0, .ref h0), (1, .int x)] := hl
  refine lv_iload_n hx hb dX5_count_0 rfl (lv_at hl 1 rfl) ?_
  refine lv_iconst (v := 4) hx hb dX5_count_1 (by decide) ?_
  refine vp_callSi (va_Run.run (va_runS (As := [.int x, .int 4]) (rest := []) ⟨hx, hb, hml, hown, hts⟩ (cJ_isBelow l D cI cL cQ x 4) (va_cwS 2 hts gX5_count_X5_isBelow rfl rfl rfl (by decide +kernel) ⟨Nat.le_of_ble_eq_true rfl, Nat.le_of_ble_eq_true rfl⟩) (jr_S hK hN hP [] rfl) rfl rfl hl.1 rfl (lv_room (Nat.le_of_ble_eq_true rfl)) dX5_count_2 ⟨Nat.le_of_ble_eq_true rfl, Nat.le_of_ble_eq_true rfl⟩)) (fun r f_1 => ?_)
  rcases f_1 with ⟨rfl, f_2, f_3⟩ | ⟨rfl, f_4⟩
  · exact False.elim (h1.elim f_2 f_3)
  · refine jx_thr (vx_runS (As := [.int 0]) (rest := []) ⟨hx, hb, hml, hown, hts⟩ (cJ_requireArgument_t l hnt D cI cL cQ) (va_cwS 1 hts gX5_count_X5_requireArgument rfl rfl rfl (by decide +kernel) ⟨Nat.le_of_ble_eq_true rfl, Nat.le_of_ble_eq_true rfl⟩) (jt_S hK hN hZ hP [] rfl) rfl rfl hl.1 rfl (lv_room (Nat.le_of_ble_eq_true rfl)) dX5_count_5 ⟨Nat.le_of_ble_eq_true rfl, Nat.le_of_ble_eq_true rfl⟩) (fun ce q9 H1 hz hk hce hcv hcl => ?_)
    exact jx_out hxt hlocks hz hk hce hcv hcl (Nat.le_of_ble_eq_true rfl) (Nat.le_of_ble_eq_true rfl)
set_option maxHeartbeats 1000000 in
set_option maxRecDepth 100000 in
theorem cJ_count_s (l : Launch) (hnt : l.stackTraces = false) (D : va_G) (cI cL cQ : ClassId) (h0 : Nat) (tl : Nat) (tr : Nat) (cu : Nat) (bk : Nat) (x : Int32) (h1 : ¬ x < 0) (h2 : ¬ 4 ≤ x) : vx_Met l yX5_count wsX5_count ({ frames := 7, cells := 1, slots := 6, locals := 102 }) (jt_P D vwCl (jT cI cL cQ) cL cQ [.ref h0, .int x] [(h0, .inr (5, [.ref tl, .ref tr, .ref cu, .ref bk, .int 0]))]) (fun _ _ _ _ => False) (jx_X "java/lang/IllegalStateException") 1 6 (fun _ => False) := by
  refine vx_ofW (cc := cX5_count) (maxL := 2) (ret := (some .long)) (by decide) rfl ?_
  intro p e s m args below meth c s₁ B hml hxt hv
  obtain ⟨rfl, hP, hK, hN, hZ⟩ := hv
  have hx := B.exec
  have hb := B.bytes
  have hr := B.returns
  have hts := atoms_spec (ws := wsX5_count) B.pre
  have hown : s.vm.findClass RX5 = some m.cls := findClass_of_methodNamed B.named
  have hlocks := B.notSynchronized
  have hl := lv_entry ([.ref h0, .int x]) (n := 2) (Nat.le_of_ble_eq_true rfl)
  rw [lg_entry_eq]
  generalize (lg_sl ([.ref h0, .int x]) ++ List.replicate (2 - (lg_sl ([.ref h0, .int x])).length) Slot.unset).toArray = ls at hl ⊢
  have hl : lv_has ls 2 [(0, .ref h0), (1, .int x)] := hl
  refine lv_iload_n hx hb dX5_count_0 rfl (lv_at hl 1 rfl) ?_
  refine lv_iconst (v := 4) hx hb dX5_count_1 (by decide) ?_
  refine vp_callSi (va_Run.run (va_runS (As := [.int x, .int 4]) (rest := []) ⟨hx, hb, hml, hown, hts⟩ (cJ_isBelow l D cI cL cQ x 4) (va_cwS 2 hts gX5_count_X5_isBelow rfl rfl rfl (by decide +kernel) ⟨Nat.le_of_ble_eq_true rfl, Nat.le_of_ble_eq_true rfl⟩) (jr_S hK hN hP [] rfl) rfl rfl hl.1 rfl (lv_room (Nat.le_of_ble_eq_true rfl)) dX5_count_2 ⟨Nat.le_of_ble_eq_true rfl, Nat.le_of_ble_eq_true rfl⟩)) (fun r f_1 => ?_)
  rcases f_1 with ⟨rfl, f_2, f_3⟩ | ⟨rfl, f_4⟩
  · refine va_csv (va_Run.run (va_runS (As := [.int 1]) (rest := []) ⟨hx, hb, hml, hown, hts⟩ (cJ_requireArgument_ok l D cI cL cQ) (va_cwS 1 hts gX5_count_X5_requireArgument rfl rfl rfl (by decide +kernel) ⟨Nat.le_of_ble_eq_true rfl, Nat.le_of_ble_eq_true rfl⟩) (jr_S hK hN hP [] rfl) rfl rfl hl.1 rfl (lv_room (Nat.le_of_ble_eq_true rfl)) dX5_count_5 ⟨Nat.le_of_ble_eq_true rfl, Nat.le_of_ble_eq_true rfl⟩)) (fun f_5 => ?_)
    refine lv_aload_n hx hb dX5_count_8 rfl (lv_at hl 0 rfl) ?_
    refine va_get (D := D) (ci := 5) (v := .int 0) (C := RX5) (T := TX5) (N := 5) hx hb hts (by decide +kernel) hown hK hP 0 rfl rfl 4 (by decide) (hts (.fieldLink RX5 41 "JoinDesk" "prepared" "Z") (by decide +kernel)) (fun _ h9 => h9) rfl dX5_count_9 ?_
    refine jx_thr (vx_runS (As := [.int 0]) (rest := []) ⟨hx, hb, hml, hown, hts⟩ (cJ_requireState_t l hnt D cI cL cQ) (va_cwS 1 hts gX5_count_X5_requireState rfl rfl rfl (by decide +kernel) ⟨Nat.le_of_ble_eq_true rfl, Nat.le_of_ble_eq_true rfl⟩) (jt_S hK hN hZ hP [] rfl) rfl rfl hl.1 rfl (lv_room (Nat.le_of_ble_eq_true rfl)) dX5_count_12 ⟨Nat.le_of_ble_eq_true rfl, Nat.le_of_ble_eq_true rfl⟩) (fun ce q9 H1 hz hk hce hcv hcl => ?_)
    exact jx_out hxt hlocks hz hk hce hcv hcl (Nat.le_of_ble_eq_true rfl) (Nat.le_of_ble_eq_true rfl)
  · exact False.elim (f_4.elim h1 h2)
set_option maxHeartbeats 1000000 in
set_option maxRecDepth 100000 in
theorem cJ_group_a (l : Launch) (hnt : l.stackTraces = false) (D : va_G) (cI cL cQ : ClassId) (h0 : Nat) (tl : Nat) (tr : Nat) (cu : Nat) (bk : Nat) (x : Int32) (y : Int32) (h1 : x < 0 ∨ (y < 0 ∨ 5 ≤ y)) : vx_Met l yX5_group wsX5_group ({ frames := 7, cells := 1, slots := 6, locals := 102 }) (jt_P D vwCl (jT cI cL cQ) cL cQ [.ref h0, .int x, .int y] [(h0, .inr (5, [.ref tl, .ref tr, .ref cu, .ref bk, .int 0]))]) (fun _ _ _ _ => False) (jx_X "java/lang/IllegalArgumentException") 1 6 (fun _ => False) := by
  refine vx_ofW (cc := cX5_group) (maxL := 4) (ret := (some .long)) (by decide) rfl ?_
  intro p e s m args below meth c s₁ B hml hxt hv
  obtain ⟨rfl, hP, hK, hN, hZ⟩ := hv
  have hx := B.exec
  have hb := B.bytes
  have hr := B.returns
  have hts := atoms_spec (ws := wsX5_group) B.pre
  have hown : s.vm.findClass RX5 = some m.cls := findClass_of_methodNamed B.named
  have hlocks := B.notSynchronized
  have hl := lv_entry ([.ref h0, .int x, .int y]) (n := 4) (Nat.le_of_ble_eq_true rfl)
  rw [lg_entry_eq]
  generalize (lg_sl ([.ref h0, .int x, .int y]) ++ List.replicate (4 - (lg_sl ([.ref h0, .int x, .int y])).length) Slot.unset).toArray = ls at hl ⊢
  have hl : lv_has ls 4 [(0, .ref h0), (1, .int x), (2, .int y)] := hl
  refine lv_aload_n hx hb dX5_group_0 rfl (lv_at hl 0 rfl) ?_
  refine va_get (D := D) (ci := 5) (v := .int 0) (C := RX5) (T := TX5) (N := 5) hx hb hts (by decide +kernel) hown hK hP 0 rfl rfl 4 (by decide) (hts (.fieldLink RX5 41 "JoinDesk" "prepared" "Z") (by decide +kernel)) (fun _ h9 => h9) rfl dX5_group_1 ?_
  refine lv_if_eq (tgt := 21) hx hb dX5_group_4 (by decide) (fun c_1 => ?_) (fun c_1 => absurd c_1 (by decide))
  refine lv_iconst (v := 0) hx hb dX5_group_21 (by decide) ?_
  refine lv_istore_n (lv' := [(3, .int 0), (0, .ref h0), (1, .int x), (2, .int y)]) hx hb dX5_group_22 rfl hl (by decide) rfl (fun ls hl => ?_)
  refine lv_iload_n hx hb dX5_group_23 rfl (lv_at hl 2 rfl) ?_
  refine lv_if_lt (tgt := 54) hx hb dX5_group_24 (by decide) (fun c_2 => ?_) (fun c_2 => ?_)
  · refine lv_iconst (v := 0) hx hb dX5_group_54 (by decide) ?_
    refine jx_thr (vx_runS (As := [.int 0]) (rest := []) ⟨hx, hb, hml, hown, hts⟩ (cJ_requireArgument_t l hnt D cI cL cQ) (va_cwS 1 hts gX5_group_X5_requireArgument rfl rfl rfl (by decide +kernel) ⟨Nat.le_of_ble_eq_true rfl, Nat.le_of_ble_eq_true rfl⟩) (jt_S hK hN hZ hP [] rfl) rfl rfl hl.1 rfl (lv_room (Nat.le_of_ble_eq_true rfl)) dX5_group_55 ⟨Nat.le_of_ble_eq_true rfl, Nat.le_of_ble_eq_true rfl⟩) (fun ce q9 H1 hz hk hce hcv hcl => ?_)
    exact jx_out hxt hlocks hz hk hce hcv hcl (Nat.le_of_ble_eq_true rfl) (Nat.le_of_ble_eq_true rfl)
  · refine lv_iload_n hx hb dX5_group_27 rfl (lv_at hl 0 rfl) ?_
    refine lv_if_eq (tgt := 42) hx hb dX5_group_28 (by decide) (fun c_3 => ?_) (fun c_3 => absurd c_3 (by decide))
    refine lv_iload_n hx hb dX5_group_42 rfl (lv_at hl 3 rfl) ?_
    refine lv_iconst (v := 5) hx hb dX5_group_43 (by decide) ?_
    refine vp_callSi (va_Run.run (va_runS (As := [.int y, .int 5]) (rest := []) ⟨hx, hb, hml, hown, hts⟩ (cJ_isBelow l D cI cL cQ y 5) (va_cwS 2 hts gX5_group_X5_isBelow rfl rfl rfl (by decide +kernel) ⟨Nat.le_of_ble_eq_true rfl, Nat.le_of_ble_eq_true rfl⟩) (jr_S hK hN hP [] rfl) rfl rfl hl.1 rfl (lv_room (Nat.le_of_ble_eq_true rfl)) dX5_group_44 ⟨Nat.le_of_ble_eq_true rfl, Nat.le_of_ble_eq_true rfl⟩)) (fun r f_4 => ?_)
    rcases f_4 with ⟨rfl, f_5, f_6⟩ | ⟨rfl, f_7⟩
    · exact False.elim (h1.elim (by assumption) (fun h => h.elim f_5 f_6))
    · refine lv_if_eq (tgt := 54) hx hb dX5_group_47 (by decide) (fun c_8 => ?_) (fun c_8 => absurd c_8 (by decide))
      refine lv_iconst (v := 0) hx hb dX5_group_54 (by decide) ?_
      refine jx_thr (vx_runS (As := [.int 0]) (rest := []) ⟨hx, hb, hml, hown, hts⟩ (cJ_requireArgument_t l hnt D cI cL cQ) (va_cwS 1 hts gX5_group_X5_requireArgument rfl rfl rfl (by decide +kernel) ⟨Nat.le_of_ble_eq_true rfl, Nat.le_of_ble_eq_true rfl⟩) (jt_S hK hN hZ hP [] rfl) rfl rfl hl.1 rfl (lv_room (Nat.le_of_ble_eq_true rfl)) dX5_group_55 ⟨Nat.le_of_ble_eq_true rfl, Nat.le_of_ble_eq_true rfl⟩) (fun ce q9 H1 hz hk hce hcv hcl => ?_)
      exact jx_out hxt hlocks hz hk hce hcv hcl (Nat.le_of_ble_eq_true rfl) (Nat.le_of_ble_eq_true rfl)
set_option maxHeartbeats 1000000 in
set_option maxRecDepth 100000 in
theorem cJ_group_s (l : Launch) (hnt : l.stackTraces = false) (D : va_G) (cI cL cQ : ClassId) (h0 : Nat) (tl : Nat) (tr : Nat) (cu : Nat) (bk : Nat) (x : Int32) (y : Int32) (h1 : ¬ x < 0) (h2 : ¬ y < 0) (h3 : ¬ 5 ≤ y) : vx_Met l yX5_group wsX5_group ({ frames := 7, cells := 1, slots := 6, locals := 102 }) (jt_P D vwCl (jT cI cL cQ) cL cQ [.ref h0, .int x, .int y] [(h0, .inr (5, [.ref tl, .ref tr, .ref cu, .ref bk, .int 0]))]) (fun _ _ _ _ => False) (jx_X "java/lang/IllegalStateException") 1 6 (fun _ => False) := by
  refine vx_ofW (cc := cX5_group) (maxL := 4) (ret := (some .long)) (by decide) rfl ?_
  intro p e s m args below meth c s₁ B hml hxt hv
  obtain ⟨rfl, hP, hK, hN, hZ⟩ := hv
  have hx := B.exec
  have hb := B.bytes
  have hr := B.returns
  have hts := atoms_spec (ws := wsX5_group) B.pre
  have hown : s.vm.findClass RX5 = some m.cls := findClass_of_methodNamed B.named
  have hlocks := B.notSynchronized
  have hl := lv_entry ([.ref h0, .int x, .int y]) (n := 4) (Nat.le_of_ble_eq_true rfl)
  rw [lg_entry_eq]
  generalize (lg_sl ([.ref h0, .int x, .int y]) ++ List.replicate (4 - (lg_sl ([.ref h0, .int x, .int y])).length) Slot.unset).toArray = ls at hl ⊢
  have hl : lv_has ls 4 [(0, .ref h0), (1, .int x), (2, .int y)] := hl
  refine lv_aload_n hx hb dX5_group_0 rfl (lv_at hl 0 rfl) ?_
  refine va_get (D := D) (ci := 5) (v := .int 0) (C := RX5) (T := TX5) (N := 5) hx hb hts (by decide +kernel) hown hK hP 0 rfl rfl 4 (by decide) (hts (.fieldLink RX5 41 "JoinDesk" "prepared" "Z") (by decide +kernel)) (fun _ h9 => h9) rfl dX5_group_1 ?_
  refine lv_if_eq (tgt := 21) hx hb dX5_group_4 (by decide) (fun c_1 => ?_) (fun c_1 => absurd c_1 (by decide))
  refine lv_iconst (v := 0) hx hb dX5_group_21 (by decide) ?_
  refine lv_istore_n (lv' := [(3, .int 0), (0, .ref h0), (1, .int x), (2, .int y)]) hx hb dX5_group_22 rfl hl (by decide) rfl (fun ls hl => ?_)
  refine lv_iload_n hx hb dX5_group_23 rfl (lv_at hl 2 rfl) ?_
  refine lv_if_lt (tgt := 54) hx hb dX5_group_24 (by decide) (fun c_2 => absurd c_2 (by exact h1)) (fun c_2 => ?_)
  refine lv_iload_n hx hb dX5_group_27 rfl (lv_at hl 0 rfl) ?_
  refine lv_if_eq (tgt := 42) hx hb dX5_group_28 (by decide) (fun c_3 => ?_) (fun c_3 => absurd c_3 (by decide))
  refine lv_iload_n hx hb dX5_group_42 rfl (lv_at hl 3 rfl) ?_
  refine lv_iconst (v := 5) hx hb dX5_group_43 (by decide) ?_
  refine vp_callSi (va_Run.run (va_runS (As := [.int y, .int 5]) (rest := []) ⟨hx, hb, hml, hown, hts⟩ (cJ_isBelow l D cI cL cQ y 5) (va_cwS 2 hts gX5_group_X5_isBelow rfl rfl rfl (by decide +kernel) ⟨Nat.le_of_ble_eq_true rfl, Nat.le_of_ble_eq_true rfl⟩) (jr_S hK hN hP [] rfl) rfl rfl hl.1 rfl (lv_room (Nat.le_of_ble_eq_true rfl)) dX5_group_44 ⟨Nat.le_of_ble_eq_true rfl, Nat.le_of_ble_eq_true rfl⟩)) (fun r f_4 => ?_)
  rcases f_4 with ⟨rfl, f_5, f_6⟩ | ⟨rfl, f_7⟩
  · refine lv_if_eq (tgt := 54) hx hb dX5_group_47 (by decide) (fun c_8 => absurd c_8 (by decide)) (fun c_8 => ?_)
    refine lv_iconst (v := 1) hx hb dX5_group_50 (by decide) ?_
    refine lv_goto (tgt := 55) hx hb dX5_group_51 (by decide) ?_
    refine va_csv (va_Run.run (va_runS (As := [.int 1]) (rest := []) ⟨hx, hb, hml, hown, hts⟩ (cJ_requireArgument_ok l D cI cL cQ) (va_cwS 1 hts gX5_group_X5_requireArgument rfl rfl rfl (by decide +kernel) ⟨Nat.le_of_ble_eq_true rfl, Nat.le_of_ble_eq_true rfl⟩) (jr_S hK hN hP [] rfl) rfl rfl hl.1 rfl (lv_room (Nat.le_of_ble_eq_true rfl)) dX5_group_55 ⟨Nat.le_of_ble_eq_true rfl, Nat.le_of_ble_eq_true rfl⟩)) (fun f_9 => ?_)
    refine lv_iload_n hx hb dX5_group_58 rfl (lv_at hl 0 rfl) ?_
    refine jx_thr (vx_runS (As := [.int 0]) (rest := []) ⟨hx, hb, hml, hown, hts⟩ (cJ_requireState_t l hnt D cI cL cQ) (va_cwS 1 hts gX5_group_X5_requireState rfl rfl rfl (by decide +kernel) ⟨Nat.le_of_ble_eq_true rfl, Nat.le_of_ble_eq_true rfl⟩) (jt_S hK hN hZ hP [] rfl) rfl rfl hl.1 rfl (lv_room (Nat.le_of_ble_eq_true rfl)) dX5_group_59 ⟨Nat.le_of_ble_eq_true rfl, Nat.le_of_ble_eq_true rfl⟩) (fun ce q9 H1 hz hk hce hcv hcl => ?_)
    exact jx_out hxt hlocks hz hk hce hcv hcl (Nat.le_of_ble_eq_true rfl) (Nat.le_of_ble_eq_true rfl)
  · exact False.elim (f_7.elim h2 h3)
set_option maxHeartbeats 1000000 in
set_option maxRecDepth 100000 in
theorem cJ_sorted_1 (l : Launch) (hnt : l.stackTraces = false) (D : va_G) (cI cL cQ : ClassId) (a : Nat) (h0 : Nat) (tl : Nat) (tr : Nat) (cu : Nat) (bk : Nat) (lk : Nat) (lv : Nat) (lo : Nat) (lp : Nat) (ll : Nat) (lf : Nat) (x : Int32) (y : Int32) : vx_Met l yX5_sorted wsX5_sorted ({ frames := 7, cells := 1, slots := 6, locals := 102 }) (jt_P D vwCl (jT cI cL cQ) cL cQ [.ref h0, .int 1, .int x, .int y] [(h0, .inr (5, [.ref tl, .ref tr, .ref cu, .ref bk, .int 0])), (tl, .inr (4, [.int (nI a), .ref lk, .ref lv, .ref lo, .ref lp, .ref ll, .ref lf, .int 0, .int 0]))]) (fun _ _ _ _ => False) (jx_X "java/lang/IllegalArgumentException") 1 6 (fun _ => False) := by
  refine vx_ofW (cc := cX5_sorted) (maxL := 5) (ret := (some .int)) (by decide) rfl ?_
  intro p e s m args below meth c s₁ B hml hxt hv
  obtain ⟨rfl, hP, hK, hN, hZ⟩ := hv
  have hx := B.exec
  have hb := B.bytes
  have hr := B.returns
  have hts := atoms_spec (ws := wsX5_sorted) B.pre
  have hown : s.vm.findClass RX5 = some m.cls := findClass_of_methodNamed B.named
  have hlocks := B.notSynchronized
  have hl := lv_entry ([.ref h0, .int 1, .int x, .int y]) (n := 5) (Nat.le_of_ble_eq_true rfl)
  rw [lg_entry_eq]
  generalize (lg_sl ([.ref h0, .int 1, .int x, .int y]) ++ List.replicate (5 - (lg_sl ([.ref h0, .int 1, .int x, .int y])).length) Slot.unset).toArray = ls at hl ⊢
  have hl : lv_has ls 5 [(0, .ref h0), (1, .int 1), (2, .int x), (3, .int y)] := hl
  refine lv_aload_n hx hb dX5_sorted_0 rfl (lv_at hl 0 rfl) ?_
  refine lv_iload_n hx hb dX5_sorted_1 rfl (lv_at hl 1 rfl) ?_
  refine jr_callr (va_Run.run (va_runV (As := [.int 1]) (rest := []) ⟨hx, hb, hml, hown, hts⟩ (cJ_tableOf_1 l D cI cL cQ h0 tl tr cu bk 0) (cwV 1 hts gX5_sorted_X5_tableOf rfl rfl rfl (by decide +kernel) ⟨Nat.le_of_ble_eq_true rfl, Nat.le_of_ble_eq_true rfl⟩) (jr_V hK hN hP [0] rfl 5 0 rfl rfl rfl) rfl rfl hl.1 rfl (lv_room (Nat.le_of_ble_eq_true rfl)) dX5_sorted_2 ⟨Nat.le_of_ble_eq_true rfl, Nat.le_of_ble_eq_true rfl⟩)) (fun r f_1 => ?_)
  obtain er_2 := f_1
  subst r
  refine lv_astore (lv' := [(4, .ref tl), (0, .ref h0), (1, .int 1), (2, .int x), (3, .int y)]) hx hb dX5_sorted_5 hl (by decide) rfl (fun ls hl => ?_)
  refine lv_aload hx hb dX5_sorted_7 (lv_at hl 0 rfl) ?_
  refine lv_iload_n hx hb dX5_sorted_9 rfl (lv_at hl 3 rfl) ?_
  refine vp_callSi (va_Run.run (va_runV (As := [.int x]) (rest := []) ⟨hx, hb, hml, hown, hts⟩ (cT_has l D cI cL cQ tl (nI a) lk lv lo lp ll lf 0 0 x) (cwV 1 hts gX5_sorted_X4_has rfl rfl rfl (by decide +kernel) ⟨Nat.le_of_ble_eq_true rfl, Nat.le_of_ble_eq_true rfl⟩) (jr_V hK hN hP [1] rfl 4 1 rfl rfl rfl) rfl rfl hl.1 rfl (lv_room (Nat.le_of_ble_eq_true rfl)) dX5_sorted_10 ⟨Nat.le_of_ble_eq_true rfl, Nat.le_of_ble_eq_true rfl⟩)) (fun r f_3 => ?_)
  rcases f_3 with ⟨rfl, f_4, f_5⟩ | ⟨rfl, f_6⟩
  · exact False.elim (by have h4 := f_4; have h5 := f_5; rw [Int32.lt_iff_toInt_lt] at h4; rw [Int32.le_iff_toInt_le] at h5; omega)
  · refine lv_if_eq (tgt := 28) hx hb dX5_sorted_13 (by decide) (fun c_7 => ?_) (fun c_7 => absurd c_7 (by decide))
    refine lv_iconst (v := 0) hx hb dX5_sorted_28 (by decide) ?_
    refine jx_thr (vx_runS (As := [.int 0]) (rest := []) ⟨hx, hb, hml, hown, hts⟩ (cJ_requireArgument_t l hnt D cI cL cQ) (va_cwS 1 hts gX5_sorted_X5_requireArgument rfl rfl rfl (by decide +kernel) ⟨Nat.le_of_ble_eq_true rfl, Nat.le_of_ble_eq_true rfl⟩) (jt_S hK hN hZ hP [] rfl) rfl rfl hl.1 rfl (lv_room (Nat.le_of_ble_eq_true rfl)) dX5_sorted_29 ⟨Nat.le_of_ble_eq_true rfl, Nat.le_of_ble_eq_true rfl⟩) (fun ce q9 H1 hz hk hce hcv hcl => ?_)
    exact jx_out hxt hlocks hz hk hce hcv hcl (Nat.le_of_ble_eq_true rfl) (Nat.le_of_ble_eq_true rfl)
set_option maxHeartbeats 1000000 in
set_option maxRecDepth 100000 in
theorem cJ_sorted_0 (l : Launch) (hnt : l.stackTraces = false) (D : va_G) (cI cL cQ : ClassId) (b : Nat) (h0 : Nat) (tl : Nat) (tr : Nat) (cu : Nat) (bk : Nat) (rk : Nat) (rv : Nat) (ro : Nat) (rp : Nat) (rl : Nat) (rf : Nat) (x : Int32) (y : Int32) : vx_Met l yX5_sorted wsX5_sorted ({ frames := 7, cells := 1, slots := 6, locals := 102 }) (jt_P D vwCl (jT cI cL cQ) cL cQ [.ref h0, .int 0, .int x, .int y] [(h0, .inr (5, [.ref tl, .ref tr, .ref cu, .ref bk, .int 0])), (tr, .inr (4, [.int (nI b), .ref rk, .ref rv, .ref ro, .ref rp, .ref rl, .ref rf, .int 0, .int 0]))]) (fun _ _ _ _ => False) (jx_X "java/lang/IllegalArgumentException") 1 6 (fun _ => False) := by
  refine vx_ofW (cc := cX5_sorted) (maxL := 5) (ret := (some .int)) (by decide) rfl ?_
  intro p e s m args below meth c s₁ B hml hxt hv
  obtain ⟨rfl, hP, hK, hN, hZ⟩ := hv
  have hx := B.exec
  have hb := B.bytes
  have hr := B.returns
  have hts := atoms_spec (ws := wsX5_sorted) B.pre
  have hown : s.vm.findClass RX5 = some m.cls := findClass_of_methodNamed B.named
  have hlocks := B.notSynchronized
  have hl := lv_entry ([.ref h0, .int 0, .int x, .int y]) (n := 5) (Nat.le_of_ble_eq_true rfl)
  rw [lg_entry_eq]
  generalize (lg_sl ([.ref h0, .int 0, .int x, .int y]) ++ List.replicate (5 - (lg_sl ([.ref h0, .int 0, .int x, .int y])).length) Slot.unset).toArray = ls at hl ⊢
  have hl : lv_has ls 5 [(0, .ref h0), (1, .int 0), (2, .int x), (3, .int y)] := hl
  refine lv_aload_n hx hb dX5_sorted_0 rfl (lv_at hl 0 rfl) ?_
  refine lv_iload_n hx hb dX5_sorted_1 rfl (lv_at hl 1 rfl) ?_
  refine jr_callr (va_Run.run (va_runV (As := [.int 0]) (rest := []) ⟨hx, hb, hml, hown, hts⟩ (cJ_tableOf_0 l D cI cL cQ h0 tl tr cu bk 0) (cwV 1 hts gX5_sorted_X5_tableOf rfl rfl rfl (by decide +kernel) ⟨Nat.le_of_ble_eq_true rfl, Nat.le_of_ble_eq_true rfl⟩) (jr_V hK hN hP [0] rfl 5 0 rfl rfl rfl) rfl rfl hl.1 rfl (lv_room (Nat.le_of_ble_eq_true rfl)) dX5_sorted_2 ⟨Nat.le_of_ble_eq_true rfl, Nat.le_of_ble_eq_true rfl⟩)) (fun r f_1 => ?_)
  obtain er_2 := f_1
  subst r
  refine lv_astore (lv' := [(4, .ref tr), (0, .ref h0), (1, .int 0), (2, .int x), (3, .int y)]) hx hb dX5_sorted_5 hl (by decide) rfl (fun ls hl => ?_)
  refine lv_aload hx hb dX5_sorted_7 (lv_at hl 0 rfl) ?_
  refine lv_iload_n hx hb dX5_sorted_9 rfl (lv_at hl 3 rfl) ?_
  refine vp_callSi (va_Run.run (va_runV (As := [.int x]) (rest := []) ⟨hx, hb, hml, hown, hts⟩ (cT_has l D cI cL cQ tr (nI b) rk rv ro rp rl rf 0 0 x) (cwV 1 hts gX5_sorted_X4_has rfl rfl rfl (by decide +kernel) ⟨Nat.le_of_ble_eq_true rfl, Nat.le_of_ble_eq_true rfl⟩) (jr_V hK hN hP [1] rfl 4 1 rfl rfl rfl) rfl rfl hl.1 rfl (lv_room (Nat.le_of_ble_eq_true rfl)) dX5_sorted_10 ⟨Nat.le_of_ble_eq_true rfl, Nat.le_of_ble_eq_true rfl⟩)) (fun r f_3 => ?_)
  rcases f_3 with ⟨rfl, f_4, f_5⟩ | ⟨rfl, f_6⟩
  · exact False.elim (by have h4 := f_4; have h5 := f_5; rw [Int32.lt_iff_toInt_lt] at h4; rw [Int32.le_iff_toInt_le] at h5; omega)
  · refine lv_if_eq (tgt := 28) hx hb dX5_sorted_13 (by decide) (fun c_7 => ?_) (fun c_7 => absurd c_7 (by decide))
    refine lv_iconst (v := 0) hx hb dX5_sorted_28 (by decide) ?_
    refine jx_thr (vx_runS (As := [.int 0]) (rest := []) ⟨hx, hb, hml, hown, hts⟩ (cJ_requireArgument_t l hnt D cI cL cQ) (va_cwS 1 hts gX5_sorted_X5_requireArgument rfl rfl rfl (by decide +kernel) ⟨Nat.le_of_ble_eq_true rfl, Nat.le_of_ble_eq_true rfl⟩) (jt_S hK hN hZ hP [] rfl) rfl rfl hl.1 rfl (lv_room (Nat.le_of_ble_eq_true rfl)) dX5_sorted_29 ⟨Nat.le_of_ble_eq_true rfl, Nat.le_of_ble_eq_true rfl⟩) (fun ce q9 H1 hz hk hce hcv hcl => ?_)
    exact jx_out hxt hlocks hz hk hce hcv hcl (Nat.le_of_ble_eq_true rfl) (Nat.le_of_ble_eq_true rfl)
set_option maxHeartbeats 1000000 in
set_option maxRecDepth 100000 in
theorem cJ_pair_t (l : Launch) (hnt : l.stackTraces = false) (D : va_G) (cI cL cQ : ClassId) (h0 : Nat) (tl : Nat) (tr : Nat) (cu : Nat) (bk : Nat) (x : Int32) (h1 : x < 0 ∨ 5 ≤ x) : vx_Met l yX5_pair wsX5_pair ({ frames := 7, cells := 1, slots := 6, locals := 102 }) (jt_P D vwCl (jT cI cL cQ) cL cQ [.ref h0, .int x] [(h0, .inr (5, [.ref tl, .ref tr, .ref cu, .ref bk, .int 0]))]) (fun _ _ _ _ => False) (jx_X "java/lang/IllegalArgumentException") 1 6 (fun _ => False) := by
  refine vx_ofW (cc := cX5_pair) (maxL := 4) (ret := (some .int)) (by decide) rfl ?_
  intro p e s m args below meth c s₁ B hml hxt hv
  obtain ⟨rfl, hP, hK, hN, hZ⟩ := hv
  have hx := B.exec
  have hb := B.bytes
  have hr := B.returns
  have hts := atoms_spec (ws := wsX5_pair) B.pre
  have hown : s.vm.findClass RX5 = some m.cls := findClass_of_methodNamed B.named
  have hlocks := B.notSynchronized
  have hl := lv_entry ([.ref h0, .int x]) (n := 4) (Nat.le_of_ble_eq_true rfl)
  rw [lg_entry_eq]
  generalize (lg_sl ([.ref h0, .int x]) ++ List.replicate (4 - (lg_sl ([.ref h0, .int x])).length) Slot.unset).toArray = ls at hl ⊢
  have hl : lv_has ls 4 [(0, .ref h0), (1, .int x)] := hl
  refine lv_iload_n hx hb dX5_pair_0 rfl (lv_at hl 1 rfl) ?_
  refine lv_iconst (v := 5) hx hb dX5_pair_1 (by decide) ?_
  refine vp_callSi (va_Run.run (va_runS (As := [.int x, .int 5]) (rest := []) ⟨hx, hb, hml, hown, hts⟩ (cJ_isBelow l D cI cL cQ x 5) (va_cwS 2 hts gX5_pair_X5_isBelow rfl rfl rfl (by decide +kernel) ⟨Nat.le_of_ble_eq_true rfl, Nat.le_of_ble_eq_true rfl⟩) (jr_S hK hN hP [] rfl) rfl rfl hl.1 rfl (lv_room (Nat.le_of_ble_eq_true rfl)) dX5_pair_2 ⟨Nat.le_of_ble_eq_true rfl, Nat.le_of_ble_eq_true rfl⟩)) (fun r f_1 => ?_)
  rcases f_1 with ⟨rfl, f_2, f_3⟩ | ⟨rfl, f_4⟩
  · exact False.elim (h1.elim f_2 f_3)
  · refine jx_thr (vx_runS (As := [.int 0]) (rest := []) ⟨hx, hb, hml, hown, hts⟩ (cJ_requireArgument_t l hnt D cI cL cQ) (va_cwS 1 hts gX5_pair_X5_requireArgument rfl rfl rfl (by decide +kernel) ⟨Nat.le_of_ble_eq_true rfl, Nat.le_of_ble_eq_true rfl⟩) (jt_S hK hN hZ hP [] rfl) rfl rfl hl.1 rfl (lv_room (Nat.le_of_ble_eq_true rfl)) dX5_pair_5 ⟨Nat.le_of_ble_eq_true rfl, Nat.le_of_ble_eq_true rfl⟩) (fun ce q9 H1 hz hk hce hcv hcl => ?_)
    exact jx_out hxt hlocks hz hk hce hcv hcl (Nat.le_of_ble_eq_true rfl) (Nat.le_of_ble_eq_true rfl)
set_option maxHeartbeats 1000000 in
set_option maxRecDepth 100000 in
theorem cJ_pair_0 (l : Launch) (D : va_G) (cI cL cQ : ClassId) (a : Nat) (b : Nat) (h0 : Nat) (tl : Nat) (tr : Nat) (cu : Nat) (bk : Nat) (lk : Nat) (lv : Nat) (lo : Nat) (lp : Nat) (ll : Nat) (lf : Nat) (rk : Nat) (rv : Nat) (ro : Nat) (rp : Nat) (rl : Nat) (rf : Nat) : Met l yX5_pair wsX5_pair ({ frames := 2, cells := 0, slots := 0, locals := 42 }) (jr_P D vwCl (jT cI cL cQ) cL cQ [.ref h0, .int 0] [(h0, .inr (5, [.ref tl, .ref tr, .ref cu, .ref bk, .int 0])), (tl, .inr (4, [.int (nI a), .ref lk, .ref lv, .ref lo, .ref lp, .ref ll, .ref lf, .int 0, .int 0])), (tr, .inr (4, [.int (nI b), .ref rk, .ref rv, .ref ro, .ref rp, .ref rl, .ref rf, .int 0, .int 0]))]) (vp_Si (fun r : Int32 => r = 0)) 0 0 (fun _ => False) := by
  refine Met.ofW (cc := cX5_pair) (maxL := 4) (ret := (some .int)) (by decide) rfl ?_
  intro p e s m args below meth c s₁ B hml hv
  obtain ⟨rfl, hP, hK, hN⟩ := hv
  have hx := B.exec
  have hb := B.bytes
  have hr := B.returns
  have hts := atoms_spec (ws := wsX5_pair) B.pre
  have hown : s.vm.findClass RX5 = some m.cls := findClass_of_methodNamed B.named
  have hlocks := B.notSynchronized
  have hl := lv_entry ([.ref h0, .int 0]) (n := 4) (Nat.le_of_ble_eq_true rfl)
  rw [lg_entry_eq]
  generalize (lg_sl ([.ref h0, .int 0]) ++ List.replicate (4 - (lg_sl ([.ref h0, .int 0])).length) Slot.unset).toArray = ls at hl ⊢
  have hl : lv_has ls 4 [(0, .ref h0), (1, .int 0)] := hl
  refine lv_iload_n hx hb dX5_pair_0 rfl (lv_at hl 1 rfl) ?_
  refine lv_iconst (v := 5) hx hb dX5_pair_1 (by decide) ?_
  refine vp_callSi (va_Run.run (va_runS (As := [.int 0, .int 5]) (rest := []) ⟨hx, hb, hml, hown, hts⟩ (cJ_isBelow l D cI cL cQ 0 5) (va_cwS 2 hts gX5_pair_X5_isBelow rfl rfl rfl (by decide +kernel) ⟨Nat.le_of_ble_eq_true rfl, Nat.le_of_ble_eq_true rfl⟩) (jr_S hK hN hP [] rfl) rfl rfl hl.1 rfl (lv_room (Nat.le_of_ble_eq_true rfl)) dX5_pair_2 ⟨Nat.le_of_ble_eq_true rfl, Nat.le_of_ble_eq_true rfl⟩)) (fun r f_1 => ?_)
  rcases f_1 with ⟨rfl, f_2, f_3⟩ | ⟨rfl, f_4⟩
  · refine va_csv (va_Run.run (va_runS (As := [.int 1]) (rest := []) ⟨hx, hb, hml, hown, hts⟩ (cJ_requireArgument_ok l D cI cL cQ) (va_cwS 1 hts gX5_pair_X5_requireArgument rfl rfl rfl (by decide +kernel) ⟨Nat.le_of_ble_eq_true rfl, Nat.le_of_ble_eq_true rfl⟩) (jr_S hK hN hP [] rfl) rfl rfl hl.1 rfl (lv_room (Nat.le_of_ble_eq_true rfl)) dX5_pair_5 ⟨Nat.le_of_ble_eq_true rfl, Nat.le_of_ble_eq_true rfl⟩)) (fun f_5 => ?_)
    refine lv_aload_n hx hb dX5_pair_8 rfl (lv_at hl 0 rfl) ?_
    refine va_get (D := D) (ci := 5) (v := .int 0) (C := RX5) (T := TX5) (N := 5) hx hb hts (by decide +kernel) hown hK hP 0 rfl rfl 4 (by decide) (hts (.fieldLink RX5 41 "JoinDesk" "prepared" "Z") (by decide +kernel)) (fun _ h9 => h9) rfl dX5_pair_9 ?_
    refine lv_if_eq (tgt := 25) hx hb dX5_pair_12 (by decide) (fun c_6 => ?_) (fun c_6 => absurd c_6 (by decide))
    refine lv_iconst (v := (-1)) hx hb dX5_pair_25 (by decide) ?_
    refine lv_istore_n (lv' := [(2, .int (-1)), (0, .ref h0), (1, .int 0)]) hx hb dX5_pair_26 rfl hl (by decide) rfl (fun ls hl => ?_)
    refine lv_aload_n hx hb dX5_pair_27 rfl (lv_at hl 1 rfl) ?_
    refine va_get (D := D) (ci := 5) (v := .int 0) (C := RX5) (T := TX5) (N := 5) hx hb hts (by decide +kernel) hown hK hP 0 rfl rfl 4 (by decide) (hts (.fieldLink RX5 41 "JoinDesk" "prepared" "Z") (by decide +kernel)) (fun _ h9 => h9) rfl dX5_pair_28 ?_
    refine lv_if_eq (tgt := 44) hx hb dX5_pair_31 (by decide) (fun c_7 => ?_) (fun c_7 => absurd c_7 (by decide))
    refine lv_iconst (v := (-1)) hx hb dX5_pair_44 (by decide) ?_
    refine lv_istore_n (lv' := [(3, .int (-1)), (2, .int (-1)), (0, .ref h0), (1, .int 0)]) hx hb dX5_pair_45 rfl hl (by decide) rfl (fun ls hl => ?_)
    refine lv_iload_n hx hb dX5_pair_46 rfl (lv_at hl 3 rfl) ?_
    refine lv_tableIn (tgt := 76) hx hb dX5_pair_47 (by decide) (by decide) rfl (by decide) ?_
    refine lv_aload_n hx hb dX5_pair_76 rfl (lv_at hl 2 rfl) ?_
    refine va_get (D := D) (ci := 5) (v := .ref tl) (C := RX5) (T := TX5) (N := 5) hx hb hts (by decide +kernel) hown hK hP 0 rfl rfl 0 (by decide) (hts (.fieldLink RX5 18 "JoinDesk" "left" "LJoinDesk$Table;") (by decide +kernel)) (fun _ h9 => h9) rfl dX5_pair_77 ?_
    refine lv_iload_n hx hb dX5_pair_80 rfl (lv_at hl 1 rfl) ?_
    refine vp_callSi (va_Run.run (va_runV (As := [.int (-1)]) (rest := []) ⟨hx, hb, hml, hown, hts⟩ (cT_has l D cI cL cQ tl (nI a) lk lv lo lp ll lf 0 0 (-1)) (cwV 1 hts gX5_pair_X4_has rfl rfl rfl (by decide +kernel) ⟨Nat.le_of_ble_eq_true rfl, Nat.le_of_ble_eq_true rfl⟩) (jr_V hK hN hP [1] rfl 4 1 rfl rfl rfl) rfl rfl hl.1 rfl (lv_room (Nat.le_of_ble_eq_true rfl)) dX5_pair_81 ⟨Nat.le_of_ble_eq_true rfl, Nat.le_of_ble_eq_true rfl⟩)) (fun r f_8 => ?_)
    rcases f_8 with ⟨rfl, f_9, f_10⟩ | ⟨rfl, f_11⟩
    · exact False.elim (absurd f_9 (by decide))
    · refine lv_if_eq (tgt := 98) hx hb dX5_pair_84 (by decide) (fun c_12 => ?_) (fun c_12 => absurd c_12 (by decide))
      refine lv_aload_n hx hb dX5_pair_98 rfl (lv_at hl 2 rfl) ?_
      refine va_get (D := D) (ci := 5) (v := .ref tr) (C := RX5) (T := TX5) (N := 5) hx hb hts (by decide +kernel) hown hK hP 0 rfl rfl 1 (by decide) (hts (.fieldLink RX5 22 "JoinDesk" "right" "LJoinDesk$Table;") (by decide +kernel)) (fun _ h9 => h9) rfl dX5_pair_99 ?_
      refine lv_iload_n hx hb dX5_pair_102 rfl (lv_at hl 0 rfl) ?_
      refine vp_callSi (va_Run.run (va_runV (As := [.int (-1)]) (rest := []) ⟨hx, hb, hml, hown, hts⟩ (cT_keyAt_o l D cI cL cQ tr (nI b) rk rv ro rp rl rf 0 0 (-1) (Or.inl (by decide))) (cwV 1 hts gX5_pair_X4_keyAt rfl rfl rfl (by decide +kernel) ⟨Nat.le_of_ble_eq_true rfl, Nat.le_of_ble_eq_true rfl⟩) (jr_V hK hN hP [2] rfl 4 2 rfl rfl rfl) rfl rfl hl.1 rfl (lv_room (Nat.le_of_ble_eq_true rfl)) dX5_pair_103 ⟨Nat.le_of_ble_eq_true rfl, Nat.le_of_ble_eq_true rfl⟩)) (fun r f_13 => ?_)
      obtain rfl := f_13
      exact W.iret (v := 0) hx hb hr (fun t ht hW => ⟨0, rfl, (by exact rfl), ht⟩) (fun _ h => nomatch h) dX5_pair_106
  · exact False.elim (by revert f_4; decide)
set_option maxHeartbeats 1000000 in
set_option maxRecDepth 100000 in
theorem cJ_pair_1 (l : Launch) (D : va_G) (cI cL cQ : ClassId) (a : Nat) (b : Nat) (h0 : Nat) (tl : Nat) (tr : Nat) (cu : Nat) (bk : Nat) (lk : Nat) (lv : Nat) (lo : Nat) (lp : Nat) (ll : Nat) (lf : Nat) (rk : Nat) (rv : Nat) (ro : Nat) (rp : Nat) (rl : Nat) (rf : Nat) : Met l yX5_pair wsX5_pair ({ frames := 2, cells := 0, slots := 0, locals := 42 }) (jr_P D vwCl (jT cI cL cQ) cL cQ [.ref h0, .int 1] [(h0, .inr (5, [.ref tl, .ref tr, .ref cu, .ref bk, .int 0])), (tl, .inr (4, [.int (nI a), .ref lk, .ref lv, .ref lo, .ref lp, .ref ll, .ref lf, .int 0, .int 0])), (tr, .inr (4, [.int (nI b), .ref rk, .ref rv, .ref ro, .ref rp, .ref rl, .ref rf, .int 0, .int 0]))]) (vp_Si (fun r : Int32 => r = 0)) 0 0 (fun _ => False) := by
  refine Met.ofW (cc := cX5_pair) (maxL := 4) (ret := (some .int)) (by decide) rfl ?_
  intro p e s m args below meth c s₁ B hml hv
  obtain ⟨rfl, hP, hK, hN⟩ := hv
  have hx := B.exec
  have hb := B.bytes
  have hr := B.returns
  have hts := atoms_spec (ws := wsX5_pair) B.pre
  have hown : s.vm.findClass RX5 = some m.cls := findClass_of_methodNamed B.named
  have hlocks := B.notSynchronized
  have hl := lv_entry ([.ref h0, .int 1]) (n := 4) (Nat.le_of_ble_eq_true rfl)
  rw [lg_entry_eq]
  generalize (lg_sl ([.ref h0, .int 1]) ++ List.replicate (4 - (lg_sl ([.ref h0, .int 1])).length) Slot.unset).toArray = ls at hl ⊢
  have hl : lv_has ls 4 [(0, .ref h0), (1, .int 1)] := hl
  refine lv_iload_n hx hb dX5_pair_0 rfl (lv_at hl 1 rfl) ?_
  refine lv_iconst (v := 5) hx hb dX5_pair_1 (by decide) ?_
  refine vp_callSi (va_Run.run (va_runS (As := [.int 1, .int 5]) (rest := []) ⟨hx, hb, hml, hown, hts⟩ (cJ_isBelow l D cI cL cQ 1 5) (va_cwS 2 hts gX5_pair_X5_isBelow rfl rfl rfl (by decide +kernel) ⟨Nat.le_of_ble_eq_true rfl, Nat.le_of_ble_eq_true rfl⟩) (jr_S hK hN hP [] rfl) rfl rfl hl.1 rfl (lv_room (Nat.le_of_ble_eq_true rfl)) dX5_pair_2 ⟨Nat.le_of_ble_eq_true rfl, Nat.le_of_ble_eq_true rfl⟩)) (fun r f_1 => ?_)
  rcases f_1 with ⟨rfl, f_2, f_3⟩ | ⟨rfl, f_4⟩
  · refine va_csv (va_Run.run (va_runS (As := [.int 1]) (rest := []) ⟨hx, hb, hml, hown, hts⟩ (cJ_requireArgument_ok l D cI cL cQ) (va_cwS 1 hts gX5_pair_X5_requireArgument rfl rfl rfl (by decide +kernel) ⟨Nat.le_of_ble_eq_true rfl, Nat.le_of_ble_eq_true rfl⟩) (jr_S hK hN hP [] rfl) rfl rfl hl.1 rfl (lv_room (Nat.le_of_ble_eq_true rfl)) dX5_pair_5 ⟨Nat.le_of_ble_eq_true rfl, Nat.le_of_ble_eq_true rfl⟩)) (fun f_5 => ?_)
    refine lv_aload_n hx hb dX5_pair_8 rfl (lv_at hl 0 rfl) ?_
    refine va_get (D := D) (ci := 5) (v := .int 0) (C := RX5) (T := TX5) (N := 5) hx hb hts (by decide +kernel) hown hK hP 0 rfl rfl 4 (by decide) (hts (.fieldLink RX5 41 "JoinDesk" "prepared" "Z") (by decide +kernel)) (fun _ h9 => h9) rfl dX5_pair_9 ?_
    refine lv_if_eq (tgt := 25) hx hb dX5_pair_12 (by decide) (fun c_6 => ?_) (fun c_6 => absurd c_6 (by decide))
    refine lv_iconst (v := (-1)) hx hb dX5_pair_25 (by decide) ?_
    refine lv_istore_n (lv' := [(2, .int (-1)), (0, .ref h0), (1, .int 1)]) hx hb dX5_pair_26 rfl hl (by decide) rfl (fun ls hl => ?_)
    refine lv_aload_n hx hb dX5_pair_27 rfl (lv_at hl 1 rfl) ?_
    refine va_get (D := D) (ci := 5) (v := .int 0) (C := RX5) (T := TX5) (N := 5) hx hb hts (by decide +kernel) hown hK hP 0 rfl rfl 4 (by decide) (hts (.fieldLink RX5 41 "JoinDesk" "prepared" "Z") (by decide +kernel)) (fun _ h9 => h9) rfl dX5_pair_28 ?_
    refine lv_if_eq (tgt := 44) hx hb dX5_pair_31 (by decide) (fun c_7 => ?_) (fun c_7 => absurd c_7 (by decide))
    refine lv_iconst (v := (-1)) hx hb dX5_pair_44 (by decide) ?_
    refine lv_istore_n (lv' := [(3, .int (-1)), (2, .int (-1)), (0, .ref h0), (1, .int 1)]) hx hb dX5_pair_45 rfl hl (by decide) rfl (fun ls hl => ?_)
    refine lv_iload_n hx hb dX5_pair_46 rfl (lv_at hl 3 rfl) ?_
    refine lv_tableIn (tgt := 107) hx hb dX5_pair_47 (by decide) (by decide) rfl (by decide) ?_
    refine lv_aload_n hx hb dX5_pair_107 rfl (lv_at hl 2 rfl) ?_
    refine va_get (D := D) (ci := 5) (v := .ref tl) (C := RX5) (T := TX5) (N := 5) hx hb hts (by decide +kernel) hown hK hP 0 rfl rfl 0 (by decide) (hts (.fieldLink RX5 18 "JoinDesk" "left" "LJoinDesk$Table;") (by decide +kernel)) (fun _ h9 => h9) rfl dX5_pair_108 ?_
    refine lv_iload_n hx hb dX5_pair_111 rfl (lv_at hl 1 rfl) ?_
    refine vp_callSi (va_Run.run (va_runV (As := [.int (-1)]) (rest := []) ⟨hx, hb, hml, hown, hts⟩ (cT_valueAt_o l D cI cL cQ tl (nI a) lk lv lo lp ll lf 0 0 (-1) (Or.inl (by decide))) (cwV 1 hts gX5_pair_X4_valueAt rfl rfl rfl (by decide +kernel) ⟨Nat.le_of_ble_eq_true rfl, Nat.le_of_ble_eq_true rfl⟩) (jr_V hK hN hP [1] rfl 4 1 rfl rfl rfl) rfl rfl hl.1 rfl (lv_room (Nat.le_of_ble_eq_true rfl)) dX5_pair_112 ⟨Nat.le_of_ble_eq_true rfl, Nat.le_of_ble_eq_true rfl⟩)) (fun r f_8 => ?_)
    obtain rfl := f_8
    exact W.iret (v := 0) hx hb hr (fun t ht hW => ⟨0, rfl, (by exact rfl), ht⟩) (fun _ h => nomatch h) dX5_pair_115
  · exact False.elim (by revert f_4; decide)
set_option maxHeartbeats 1000000 in
set_option maxRecDepth 100000 in
theorem cJ_pair_2 (l : Launch) (D : va_G) (cI cL cQ : ClassId) (a : Nat) (b : Nat) (h0 : Nat) (tl : Nat) (tr : Nat) (cu : Nat) (bk : Nat) (lk : Nat) (lv : Nat) (lo : Nat) (lp : Nat) (ll : Nat) (lf : Nat) (rk : Nat) (rv : Nat) (ro : Nat) (rp : Nat) (rl : Nat) (rf : Nat) : Met l yX5_pair wsX5_pair ({ frames := 2, cells := 0, slots := 0, locals := 42 }) (jr_P D vwCl (jT cI cL cQ) cL cQ [.ref h0, .int 2] [(h0, .inr (5, [.ref tl, .ref tr, .ref cu, .ref bk, .int 0])), (tl, .inr (4, [.int (nI a), .ref lk, .ref lv, .ref lo, .ref lp, .ref ll, .ref lf, .int 0, .int 0])), (tr, .inr (4, [.int (nI b), .ref rk, .ref rv, .ref ro, .ref rp, .ref rl, .ref rf, .int 0, .int 0]))]) (vp_Si (fun r : Int32 => r = 0)) 0 0 (fun _ => False) := by
  refine Met.ofW (cc := cX5_pair) (maxL := 4) (ret := (some .int)) (by decide) rfl ?_
  intro p e s m args below meth c s₁ B hml hv
  obtain ⟨rfl, hP, hK, hN⟩ := hv
  have hx := B.exec
  have hb := B.bytes
  have hr := B.returns
  have hts := atoms_spec (ws := wsX5_pair) B.pre
  have hown : s.vm.findClass RX5 = some m.cls := findClass_of_methodNamed B.named
  have hlocks := B.notSynchronized
  have hl := lv_entry ([.ref h0, .int 2]) (n := 4) (Nat.le_of_ble_eq_true rfl)
  rw [lg_entry_eq]
  generalize (lg_sl ([.ref h0, .int 2]) ++ List.replicate (4 - (lg_sl ([.ref h0, .int 2])).length) Slot.unset).toArray = ls at hl ⊢
  have hl : lv_has ls 4 [(0, .ref h0), (1, .int 2)] := hl
  refine lv_iload_n hx hb dX5_pair_0 rfl (lv_at hl 1 rfl) ?_
  refine lv_iconst (v := 5) hx hb dX5_pair_1 (by decide) ?_
  refine vp_callSi (va_Run.run (va_runS (As := [.int 2, .int 5]) (rest := []) ⟨hx, hb, hml, hown, hts⟩ (cJ_isBelow l D cI cL cQ 2 5) (va_cwS 2 hts gX5_pair_X5_isBelow rfl rfl rfl (by decide +kernel) ⟨Nat.le_of_ble_eq_true rfl, Nat.le_of_ble_eq_true rfl⟩) (jr_S hK hN hP [] rfl) rfl rfl hl.1 rfl (lv_room (Nat.le_of_ble_eq_true rfl)) dX5_pair_2 ⟨Nat.le_of_ble_eq_true rfl, Nat.le_of_ble_eq_true rfl⟩)) (fun r f_1 => ?_)
  rcases f_1 with ⟨rfl, f_2, f_3⟩ | ⟨rfl, f_4⟩
  · refine va_csv (va_Run.run (va_runS (As := [.int 1]) (rest := []) ⟨hx, hb, hml, hown, hts⟩ (cJ_requireArgument_ok l D cI cL cQ) (va_cwS 1 hts gX5_pair_X5_requireArgument rfl rfl rfl (by decide +kernel) ⟨Nat.le_of_ble_eq_true rfl, Nat.le_of_ble_eq_true rfl⟩) (jr_S hK hN hP [] rfl) rfl rfl hl.1 rfl (lv_room (Nat.le_of_ble_eq_true rfl)) dX5_pair_5 ⟨Nat.le_of_ble_eq_true rfl, Nat.le_of_ble_eq_true rfl⟩)) (fun f_5 => ?_)
    refine lv_aload_n hx hb dX5_pair_8 rfl (lv_at hl 0 rfl) ?_
    refine va_get (D := D) (ci := 5) (v := .int 0) (C := RX5) (T := TX5) (N := 5) hx hb hts (by decide +kernel) hown hK hP 0 rfl rfl 4 (by decide) (hts (.fieldLink RX5 41 "JoinDesk" "prepared" "Z") (by decide +kernel)) (fun _ h9 => h9) rfl dX5_pair_9 ?_
    refine lv_if_eq (tgt := 25) hx hb dX5_pair_12 (by decide) (fun c_6 => ?_) (fun c_6 => absurd c_6 (by decide))
    refine lv_iconst (v := (-1)) hx hb dX5_pair_25 (by decide) ?_
    refine lv_istore_n (lv' := [(2, .int (-1)), (0, .ref h0), (1, .int 2)]) hx hb dX5_pair_26 rfl hl (by decide) rfl (fun ls hl => ?_)
    refine lv_aload_n hx hb dX5_pair_27 rfl (lv_at hl 1 rfl) ?_
    refine va_get (D := D) (ci := 5) (v := .int 0) (C := RX5) (T := TX5) (N := 5) hx hb hts (by decide +kernel) hown hK hP 0 rfl rfl 4 (by decide) (hts (.fieldLink RX5 41 "JoinDesk" "prepared" "Z") (by decide +kernel)) (fun _ h9 => h9) rfl dX5_pair_28 ?_
    refine lv_if_eq (tgt := 44) hx hb dX5_pair_31 (by decide) (fun c_7 => ?_) (fun c_7 => absurd c_7 (by decide))
    refine lv_iconst (v := (-1)) hx hb dX5_pair_44 (by decide) ?_
    refine lv_istore_n (lv' := [(3, .int (-1)), (2, .int (-1)), (0, .ref h0), (1, .int 2)]) hx hb dX5_pair_45 rfl hl (by decide) rfl (fun ls hl => ?_)
    refine lv_iload_n hx hb dX5_pair_46 rfl (lv_at hl 3 rfl) ?_
    refine lv_tableIn (tgt := 116) hx hb dX5_pair_47 (by decide) (by decide) rfl (by decide) ?_
    refine lv_aload_n hx hb dX5_pair_116 rfl (lv_at hl 2 rfl) ?_
    refine va_get (D := D) (ci := 5) (v := .ref tr) (C := RX5) (T := TX5) (N := 5) hx hb hts (by decide +kernel) hown hK hP 0 rfl rfl 1 (by decide) (hts (.fieldLink RX5 22 "JoinDesk" "right" "LJoinDesk$Table;") (by decide +kernel)) (fun _ h9 => h9) rfl dX5_pair_117 ?_
    refine lv_iload_n hx hb dX5_pair_120 rfl (lv_at hl 0 rfl) ?_
    refine vp_callSi (va_Run.run (va_runV (As := [.int (-1)]) (rest := []) ⟨hx, hb, hml, hown, hts⟩ (cT_valueAt_o l D cI cL cQ tr (nI b) rk rv ro rp rl rf 0 0 (-1) (Or.inl (by decide))) (cwV 1 hts gX5_pair_X4_valueAt rfl rfl rfl (by decide +kernel) ⟨Nat.le_of_ble_eq_true rfl, Nat.le_of_ble_eq_true rfl⟩) (jr_V hK hN hP [2] rfl 4 2 rfl rfl rfl) rfl rfl hl.1 rfl (lv_room (Nat.le_of_ble_eq_true rfl)) dX5_pair_121 ⟨Nat.le_of_ble_eq_true rfl, Nat.le_of_ble_eq_true rfl⟩)) (fun r f_8 => ?_)
    obtain rfl := f_8
    exact W.iret (v := 0) hx hb hr (fun t ht hW => ⟨0, rfl, (by exact rfl), ht⟩) (fun _ h => nomatch h) dX5_pair_124
  · exact False.elim (by revert f_4; decide)
set_option maxHeartbeats 1000000 in
set_option maxRecDepth 100000 in
theorem cJ_pair_3 (l : Launch) (D : va_G) (cI cL cQ : ClassId) (a : Nat) (b : Nat) (h0 : Nat) (tl : Nat) (tr : Nat) (cu : Nat) (bk : Nat) (lk : Nat) (lv : Nat) (lo : Nat) (lp : Nat) (ll : Nat) (lf : Nat) (rk : Nat) (rv : Nat) (ro : Nat) (rp : Nat) (rl : Nat) (rf : Nat) : Met l yX5_pair wsX5_pair ({ frames := 2, cells := 0, slots := 0, locals := 42 }) (jr_P D vwCl (jT cI cL cQ) cL cQ [.ref h0, .int 3] [(h0, .inr (5, [.ref tl, .ref tr, .ref cu, .ref bk, .int 0])), (tl, .inr (4, [.int (nI a), .ref lk, .ref lv, .ref lo, .ref lp, .ref ll, .ref lf, .int 0, .int 0])), (tr, .inr (4, [.int (nI b), .ref rk, .ref rv, .ref ro, .ref rp, .ref rl, .ref rf, .int 0, .int 0]))]) (vp_Si (fun r : Int32 => r = (-1))) 0 0 (fun _ => False) := by
  refine Met.ofW (cc := cX5_pair) (maxL := 4) (ret := (some .int)) (by decide) rfl ?_
  intro p e s m args below meth c s₁ B hml hv
  obtain ⟨rfl, hP, hK, hN⟩ := hv
  have hx := B.exec
  have hb := B.bytes
  have hr := B.returns
  have hts := atoms_spec (ws := wsX5_pair) B.pre
  have hown : s.vm.findClass RX5 = some m.cls := findClass_of_methodNamed B.named
  have hlocks := B.notSynchronized
  have hl := lv_entry ([.ref h0, .int 3]) (n := 4) (Nat.le_of_ble_eq_true rfl)
  rw [lg_entry_eq]
  generalize (lg_sl ([.ref h0, .int 3]) ++ List.replicate (4 - (lg_sl ([.ref h0, .int 3])).length) Slot.unset).toArray = ls at hl ⊢
  have hl : lv_has ls 4 [(0, .ref h0), (1, .int 3)] := hl
  refine lv_iload_n hx hb dX5_pair_0 rfl (lv_at hl 1 rfl) ?_
  refine lv_iconst (v := 5) hx hb dX5_pair_1 (by decide) ?_
  refine vp_callSi (va_Run.run (va_runS (As := [.int 3, .int 5]) (rest := []) ⟨hx, hb, hml, hown, hts⟩ (cJ_isBelow l D cI cL cQ 3 5) (va_cwS 2 hts gX5_pair_X5_isBelow rfl rfl rfl (by decide +kernel) ⟨Nat.le_of_ble_eq_true rfl, Nat.le_of_ble_eq_true rfl⟩) (jr_S hK hN hP [] rfl) rfl rfl hl.1 rfl (lv_room (Nat.le_of_ble_eq_true rfl)) dX5_pair_2 ⟨Nat.le_of_ble_eq_true rfl, Nat.le_of_ble_eq_true rfl⟩)) (fun r f_1 => ?_)
  rcases f_1 with ⟨rfl, f_2, f_3⟩ | ⟨rfl, f_4⟩
  · refine va_csv (va_Run.run (va_runS (As := [.int 1]) (rest := []) ⟨hx, hb, hml, hown, hts⟩ (cJ_requireArgument_ok l D cI cL cQ) (va_cwS 1 hts gX5_pair_X5_requireArgument rfl rfl rfl (by decide +kernel) ⟨Nat.le_of_ble_eq_true rfl, Nat.le_of_ble_eq_true rfl⟩) (jr_S hK hN hP [] rfl) rfl rfl hl.1 rfl (lv_room (Nat.le_of_ble_eq_true rfl)) dX5_pair_5 ⟨Nat.le_of_ble_eq_true rfl, Nat.le_of_ble_eq_true rfl⟩)) (fun f_5 => ?_)
    refine lv_aload_n hx hb dX5_pair_8 rfl (lv_at hl 0 rfl) ?_
    refine va_get (D := D) (ci := 5) (v := .int 0) (C := RX5) (T := TX5) (N := 5) hx hb hts (by decide +kernel) hown hK hP 0 rfl rfl 4 (by decide) (hts (.fieldLink RX5 41 "JoinDesk" "prepared" "Z") (by decide +kernel)) (fun _ h9 => h9) rfl dX5_pair_9 ?_
    refine lv_if_eq (tgt := 25) hx hb dX5_pair_12 (by decide) (fun c_6 => ?_) (fun c_6 => absurd c_6 (by decide))
    refine lv_iconst (v := (-1)) hx hb dX5_pair_25 (by decide) ?_
    refine lv_istore_n (lv' := [(2, .int (-1)), (0, .ref h0), (1, .int 3)]) hx hb dX5_pair_26 rfl hl (by decide) rfl (fun ls hl => ?_)
    refine lv_aload_n hx hb dX5_pair_27 rfl (lv_at hl 1 rfl) ?_
    refine va_get (D := D) (ci := 5) (v := .int 0) (C := RX5) (T := TX5) (N := 5) hx hb hts (by decide +kernel) hown hK hP 0 rfl rfl 4 (by decide) (hts (.fieldLink RX5 41 "JoinDesk" "prepared" "Z") (by decide +kernel)) (fun _ h9 => h9) rfl dX5_pair_28 ?_
    refine lv_if_eq (tgt := 44) hx hb dX5_pair_31 (by decide) (fun c_7 => ?_) (fun c_7 => absurd c_7 (by decide))
    refine lv_iconst (v := (-1)) hx hb dX5_pair_44 (by decide) ?_
    refine lv_istore_n (lv' := [(3, .int (-1)), (2, .int (-1)), (0, .ref h0), (1, .int 3)]) hx hb dX5_pair_45 rfl hl (by decide) rfl (fun ls hl => ?_)
    refine lv_iload_n hx hb dX5_pair_46 rfl (lv_at hl 3 rfl) ?_
    refine lv_tableIn (tgt := 125) hx hb dX5_pair_47 (by decide) (by decide) rfl (by decide) ?_
    refine lv_aload_n hx hb dX5_pair_125 rfl (lv_at hl 2 rfl) ?_
    refine va_get (D := D) (ci := 5) (v := .ref tl) (C := RX5) (T := TX5) (N := 5) hx hb hts (by decide +kernel) hown hK hP 0 rfl rfl 0 (by decide) (hts (.fieldLink RX5 18 "JoinDesk" "left" "LJoinDesk$Table;") (by decide +kernel)) (fun _ h9 => h9) rfl dX5_pair_126 ?_
    refine lv_iload_n hx hb dX5_pair_129 rfl (lv_at hl 1 rfl) ?_
    refine vp_callSi (va_Run.run (va_runV (As := [.int (-1)]) (rest := []) ⟨hx, hb, hml, hown, hts⟩ (cT_numberAt_o l D cI cL cQ tl (nI a) lk lv lo lp ll lf 0 0 (-1) (Or.inl (by decide))) (cwV 1 hts gX5_pair_X4_numberAt rfl rfl rfl (by decide +kernel) ⟨Nat.le_of_ble_eq_true rfl, Nat.le_of_ble_eq_true rfl⟩) (jr_V hK hN hP [1] rfl 4 1 rfl rfl rfl) rfl rfl hl.1 rfl (lv_room (Nat.le_of_ble_eq_true rfl)) dX5_pair_130 ⟨Nat.le_of_ble_eq_true rfl, Nat.le_of_ble_eq_true rfl⟩)) (fun r f_8 => ?_)
    obtain rfl := f_8
    exact W.iret (v := (-1)) hx hb hr (fun t ht hW => ⟨(-1), rfl, (by exact rfl), ht⟩) (fun _ h => nomatch h) dX5_pair_133
  · exact False.elim (by revert f_4; decide)
set_option maxHeartbeats 1000000 in
set_option maxRecDepth 100000 in
theorem cJ_pair_4 (l : Launch) (D : va_G) (cI cL cQ : ClassId) (a : Nat) (b : Nat) (h0 : Nat) (tl : Nat) (tr : Nat) (cu : Nat) (bk : Nat) (lk : Nat) (lv : Nat) (lo : Nat) (lp : Nat) (ll : Nat) (lf : Nat) (rk : Nat) (rv : Nat) (ro : Nat) (rp : Nat) (rl : Nat) (rf : Nat) : Met l yX5_pair wsX5_pair ({ frames := 2, cells := 0, slots := 0, locals := 42 }) (jr_P D vwCl (jT cI cL cQ) cL cQ [.ref h0, .int 4] [(h0, .inr (5, [.ref tl, .ref tr, .ref cu, .ref bk, .int 0])), (tl, .inr (4, [.int (nI a), .ref lk, .ref lv, .ref lo, .ref lp, .ref ll, .ref lf, .int 0, .int 0])), (tr, .inr (4, [.int (nI b), .ref rk, .ref rv, .ref ro, .ref rp, .ref rl, .ref rf, .int 0, .int 0]))]) (vp_Si (fun r : Int32 => r = (-1))) 0 0 (fun _ => False) := by
  refine Met.ofW (cc := cX5_pair) (maxL := 4) (ret := (some .int)) (by decide) rfl ?_
  intro p e s m args below meth c s₁ B hml hv
  obtain ⟨rfl, hP, hK, hN⟩ := hv
  have hx := B.exec
  have hb := B.bytes
  have hr := B.returns
  have hts := atoms_spec (ws := wsX5_pair) B.pre
  have hown : s.vm.findClass RX5 = some m.cls := findClass_of_methodNamed B.named
  have hlocks := B.notSynchronized
  have hl := lv_entry ([.ref h0, .int 4]) (n := 4) (Nat.le_of_ble_eq_true rfl)
  rw [lg_entry_eq]
  generalize (lg_sl ([.ref h0, .int 4]) ++ List.replicate (4 - (lg_sl ([.ref h0, .int 4])).length) Slot.unset).toArray = ls at hl ⊢
  have hl : lv_has ls 4 [(0, .ref h0), (1, .int 4)] := hl
  refine lv_iload_n hx hb dX5_pair_0 rfl (lv_at hl 1 rfl) ?_
  refine lv_iconst (v := 5) hx hb dX5_pair_1 (by decide) ?_
  refine vp_callSi (va_Run.run (va_runS (As := [.int 4, .int 5]) (rest := []) ⟨hx, hb, hml, hown, hts⟩ (cJ_isBelow l D cI cL cQ 4 5) (va_cwS 2 hts gX5_pair_X5_isBelow rfl rfl rfl (by decide +kernel) ⟨Nat.le_of_ble_eq_true rfl, Nat.le_of_ble_eq_true rfl⟩) (jr_S hK hN hP [] rfl) rfl rfl hl.1 rfl (lv_room (Nat.le_of_ble_eq_true rfl)) dX5_pair_2 ⟨Nat.le_of_ble_eq_true rfl, Nat.le_of_ble_eq_true rfl⟩)) (fun r f_1 => ?_)
  rcases f_1 with ⟨rfl, f_2, f_3⟩ | ⟨rfl, f_4⟩
  · refine va_csv (va_Run.run (va_runS (As := [.int 1]) (rest := []) ⟨hx, hb, hml, hown, hts⟩ (cJ_requireArgument_ok l D cI cL cQ) (va_cwS 1 hts gX5_pair_X5_requireArgument rfl rfl rfl (by decide +kernel) ⟨Nat.le_of_ble_eq_true rfl, Nat.le_of_ble_eq_true rfl⟩) (jr_S hK hN hP [] rfl) rfl rfl hl.1 rfl (lv_room (Nat.le_of_ble_eq_true rfl)) dX5_pair_5 ⟨Nat.le_of_ble_eq_true rfl, Nat.le_of_ble_eq_true rfl⟩)) (fun f_5 => ?_)
    refine lv_aload_n hx hb dX5_pair_8 rfl (lv_at hl 0 rfl) ?_
    refine va_get (D := D) (ci := 5) (v := .int 0) (C := RX5) (T := TX5) (N := 5) hx hb hts (by decide +kernel) hown hK hP 0 rfl rfl 4 (by decide) (hts (.fieldLink RX5 41 "JoinDesk" "prepared" "Z") (by decide +kernel)) (fun _ h9 => h9) rfl dX5_pair_9 ?_
    refine lv_if_eq (tgt := 25) hx hb dX5_pair_12 (by decide) (fun c_6 => ?_) (fun c_6 => absurd c_6 (by decide))
    refine lv_iconst (v := (-1)) hx hb dX5_pair_25 (by decide) ?_
    refine lv_istore_n (lv' := [(2, .int (-1)), (0, .ref h0), (1, .int 4)]) hx hb dX5_pair_26 rfl hl (by decide) rfl (fun ls hl => ?_)
    refine lv_aload_n hx hb dX5_pair_27 rfl (lv_at hl 1 rfl) ?_
    refine va_get (D := D) (ci := 5) (v := .int 0) (C := RX5) (T := TX5) (N := 5) hx hb hts (by decide +kernel) hown hK hP 0 rfl rfl 4 (by decide) (hts (.fieldLink RX5 41 "JoinDesk" "prepared" "Z") (by decide +kernel)) (fun _ h9 => h9) rfl dX5_pair_28 ?_
    refine lv_if_eq (tgt := 44) hx hb dX5_pair_31 (by decide) (fun c_7 => ?_) (fun c_7 => absurd c_7 (by decide))
    refine lv_iconst (v := (-1)) hx hb dX5_pair_44 (by decide) ?_
    refine lv_istore_n (lv' := [(3, .int (-1)), (2, .int (-1)), (0, .ref h0), (1, .int 4)]) hx hb dX5_pair_45 rfl hl (by decide) rfl (fun ls hl => ?_)
    refine lv_iload_n hx hb dX5_pair_46 rfl (lv_at hl 3 rfl) ?_
    refine lv_tableOut (tgt := 134) hx hb dX5_pair_47 (by decide) (by decide) ?_
    refine lv_aload_n hx hb dX5_pair_134 rfl (lv_at hl 2 rfl) ?_
    refine va_get (D := D) (ci := 5) (v := .ref tr) (C := RX5) (T := TX5) (N := 5) hx hb hts (by decide +kernel) hown hK hP 0 rfl rfl 1 (by decide) (hts (.fieldLink RX5 22 "JoinDesk" "right" "LJoinDesk$Table;") (by decide +kernel)) (fun _ h9 => h9) rfl dX5_pair_135 ?_
    refine lv_iload_n hx hb dX5_pair_138 rfl (lv_at hl 0 rfl) ?_
    refine vp_callSi (va_Run.run (va_runV (As := [.int (-1)]) (rest := []) ⟨hx, hb, hml, hown, hts⟩ (cT_numberAt_o l D cI cL cQ tr (nI b) rk rv ro rp rl rf 0 0 (-1) (Or.inl (by decide))) (cwV 1 hts gX5_pair_X4_numberAt rfl rfl rfl (by decide +kernel) ⟨Nat.le_of_ble_eq_true rfl, Nat.le_of_ble_eq_true rfl⟩) (jr_V hK hN hP [2] rfl 4 2 rfl rfl rfl) rfl rfl hl.1 rfl (lv_room (Nat.le_of_ble_eq_true rfl)) dX5_pair_139 ⟨Nat.le_of_ble_eq_true rfl, Nat.le_of_ble_eq_true rfl⟩)) (fun r f_8 => ?_)
    obtain rfl := f_8
    exact W.iret (v := (-1)) hx hb hr (fun t ht hW => ⟨(-1), rfl, (by exact rfl), ht⟩) (fun _ h => nomatch h) dX5_pair_142
  · exact False.elim (by revert f_4; decide)
set_option maxHeartbeats 1000000 in
set_option maxRecDepth 100000 in
theorem cJ_about_t (l : Launch) (hnt : l.stackTraces = false) (D : va_G) (cI cL cQ : ClassId) (h0 : Nat) (tl : Nat) (tr : Nat) (cu : Nat) (bk : Nat) (x : Int32) (h1 : x < 0 ∨ 5 ≤ x) : vx_Met l yX5_about wsX5_about ({ frames := 7, cells := 1, slots := 6, locals := 102 }) (jt_P D vwCl (jT cI cL cQ) cL cQ [.ref h0, .int x] [(h0, .inr (5, [.ref tl, .ref tr, .ref cu, .ref bk, .int 0]))]) (fun _ _ _ _ => False) (jx_X "java/lang/IllegalArgumentException") 1 6 (fun _ => False) := by
  refine vx_ofW (cc := cX5_about) (maxL := 2) (ret := (some .long)) (by decide) rfl ?_
  intro p e s m args below meth c s₁ B hml hxt hv
  obtain ⟨rfl, hP, hK, hN, hZ⟩ := hv
  have hx := B.exec
  have hb := B.bytes
  have hr := B.returns
  have hts := atoms_spec (ws := wsX5_about) B.pre
  have hown : s.vm.findClass RX5 = some m.cls := findClass_of_methodNamed B.named
  have hlocks := B.notSynchronized
  have hl := lv_entry ([.ref h0, .int x]) (n := 2) (Nat.le_of_ble_eq_true rfl)
  rw [lg_entry_eq]
  generalize (lg_sl ([.ref h0, .int x]) ++ List.replicate (2 - (lg_sl ([.ref h0, .int x])).length) Slot.unset).toArray = ls at hl ⊢
  have hl : lv_has ls 2 [(0, .ref h0), (1, .int x)] := hl
  refine lv_iload_n hx hb dX5_about_0 rfl (lv_at hl 1 rfl) ?_
  refine lv_iconst (v := 5) hx hb dX5_about_1 (by decide) ?_
  refine vp_callSi (va_Run.run (va_runS (As := [.int x, .int 5]) (rest := []) ⟨hx, hb, hml, hown, hts⟩ (cJ_isBelow l D cI cL cQ x 5) (va_cwS 2 hts gX5_about_X5_isBelow rfl rfl rfl (by decide +kernel) ⟨Nat.le_of_ble_eq_true rfl, Nat.le_of_ble_eq_true rfl⟩) (jr_S hK hN hP [] rfl) rfl rfl hl.1 rfl (lv_room (Nat.le_of_ble_eq_true rfl)) dX5_about_2 ⟨Nat.le_of_ble_eq_true rfl, Nat.le_of_ble_eq_true rfl⟩)) (fun r f_1 => ?_)
  rcases f_1 with ⟨rfl, f_2, f_3⟩ | ⟨rfl, f_4⟩
  · exact False.elim (h1.elim f_2 f_3)
  · refine jx_thr (vx_runS (As := [.int 0]) (rest := []) ⟨hx, hb, hml, hown, hts⟩ (cJ_requireArgument_t l hnt D cI cL cQ) (va_cwS 1 hts gX5_about_X5_requireArgument rfl rfl rfl (by decide +kernel) ⟨Nat.le_of_ble_eq_true rfl, Nat.le_of_ble_eq_true rfl⟩) (jt_S hK hN hZ hP [] rfl) rfl rfl hl.1 rfl (lv_room (Nat.le_of_ble_eq_true rfl)) dX5_about_5 ⟨Nat.le_of_ble_eq_true rfl, Nat.le_of_ble_eq_true rfl⟩) (fun ce q9 H1 hz hk hce hcv hcl => ?_)
    exact jx_out hxt hlocks hz hk hce hcv hcl (Nat.le_of_ble_eq_true rfl) (Nat.le_of_ble_eq_true rfl)
set_option maxHeartbeats 1000000 in
set_option maxRecDepth 100000 in
theorem cJ_about_0 (l : Launch) (D : va_G) (cI cL cQ : ClassId) (a : Nat) (b : Nat) (h0 : Nat) (tl : Nat) (tr : Nat) (cu : Nat) (bk : Nat) (lk : Nat) (lv : Nat) (lo : Nat) (lp : Nat) (ll : Nat) (lf : Nat) (rk : Nat) (rv : Nat) (ro : Nat) (rp : Nat) (rl : Nat) (rf : Nat) (he : Nat) (ma : Nat) : Met l yX5_about wsX5_about ({ frames := 1, cells := 0, slots := 0, locals := 21 }) (jr_P D vwCl (jT cI cL cQ) cL cQ [.ref h0, .int 0] [(h0, .inr (5, [.ref tl, .ref tr, .ref cu, .ref bk, .int 0])), (tl, .inr (4, [.int (nI a), .ref lk, .ref lv, .ref lo, .ref lp, .ref ll, .ref lf, .int 0, .int 0])), (tr, .inr (4, [.int (nI b), .ref rk, .ref rv, .ref ro, .ref rp, .ref rl, .ref rf, .int 0, .int 0])), (cu, .inr (0, [.ref tl, .ref tr, .ref he, .ref ma, .int 0, .int 0, .long 0]))]) (vp_Sl (fun r : Int64 => r = 0)) 0 0 (fun _ => False) := by
  refine Met.ofW (cc := cX5_about) (maxL := 2) (ret := (some .long)) (by decide) rfl ?_
  intro p e s m args below meth c s₁ B hml hv
  obtain ⟨rfl, hP, hK, hN⟩ := hv
  have hx := B.exec
  have hb := B.bytes
  have hr := B.returns
  have hts := atoms_spec (ws := wsX5_about) B.pre
  have hown : s.vm.findClass RX5 = some m.cls := findClass_of_methodNamed B.named
  have hlocks := B.notSynchronized
  have hl := lv_entry ([.ref h0, .int 0]) (n := 2) (Nat.le_of_ble_eq_true rfl)
  rw [lg_entry_eq]
  generalize (lg_sl ([.ref h0, .int 0]) ++ List.replicate (2 - (lg_sl ([.ref h0, .int 0])).length) Slot.unset).toArray = ls at hl ⊢
  have hl : lv_has ls 2 [(0, .ref h0), (1, .int 0)] := hl
  refine lv_iload_n hx hb dX5_about_0 rfl (lv_at hl 1 rfl) ?_
  refine lv_iconst (v := 5) hx hb dX5_about_1 (by decide) ?_
  refine vp_callSi (va_Run.run (va_runS (As := [.int 0, .int 5]) (rest := []) ⟨hx, hb, hml, hown, hts⟩ (cJ_isBelow l D cI cL cQ 0 5) (va_cwS 2 hts gX5_about_X5_isBelow rfl rfl rfl (by decide +kernel) ⟨Nat.le_of_ble_eq_true rfl, Nat.le_of_ble_eq_true rfl⟩) (jr_S hK hN hP [] rfl) rfl rfl hl.1 rfl (lv_room (Nat.le_of_ble_eq_true rfl)) dX5_about_2 ⟨Nat.le_of_ble_eq_true rfl, Nat.le_of_ble_eq_true rfl⟩)) (fun r f_1 => ?_)
  rcases f_1 with ⟨rfl, f_2, f_3⟩ | ⟨rfl, f_4⟩
  · refine va_csv (va_Run.run (va_runS (As := [.int 1]) (rest := []) ⟨hx, hb, hml, hown, hts⟩ (cJ_requireArgument_ok l D cI cL cQ) (va_cwS 1 hts gX5_about_X5_requireArgument rfl rfl rfl (by decide +kernel) ⟨Nat.le_of_ble_eq_true rfl, Nat.le_of_ble_eq_true rfl⟩) (jr_S hK hN hP [] rfl) rfl rfl hl.1 rfl (lv_room (Nat.le_of_ble_eq_true rfl)) dX5_about_5 ⟨Nat.le_of_ble_eq_true rfl, Nat.le_of_ble_eq_true rfl⟩)) (fun f_5 => ?_)
    refine lv_iload_n hx hb dX5_about_8 rfl (lv_at hl 1 rfl) ?_
    refine lv_tableIn (tgt := 40) hx hb dX5_about_9 (by decide) (by decide) rfl (by decide) ?_
    refine lv_aload_n hx hb dX5_about_40 rfl (lv_at hl 0 rfl) ?_
    refine va_get (D := D) (ci := 5) (v := .ref cu) (C := RX5) (T := TX5) (N := 5) hx hb hts (by decide +kernel) hown hK hP 0 rfl rfl 2 (by decide) (hts (.fieldLink RX5 30 "JoinDesk" "cursor" "LJoinDesk$Cursor;") (by decide +kernel)) (fun _ h9 => h9) rfl dX5_about_41 ?_
    refine vp_callSl (va_Run.run (va_runV (As := []) (rest := []) ⟨hx, hb, hml, hown, hts⟩ (cC_cellsRead l D cI cL cQ cu tl tr he ma 0 0 0) (cwV 0 hts gX5_about_X0_cellsRead rfl rfl rfl (by decide +kernel) ⟨Nat.le_of_ble_eq_true rfl, Nat.le_of_ble_eq_true rfl⟩) (jr_V hK hN hP [3] rfl 0 3 rfl rfl rfl) rfl rfl hl.1 rfl (lv_room (Nat.le_of_ble_eq_true rfl)) dX5_about_44 ⟨Nat.le_of_ble_eq_true rfl, Nat.le_of_ble_eq_true rfl⟩)) (fun r f_6 => ?_)
    obtain rfl := f_6
    exact W.lret (v := 0) hx hb hr (fun t ht hW => ⟨0, rfl, (by exact rfl), ht⟩) (fun _ h => nomatch h) dX5_about_47
  · exact False.elim (by revert f_4; decide)
set_option maxHeartbeats 1000000 in
set_option maxRecDepth 100000 in
theorem cJ_about_1 (l : Launch) (D : va_G) (cI cL cQ : ClassId) (a : Nat) (b : Nat) (h0 : Nat) (tl : Nat) (tr : Nat) (cu : Nat) (bk : Nat) (lk : Nat) (lv : Nat) (lo : Nat) (lp : Nat) (ll : Nat) (lf : Nat) (rk : Nat) (rv : Nat) (ro : Nat) (rp : Nat) (rl : Nat) (rf : Nat) (he : Nat) (ma : Nat) : Met l yX5_about wsX5_about ({ frames := 1, cells := 0, slots := 0, locals := 21 }) (jr_P D vwCl (jT cI cL cQ) cL cQ [.ref h0, .int 1] [(h0, .inr (5, [.ref tl, .ref tr, .ref cu, .ref bk, .int 0])), (tl, .inr (4, [.int (nI a), .ref lk, .ref lv, .ref lo, .ref lp, .ref ll, .ref lf, .int 0, .int 0])), (tr, .inr (4, [.int (nI b), .ref rk, .ref rv, .ref ro, .ref rp, .ref rl, .ref rf, .int 0, .int 0])), (cu, .inr (0, [.ref tl, .ref tr, .ref he, .ref ma, .int 0, .int 0, .long 0]))]) (vp_Sl (fun r : Int64 => r = 0)) 0 0 (fun _ => False) := by
  refine Met.ofW (cc := cX5_about) (maxL := 2) (ret := (some .long)) (by decide) rfl ?_
  intro p e s m args below meth c s₁ B hml hv
  obtain ⟨rfl, hP, hK, hN⟩ := hv
  have hx := B.exec
  have hb := B.bytes
  have hr := B.returns
  have hts := atoms_spec (ws := wsX5_about) B.pre
  have hown : s.vm.findClass RX5 = some m.cls := findClass_of_methodNamed B.named
  have hlocks := B.notSynchronized
  have hl := lv_entry ([.ref h0, .int 1]) (n := 2) (Nat.le_of_ble_eq_true rfl)
  rw [lg_entry_eq]
  generalize (lg_sl ([.ref h0, .int 1]) ++ List.replicate (2 - (lg_sl ([.ref h0, .int 1])).length) Slot.unset).toArray = ls at hl ⊢
  have hl : lv_has ls 2 [(0, .ref h0), (1, .int 1)] := hl
  refine lv_iload_n hx hb dX5_about_0 rfl (lv_at hl 1 rfl) ?_
  refine lv_iconst (v := 5) hx hb dX5_about_1 (by decide) ?_
  refine vp_callSi (va_Run.run (va_runS (As := [.int 1, .int 5]) (rest := []) ⟨hx, hb, hml, hown, hts⟩ (cJ_isBelow l D cI cL cQ 1 5) (va_cwS 2 hts gX5_about_X5_isBelow rfl rfl rfl (by decide +kernel) ⟨Nat.le_of_ble_eq_true rfl, Nat.le_of_ble_eq_true rfl⟩) (jr_S hK hN hP [] rfl) rfl rfl hl.1 rfl (lv_room (Nat.le_of_ble_eq_true rfl)) dX5_about_2 ⟨Nat.le_of_ble_eq_true rfl, Nat.le_of_ble_eq_true rfl⟩)) (fun r f_1 => ?_)
  rcases f_1 with ⟨rfl, f_2, f_3⟩ | ⟨rfl, f_4⟩
  · refine va_csv (va_Run.run (va_runS (As := [.int 1]) (rest := []) ⟨hx, hb, hml, hown, hts⟩ (cJ_requireArgument_ok l D cI cL cQ) (va_cwS 1 hts gX5_about_X5_requireArgument rfl rfl rfl (by decide +kernel) ⟨Nat.le_of_ble_eq_true rfl, Nat.le_of_ble_eq_true rfl⟩) (jr_S hK hN hP [] rfl) rfl rfl hl.1 rfl (lv_room (Nat.le_of_ble_eq_true rfl)) dX5_about_5 ⟨Nat.le_of_ble_eq_true rfl, Nat.le_of_ble_eq_true rfl⟩)) (fun f_5 => ?_)
    refine lv_iload_n hx hb dX5_about_8 rfl (lv_at hl 1 rfl) ?_
    refine lv_tableIn (tgt := 48) hx hb dX5_about_9 (by decide) (by decide) rfl (by decide) ?_
    refine lv_aload_n hx hb dX5_about_48 rfl (lv_at hl 0 rfl) ?_
    refine va_get (D := D) (ci := 5) (v := .ref tl) (C := RX5) (T := TX5) (N := 5) hx hb hts (by decide +kernel) hown hK hP 0 rfl rfl 0 (by decide) (hts (.fieldLink RX5 18 "JoinDesk" "left" "LJoinDesk$Table;") (by decide +kernel)) (fun _ h9 => h9) rfl dX5_about_49 ?_
    refine vp_callSi (va_Run.run (va_runV (As := []) (rest := []) ⟨hx, hb, hml, hown, hts⟩ (cT_size l D cI cL cQ tl (nI a) lk lv lo lp ll lf 0 0) (cwV 0 hts gX5_about_X4_size rfl rfl rfl (by decide +kernel) ⟨Nat.le_of_ble_eq_true rfl, Nat.le_of_ble_eq_true rfl⟩) (jr_V hK hN hP [1] rfl 4 1 rfl rfl rfl) rfl rfl hl.1 rfl (lv_room (Nat.le_of_ble_eq_true rfl)) dX5_about_52 ⟨Nat.le_of_ble_eq_true rfl, Nat.le_of_ble_eq_true rfl⟩)) (fun r f_6 => ?_)
    obtain rfl := f_6
    refine lv_i2l (v := 0) hx hb dX5_about_55 (by first | rfl | decide) ?_
    exact W.lret (v := 0) hx hb hr (fun t ht hW => ⟨0, rfl, (by exact rfl), ht⟩) (fun _ h => nomatch h) dX5_about_56
  · exact False.elim (by revert f_4; decide)
set_option maxHeartbeats 1000000 in
set_option maxRecDepth 100000 in
theorem cJ_about_2 (l : Launch) (D : va_G) (cI cL cQ : ClassId) (a : Nat) (b : Nat) (h0 : Nat) (tl : Nat) (tr : Nat) (cu : Nat) (bk : Nat) (lk : Nat) (lv : Nat) (lo : Nat) (lp : Nat) (ll : Nat) (lf : Nat) (rk : Nat) (rv : Nat) (ro : Nat) (rp : Nat) (rl : Nat) (rf : Nat) (he : Nat) (ma : Nat) : Met l yX5_about wsX5_about ({ frames := 1, cells := 0, slots := 0, locals := 21 }) (jr_P D vwCl (jT cI cL cQ) cL cQ [.ref h0, .int 2] [(h0, .inr (5, [.ref tl, .ref tr, .ref cu, .ref bk, .int 0])), (tl, .inr (4, [.int (nI a), .ref lk, .ref lv, .ref lo, .ref lp, .ref ll, .ref lf, .int 0, .int 0])), (tr, .inr (4, [.int (nI b), .ref rk, .ref rv, .ref ro, .ref rp, .ref rl, .ref rf, .int 0, .int 0])), (cu, .inr (0, [.ref tl, .ref tr, .ref he, .ref ma, .int 0, .int 0, .long 0]))]) (vp_Sl (fun r : Int64 => r = 0)) 0 0 (fun _ => False) := by
  refine Met.ofW (cc := cX5_about) (maxL := 2) (ret := (some .long)) (by decide) rfl ?_
  intro p e s m args below meth c s₁ B hml hv
  obtain ⟨rfl, hP, hK, hN⟩ := hv
  have hx := B.exec
  have hb := B.bytes
  have hr := B.returns
  have hts := atoms_spec (ws := wsX5_about) B.pre
  have hown : s.vm.findClass RX5 = some m.cls := findClass_of_methodNamed B.named
  have hlocks := B.notSynchronized
  have hl := lv_entry ([.ref h0, .int 2]) (n := 2) (Nat.le_of_ble_eq_true rfl)
  rw [lg_entry_eq]
  generalize (lg_sl ([.ref h0, .int 2]) ++ List.replicate (2 - (lg_sl ([.ref h0, .int 2])).length) Slot.unset).toArray = ls at hl ⊢
  have hl : lv_has ls 2 [(0, .ref h0), (1, .int 2)] := hl
  refine lv_iload_n hx hb dX5_about_0 rfl (lv_at hl 1 rfl) ?_
  refine lv_iconst (v := 5) hx hb dX5_about_1 (by decide) ?_
  refine vp_callSi (va_Run.run (va_runS (As := [.int 2, .int 5]) (rest := []) ⟨hx, hb, hml, hown, hts⟩ (cJ_isBelow l D cI cL cQ 2 5) (va_cwS 2 hts gX5_about_X5_isBelow rfl rfl rfl (by decide +kernel) ⟨Nat.le_of_ble_eq_true rfl, Nat.le_of_ble_eq_true rfl⟩) (jr_S hK hN hP [] rfl) rfl rfl hl.1 rfl (lv_room (Nat.le_of_ble_eq_true rfl)) dX5_about_2 ⟨Nat.le_of_ble_eq_true rfl, Nat.le_of_ble_eq_true rfl⟩)) (fun r f_1 => ?_)
  rcases f_1 with ⟨rfl, f_2, f_3⟩ | ⟨rfl, f_4⟩
  · refine va_csv (va_Run.run (va_runS (As := [.int 1]) (rest := []) ⟨hx, hb, hml, hown, hts⟩ (cJ_requireArgument_ok l D cI cL cQ) (va_cwS 1 hts gX5_about_X5_requireArgument rfl rfl rfl (by decide +kernel) ⟨Nat.le_of_ble_eq_true rfl, Nat.le_of_ble_eq_true rfl⟩) (jr_S hK hN hP [] rfl) rfl rfl hl.1 rfl (lv_room (Nat.le_of_ble_eq_true rfl)) dX5_about_5 ⟨Nat.le_of_ble_eq_true rfl, Nat.le_of_ble_eq_true rfl⟩)) (fun f_5 => ?_)
    refine lv_iload_n hx hb dX5_about_8 rfl (lv_at hl 1 rfl) ?_
    refine lv_tableIn (tgt := 57) hx hb dX5_about_9 (by decide) (by decide) rfl (by decide) ?_
    refine lv_aload_n hx hb dX5_about_57 rfl (lv_at hl 0 rfl) ?_
    refine va_get (D := D) (ci := 5) (v := .ref tr) (C := RX5) (T := TX5) (N := 5) hx hb hts (by decide +kernel) hown hK hP 0 rfl rfl 1 (by decide) (hts (.fieldLink RX5 22 "JoinDesk" "right" "LJoinDesk$Table;") (by decide +kernel)) (fun _ h9 => h9) rfl dX5_about_58 ?_
    refine vp_callSi (va_Run.run (va_runV (As := []) (rest := []) ⟨hx, hb, hml, hown, hts⟩ (cT_size l D cI cL cQ tr (nI b) rk rv ro rp rl rf 0 0) (cwV 0 hts gX5_about_X4_size rfl rfl rfl (by decide +kernel) ⟨Nat.le_of_ble_eq_true rfl, Nat.le_of_ble_eq_true rfl⟩) (jr_V hK hN hP [2] rfl 4 2 rfl rfl rfl) rfl rfl hl.1 rfl (lv_room (Nat.le_of_ble_eq_true rfl)) dX5_about_61 ⟨Nat.le_of_ble_eq_true rfl, Nat.le_of_ble_eq_true rfl⟩)) (fun r f_6 => ?_)
    obtain rfl := f_6
    refine lv_i2l (v := 0) hx hb dX5_about_64 (by first | rfl | decide) ?_
    exact W.lret (v := 0) hx hb hr (fun t ht hW => ⟨0, rfl, (by exact rfl), ht⟩) (fun _ h => nomatch h) dX5_about_65
  · exact False.elim (by revert f_4; decide)
set_option maxHeartbeats 1000000 in
set_option maxRecDepth 100000 in
theorem cJ_about_3 (l : Launch) (D : va_G) (cI cL cQ : ClassId) (a : Nat) (b : Nat) (h0 : Nat) (tl : Nat) (tr : Nat) (cu : Nat) (bk : Nat) (lk : Nat) (lv : Nat) (lo : Nat) (lp : Nat) (ll : Nat) (lf : Nat) (rk : Nat) (rv : Nat) (ro : Nat) (rp : Nat) (rl : Nat) (rf : Nat) (he : Nat) (ma : Nat) : Met l yX5_about wsX5_about ({ frames := 1, cells := 0, slots := 0, locals := 21 }) (jr_P D vwCl (jT cI cL cQ) cL cQ [.ref h0, .int 3] [(h0, .inr (5, [.ref tl, .ref tr, .ref cu, .ref bk, .int 0])), (tl, .inr (4, [.int (nI a), .ref lk, .ref lv, .ref lo, .ref lp, .ref ll, .ref lf, .int 0, .int 0])), (tr, .inr (4, [.int (nI b), .ref rk, .ref rv, .ref ro, .ref rp, .ref rl, .ref rf, .int 0, .int 0])), (cu, .inr (0, [.ref tl, .ref tr, .ref he, .ref ma, .int 0, .int 0, .long 0]))]) (vp_Sl (fun r : Int64 => r = 0)) 0 0 (fun _ => False) := by
  refine Met.ofW (cc := cX5_about) (maxL := 2) (ret := (some .long)) (by decide) rfl ?_
  intro p e s m args below meth c s₁ B hml hv
  obtain ⟨rfl, hP, hK, hN⟩ := hv
  have hx := B.exec
  have hb := B.bytes
  have hr := B.returns
  have hts := atoms_spec (ws := wsX5_about) B.pre
  have hown : s.vm.findClass RX5 = some m.cls := findClass_of_methodNamed B.named
  have hlocks := B.notSynchronized
  have hl := lv_entry ([.ref h0, .int 3]) (n := 2) (Nat.le_of_ble_eq_true rfl)
  rw [lg_entry_eq]
  generalize (lg_sl ([.ref h0, .int 3]) ++ List.replicate (2 - (lg_sl ([.ref h0, .int 3])).length) Slot.unset).toArray = ls at hl ⊢
  have hl : lv_has ls 2 [(0, .ref h0), (1, .int 3)] := hl
  refine lv_iload_n hx hb dX5_about_0 rfl (lv_at hl 1 rfl) ?_
  refine lv_iconst (v := 5) hx hb dX5_about_1 (by decide) ?_
  refine vp_callSi (va_Run.run (va_runS (As := [.int 3, .int 5]) (rest := []) ⟨hx, hb, hml, hown, hts⟩ (cJ_isBelow l D cI cL cQ 3 5) (va_cwS 2 hts gX5_about_X5_isBelow rfl rfl rfl (by decide +kernel) ⟨Nat.le_of_ble_eq_true rfl, Nat.le_of_ble_eq_true rfl⟩) (jr_S hK hN hP [] rfl) rfl rfl hl.1 rfl (lv_room (Nat.le_of_ble_eq_true rfl)) dX5_about_2 ⟨Nat.le_of_ble_eq_true rfl, Nat.le_of_ble_eq_true rfl⟩)) (fun r f_1 => ?_)
  rcases f_1 with ⟨rfl, f_2, f_3⟩ | ⟨rfl, f_4⟩
  · refine va_csv (va_Run.run (va_runS (As := [.int 1]) (rest := []) ⟨hx, hb, hml, hown, hts⟩ (cJ_requireArgument_ok l D cI cL cQ) (va_cwS 1 hts gX5_about_X5_requireArgument rfl rfl rfl (by decide +kernel) ⟨Nat.le_of_ble_eq_true rfl, Nat.le_of_ble_eq_true rfl⟩) (jr_S hK hN hP [] rfl) rfl rfl hl.1 rfl (lv_room (Nat.le_of_ble_eq_true rfl)) dX5_about_5 ⟨Nat.le_of_ble_eq_true rfl, Nat.le_of_ble_eq_true rfl⟩)) (fun f_5 => ?_)
    refine lv_iload_n hx hb dX5_about_8 rfl (lv_at hl 1 rfl) ?_
    refine lv_tableIn (tgt := 66) hx hb dX5_about_9 (by decide) (by decide) rfl (by decide) ?_
    refine lv_aload_n hx hb dX5_about_66 rfl (lv_at hl 0 rfl) ?_
    refine va_get (D := D) (ci := 5) (v := .int 0) (C := RX5) (T := TX5) (N := 5) hx hb hts (by decide +kernel) hown hK hP 0 rfl rfl 4 (by decide) (hts (.fieldLink RX5 41 "JoinDesk" "prepared" "Z") (by decide +kernel)) (fun _ h9 => h9) rfl dX5_about_67 ?_
    refine lv_if_eq (tgt := 77) hx hb dX5_about_70 (by decide) (fun c_6 => ?_) (fun c_6 => absurd c_6 (by decide))
    refine lv_lconst (v := 0) hx hb dX5_about_77 (by decide) ?_
    exact W.lret (v := 0) hx hb hr (fun t ht hW => ⟨0, rfl, (by exact rfl), ht⟩) (fun _ h => nomatch h) dX5_about_78
  · exact False.elim (by revert f_4; decide)
set_option maxHeartbeats 1000000 in
set_option maxRecDepth 100000 in
theorem cJ_about_4 (l : Launch) (D : va_G) (cI cL cQ : ClassId) (a : Nat) (b : Nat) (h0 : Nat) (tl : Nat) (tr : Nat) (cu : Nat) (bk : Nat) (lk : Nat) (lv : Nat) (lo : Nat) (lp : Nat) (ll : Nat) (lf : Nat) (rk : Nat) (rv : Nat) (ro : Nat) (rp : Nat) (rl : Nat) (rf : Nat) (he : Nat) (ma : Nat) : Met l yX5_about wsX5_about ({ frames := 1, cells := 0, slots := 0, locals := 21 }) (jr_P D vwCl (jT cI cL cQ) cL cQ [.ref h0, .int 4] [(h0, .inr (5, [.ref tl, .ref tr, .ref cu, .ref bk, .int 0])), (tl, .inr (4, [.int (nI a), .ref lk, .ref lv, .ref lo, .ref lp, .ref ll, .ref lf, .int 0, .int 0])), (tr, .inr (4, [.int (nI b), .ref rk, .ref rv, .ref ro, .ref rp, .ref rl, .ref rf, .int 0, .int 0])), (cu, .inr (0, [.ref tl, .ref tr, .ref he, .ref ma, .int 0, .int 0, .long 0]))]) (vp_Sl (fun r : Int64 => r = 0)) 0 0 (fun _ => False) := by
  refine Met.ofW (cc := cX5_about) (maxL := 2) (ret := (some .long)) (by decide) rfl ?_
  intro p e s m args below meth c s₁ B hml hv
  obtain ⟨rfl, hP, hK, hN⟩ := hv
  have hx := B.exec
  have hb := B.bytes
  have hr := B.returns
  have hts := atoms_spec (ws := wsX5_about) B.pre
  have hown : s.vm.findClass RX5 = some m.cls := findClass_of_methodNamed B.named
  have hlocks := B.notSynchronized
  have hl := lv_entry ([.ref h0, .int 4]) (n := 2) (Nat.le_of_ble_eq_true rfl)
  rw [lg_entry_eq]
  generalize (lg_sl ([.ref h0, .int 4]) ++ List.replicate (2 - (lg_sl ([.ref h0, .int 4])).length) Slot.unset).toArray = ls at hl ⊢
  have hl : lv_has ls 2 [(0, .ref h0), (1, .int 4)] := hl
  refine lv_iload_n hx hb dX5_about_0 rfl (lv_at hl 1 rfl) ?_
  refine lv_iconst (v := 5) hx hb dX5_about_1 (by decide) ?_
  refine vp_callSi (va_Run.run (va_runS (As := [.int 4, .int 5]) (rest := []) ⟨hx, hb, hml, hown, hts⟩ (cJ_isBelow l D cI cL cQ 4 5) (va_cwS 2 hts gX5_about_X5_isBelow rfl rfl rfl (by decide +kernel) ⟨Nat.le_of_ble_eq_true rfl, Nat.le_of_ble_eq_true rfl⟩) (jr_S hK hN hP [] rfl) rfl rfl hl.1 rfl (lv_room (Nat.le_of_ble_eq_true rfl)) dX5_about_2 ⟨Nat.le_of_ble_eq_true rfl, Nat.le_of_ble_eq_true rfl⟩)) (fun r f_1 => ?_)
  rcases f_1 with ⟨rfl, f_2, f_3⟩ | ⟨rfl, f_4⟩
  · refine va_csv (va_Run.run (va_runS (As := [.int 1]) (rest := []) ⟨hx, hb, hml, hown, hts⟩ (cJ_requireArgument_ok l D cI cL cQ) (va_cwS 1 hts gX5_about_X5_requireArgument rfl rfl rfl (by decide +kernel) ⟨Nat.le_of_ble_eq_true rfl, Nat.le_of_ble_eq_true rfl⟩) (jr_S hK hN hP [] rfl) rfl rfl hl.1 rfl (lv_room (Nat.le_of_ble_eq_true rfl)) dX5_about_5 ⟨Nat.le_of_ble_eq_true rfl, Nat.le_of_ble_eq_true rfl⟩)) (fun f_5 => ?_)
    refine lv_iload_n hx hb dX5_about_8 rfl (lv_at hl 1 rfl) ?_
    refine lv_tableOut (tgt := 79) hx hb dX5_about_9 (by decide) (by decide) ?_
    refine lv_aload_n hx hb dX5_about_79 rfl (lv_at hl 0 rfl) ?_
    refine va_get (D := D) (ci := 5) (v := .ref cu) (C := RX5) (T := TX5) (N := 5) hx hb hts (by decide +kernel) hown hK hP 0 rfl rfl 2 (by decide) (hts (.fieldLink RX5 30 "JoinDesk" "cursor" "LJoinDesk$Cursor;") (by decide +kernel)) (fun _ h9 => h9) rfl dX5_about_80 ?_
    refine vp_callSi (va_Run.run (va_runV (As := []) (rest := []) ⟨hx, hb, hml, hown, hts⟩ (cC_kindInUse l D cI cL cQ cu tl tr he ma 0 0 0) (cwV 0 hts gX5_about_X0_kindInUse rfl rfl rfl (by decide +kernel) ⟨Nat.le_of_ble_eq_true rfl, Nat.le_of_ble_eq_true rfl⟩) (jr_V hK hN hP [3] rfl 0 3 rfl rfl rfl) rfl rfl hl.1 rfl (lv_room (Nat.le_of_ble_eq_true rfl)) dX5_about_83 ⟨Nat.le_of_ble_eq_true rfl, Nat.le_of_ble_eq_true rfl⟩)) (fun r f_6 => ?_)
    obtain rfl := f_6
    refine lv_i2l (v := 0) hx hb dX5_about_86 (by first | rfl | decide) ?_
    exact W.lret (v := 0) hx hb hr (fun t ht hW => ⟨0, rfl, (by exact rfl), ht⟩) (fun _ h => nomatch h) dX5_about_87
  · exact False.elim (by revert f_4; decide)
set_option maxHeartbeats 1000000 in
set_option maxRecDepth 100000 in
theorem cJ_clear (l : Launch) (D : va_G) (cI cL cQ : ClassId) (a : Nat) (b : Nat) (h0 : Nat) (tl : Nat) (tr : Nat) (cu : Nat) (bk : Nat) (lk : Nat) (lv : Nat) (lo : Nat) (lp : Nat) (ll : Nat) (lf : Nat) (rk : Nat) (rv : Nat) (ro : Nat) (rp : Nat) (rl : Nat) (rf : Nat) (he : Nat) (ma : Nat) (sz : Nat) : Met l yX5_clear wsX5_clear ({ frames := 1, cells := 0, slots := 0, locals := 21 }) (jw_P D vwCl (jT cI cL cQ) cL cQ [.ref h0] [(h0, .inr (5, [.ref tl, .ref tr, .ref cu, .ref bk, .int 0])), (tl, .inr (4, [.int (nI a), .ref lk, .ref lv, .ref lo, .ref lp, .ref ll, .ref lf, .int 0, .int 0])), (tr, .inr (4, [.int (nI b), .ref rk, .ref rv, .ref ro, .ref rp, .ref rl, .ref rf, .int 0, .int 0])), (cu, .inr (0, [.ref tl, .ref tr, .ref he, .ref ma, .int 0, .int 0, .long 0]))] sz) (va_Qv (fun u : va_W => u = [(h0, .inr (5, [.ref tl, .ref tr, .ref cu, .ref bk, .int 0])), (tl, .inr (4, [.int (nI a), .ref lk, .ref lv, .ref lo, .ref lp, .ref ll, .ref lf, .int 0, .int 0])), (tr, .inr (4, [.int (nI b), .ref rk, .ref rv, .ref ro, .ref rp, .ref rl, .ref rf, .int 0, .int 0])), (cu, .inr (0, [.ref tl, .ref tr, .ref he, .ref ma, .int 0, .int 0, .long 0]))]) (jw_B D vwCl (va_A [(h0, .inr (5, [.ref tl, .ref tr, .ref cu, .ref bk, .int 0])), (tl, .inr (4, [.int (nI a), .ref lk, .ref lv, .ref lo, .ref lp, .ref ll, .ref lf, .int 0, .int 0])), (tr, .inr (4, [.int (nI b), .ref rk, .ref rv, .ref ro, .ref rp, .ref rl, .ref rf, .int 0, .int 0])), (cu, .inr (0, [.ref tl, .ref tr, .ref he, .ref ma, .int 0, .int 0, .long 0]))] sz) (fun u : va_W => u)) (va_A [(h0, .inr (5, [.ref tl, .ref tr, .ref cu, .ref bk, .int 0])), (tl, .inr (4, [.int (nI a), .ref lk, .ref lv, .ref lo, .ref lp, .ref ll, .ref lf, .int 0, .int 0])), (tr, .inr (4, [.int (nI b), .ref rk, .ref rv, .ref ro, .ref rp, .ref rl, .ref rf, .int 0, .int 0])), (cu, .inr (0, [.ref tl, .ref tr, .ref he, .ref ma, .int 0, .int 0, .long 0]))] sz)) 0 0 (va_A [(h0, .inr (5, [.ref tl, .ref tr, .ref cu, .ref bk, .int 0])), (tl, .inr (4, [.int (nI a), .ref lk, .ref lv, .ref lo, .ref lp, .ref ll, .ref lf, .int 0, .int 0])), (tr, .inr (4, [.int (nI b), .ref rk, .ref rv, .ref ro, .ref rp, .ref rl, .ref rf, .int 0, .int 0])), (cu, .inr (0, [.ref tl, .ref tr, .ref he, .ref ma, .int 0, .int 0, .long 0]))] sz) := by
  refine Met.ofW (cc := cX5_clear) (maxL := 1) (ret := none) (by decide) rfl ?_
  intro p e s m args below meth c s₁ B hml hv
  obtain ⟨rfl, hsz, hP, hK, hN, hD0⟩ := hv
  have hx := B.exec
  have hb := B.bytes
  have hr := B.returns
  have hts := atoms_spec (ws := wsX5_clear) B.pre
  have hown : s.vm.findClass RX5 = some m.cls := findClass_of_methodNamed B.named
  have hlocks := B.notSynchronized
  subst hsz
  have hD := hD0.self (sz := s.heap.size)
  generalize hAe : va_A [(h0, .inr (5, [.ref tl, .ref tr, .ref cu, .ref bk, .int 0])), (tl, .inr (4, [.int (nI a), .ref lk, .ref lv, .ref lo, .ref lp, .ref ll, .ref lf, .int 0, .int 0])), (tr, .inr (4, [.int (nI b), .ref rk, .ref rv, .ref ro, .ref rp, .ref rl, .ref rf, .int 0, .int 0])), (cu, .inr (0, [.ref tl, .ref tr, .ref he, .ref ma, .int 0, .int 0, .long 0]))] s.heap.size = A at hD ⊢
  have hA : ∀ q : Nat, s.heap.size ≤ q → A q := fun q h => by rw [← hAe]; exact Or.inr h
  have hS : va_S A s.heap s.heap [] := va_S.rf
  have hl := lv_entry ([.ref h0]) (n := 1) (Nat.le_of_ble_eq_true rfl)
  rw [lg_entry_eq]
  generalize (lg_sl ([.ref h0]) ++ List.replicate (1 - (lg_sl ([.ref h0])).length) Slot.unset).toArray = ls at hl ⊢
  have hl : lv_has ls 1 [(0, .ref h0)] := hl
  refine lv_aload_n hx hb dX5_clear_0 rfl (lv_at hl 0 rfl) ?_
  refine va_get (D := D) (ci := 5) (v := .ref tl) (C := RX5) (T := TX5) (N := 5) hx hb hts (by decide +kernel) hown hK hP 0 rfl rfl 0 (by decide) (hts (.fieldLink RX5 18 "JoinDesk" "left" "LJoinDesk$Table;") (by decide +kernel)) (fun _ h9 => h9) rfl dX5_clear_1 ?_
  refine jw_v (wr := [(h0, .inr (5, [.ref tl, .ref tr, .ref cu, .ref bk, .int 0])), (tr, .inr (4, [.int (nI b), .ref rk, .ref rv, .ref ro, .ref rp, .ref rl, .ref rf, .int 0, .int 0])), (cu, .inr (0, [.ref tl, .ref tr, .ref he, .ref ma, .int 0, .int 0, .long 0]))]) (va_runV (As := []) (rest := []) ⟨hx, hb, hml, hown, hts⟩ (cT_empty l D cI cL cQ tl (nI a) lk lv lo lp ll lf 0 0 _) (cwV 0 hts gX5_clear_X4_empty rfl rfl rfl (by decide +kernel) ⟨Nat.le_of_ble_eq_true rfl, Nat.le_of_ble_eq_true rfl⟩) (jw_V hK hN hP hD [1] (by decide) rfl 4 1 rfl rfl rfl) rfl rfl hl.1 rfl (lv_room (Nat.le_of_ble_eq_true rfl)) dX5_clear_4 ⟨Nat.le_of_ble_eq_true rfl, Nat.le_of_ble_eq_true rfl⟩) hP hD hS hA [1] [0, 2, 3] rfl rfl (by decide) (by decide) (fun u H locs f_1 hP hD hS => ?_)
  obtain rfl := f_1
  have hP : va_P D vwCl [(h0, .inr (5, [.ref tl, .ref tr, .ref cu, .ref bk, .int 0])), (tr, .inr (4, [.int (nI b), .ref rk, .ref rv, .ref ro, .ref rp, .ref rl, .ref rf, .int 0, .int 0])), (cu, .inr (0, [.ref tl, .ref tr, .ref he, .ref ma, .int 0, .int 0, .long 0])), (tl, .inr (4, [.int (nI a), .ref lk, .ref lv, .ref lo, .ref lp, .ref ll, .ref lf, .int 0, .int 0]))] H := hP
  have hD : va_D A [(h0, .inr (5, [.ref tl, .ref tr, .ref cu, .ref bk, .int 0])), (tr, .inr (4, [.int (nI b), .ref rk, .ref rv, .ref ro, .ref rp, .ref rl, .ref rf, .int 0, .int 0])), (cu, .inr (0, [.ref tl, .ref tr, .ref he, .ref ma, .int 0, .int 0, .long 0])), (tl, .inr (4, [.int (nI a), .ref lk, .ref lv, .ref lo, .ref lp, .ref ll, .ref lf, .int 0, .int 0]))] := hD
  refine lv_aload_n hx hb dX5_clear_7 rfl (lv_at hl 0 rfl) ?_
  refine va_get (D := D) (ci := 5) (v := .ref tr) (C := RX5) (T := TX5) (N := 5) hx hb hts (by decide +kernel) hown hK hP 0 rfl rfl 1 (by decide) (hts (.fieldLink RX5 22 "JoinDesk" "right" "LJoinDesk$Table;") (by decide +kernel)) (fun _ h9 => h9) rfl dX5_clear_8 ?_
  refine jw_v (wr := [(h0, .inr (5, [.ref tl, .ref tr, .ref cu, .ref bk, .int 0])), (cu, .inr (0, [.ref tl, .ref tr, .ref he, .ref ma, .int 0, .int 0, .long 0])), (tl, .inr (4, [.int (nI a), .ref lk, .ref lv, .ref lo, .ref lp, .ref ll, .ref lf, .int 0, .int 0]))]) (va_runV (As := []) (rest := []) ⟨hx, hb, hml, hown, hts⟩ (cT_empty l D cI cL cQ tr (nI b) rk rv ro rp rl rf 0 0 _) (cwV 0 hts gX5_clear_X4_empty rfl rfl rfl (by decide +kernel) ⟨Nat.le_of_ble_eq_true rfl, Nat.le_of_ble_eq_true rfl⟩) (jw_V hK hN hP hD [1] (by decide) rfl 4 1 rfl rfl rfl) rfl rfl hl.1 rfl (lv_room (Nat.le_of_ble_eq_true rfl)) dX5_clear_11 ⟨Nat.le_of_ble_eq_true rfl, Nat.le_of_ble_eq_true rfl⟩) hP hD hS hA [1] [0, 2, 3] rfl rfl (by decide) (by decide) (fun u H locs f_2 hP hD hS => ?_)
  obtain rfl := f_2
  have hP : va_P D vwCl [(h0, .inr (5, [.ref tl, .ref tr, .ref cu, .ref bk, .int 0])), (cu, .inr (0, [.ref tl, .ref tr, .ref he, .ref ma, .int 0, .int 0, .long 0])), (tl, .inr (4, [.int (nI a), .ref lk, .ref lv, .ref lo, .ref lp, .ref ll, .ref lf, .int 0, .int 0])), (tr, .inr (4, [.int (nI b), .ref rk, .ref rv, .ref ro, .ref rp, .ref rl, .ref rf, .int 0, .int 0]))] H := hP
  have hD : va_D A [(h0, .inr (5, [.ref tl, .ref tr, .ref cu, .ref bk, .int 0])), (cu, .inr (0, [.ref tl, .ref tr, .ref he, .ref ma, .int 0, .int 0, .long 0])), (tl, .inr (4, [.int (nI a), .ref lk, .ref lv, .ref lo, .ref lp, .ref ll, .ref lf, .int 0, .int 0])), (tr, .inr (4, [.int (nI b), .ref rk, .ref rv, .ref ro, .ref rp, .ref rl, .ref rf, .int 0, .int 0]))] := hD
  refine lv_aload_n hx hb dX5_clear_14 rfl (lv_at hl 0 rfl) ?_
  refine va_get (D := D) (ci := 5) (v := .ref cu) (C := RX5) (T := TX5) (N := 5) hx hb hts (by decide +kernel) hown hK hP 0 rfl rfl 2 (by decide) (hts (.fieldLink RX5 30 "JoinDesk" "cursor" "LJoinDesk$Cursor;") (by decide +kernel)) (fun _ h9 => h9) rfl dX5_clear_15 ?_
  refine lv_iconst (v := 0) hx hb dX5_clear_18 (by decide) ?_
  refine jw_v (wr := [(h0, .inr (5, [.ref tl, .ref tr, .ref cu, .ref bk, .int 0])), (tl, .inr (4, [.int (nI a), .ref lk, .ref lv, .ref lo, .ref lp, .ref ll, .ref lf, .int 0, .int 0])), (tr, .inr (4, [.int (nI b), .ref rk, .ref rv, .ref ro, .ref rp, .ref rl, .ref rf, .int 0, .int 0]))]) (va_runV (As := [.int 0]) (rest := []) ⟨hx, hb, hml, hown, hts⟩ (cC_useKind l D cI cL cQ cu tl tr he ma 0 0 0 0 _) (cwV 1 hts gX5_clear_X0_useKind rfl rfl rfl (by decide +kernel) ⟨Nat.le_of_ble_eq_true rfl, Nat.le_of_ble_eq_true rfl⟩) (jw_V hK hN hP hD [1] (by decide) rfl 0 1 rfl rfl rfl) rfl rfl hl.1 rfl (lv_room (Nat.le_of_ble_eq_true rfl)) dX5_clear_19 ⟨Nat.le_of_ble_eq_true rfl, Nat.le_of_ble_eq_true rfl⟩) hP hD hS hA [1] [0, 2, 3] rfl rfl (by decide) (by decide) (fun u H locs f_3 hP hD hS => ?_)
  obtain rfl := f_3
  have hP : va_P D vwCl [(h0, .inr (5, [.ref tl, .ref tr, .ref cu, .ref bk, .int 0])), (tl, .inr (4, [.int (nI a), .ref lk, .ref lv, .ref lo, .ref lp, .ref ll, .ref lf, .int 0, .int 0])), (tr, .inr (4, [.int (nI b), .ref rk, .ref rv, .ref ro, .ref rp, .ref rl, .ref rf, .int 0, .int 0])), (cu, .inr (0, [.ref tl, .ref tr, .ref he, .ref ma, .int 0, .int 0, .long 0]))] H := hP
  have hD : va_D A [(h0, .inr (5, [.ref tl, .ref tr, .ref cu, .ref bk, .int 0])), (tl, .inr (4, [.int (nI a), .ref lk, .ref lv, .ref lo, .ref lp, .ref ll, .ref lf, .int 0, .int 0])), (tr, .inr (4, [.int (nI b), .ref rk, .ref rv, .ref ro, .ref rp, .ref rl, .ref rf, .int 0, .int 0])), (cu, .inr (0, [.ref tl, .ref tr, .ref he, .ref ma, .int 0, .int 0, .long 0]))] := hD
  refine lv_aload_n hx hb dX5_clear_22 rfl (lv_at hl 0 rfl) ?_
  refine lv_iconst (v := 0) hx hb dX5_clear_23 (by decide) ?_
  refine va_put (D := D) (ci := 5) (v := .int 0) (ty := .boolean) (C := RX5) (T := TX5) (N := 5) hx hb hts (by decide +kernel) tyX5 tyX5_ok nmX5 hown hK hP hD hS 0 rfl rfl 4 (by decide) (hts (.fieldLink RX5 41 "JoinDesk" "prepared" "Z") (by decide +kernel)) (fun _ h9 => h9) rfl (by decide +kernel) rfl rfl (Nat.le_of_ble_eq_true rfl) dX5_clear_24 (fun H locs hP hD hS => ?_)
  have hP : va_P D vwCl [(h0, .inr (5, [.ref tl, .ref tr, .ref cu, .ref bk, .int 0])), (tl, .inr (4, [.int (nI a), .ref lk, .ref lv, .ref lo, .ref lp, .ref ll, .ref lf, .int 0, .int 0])), (tr, .inr (4, [.int (nI b), .ref rk, .ref rv, .ref ro, .ref rp, .ref rl, .ref rf, .int 0, .int 0])), (cu, .inr (0, [.ref tl, .ref tr, .ref he, .ref ma, .int 0, .int 0, .long 0]))] H := hP
  have hD : va_D A [(h0, .inr (5, [.ref tl, .ref tr, .ref cu, .ref bk, .int 0])), (tl, .inr (4, [.int (nI a), .ref lk, .ref lv, .ref lo, .ref lp, .ref ll, .ref lf, .int 0, .int 0])), (tr, .inr (4, [.int (nI b), .ref rk, .ref rv, .ref ro, .ref rp, .ref rl, .ref rf, .int 0, .int 0])), (cu, .inr (0, [.ref tl, .ref tr, .ref he, .ref ma, .int 0, .int 0, .long 0]))] := hD
  refine W.widen (k := 0) (n := 0) (by omega) (by omega) ?_
  exact W.vret hx hb hr (fun t ht hW => ⟨⟨[(h0, .inr (5, [.ref tl, .ref tr, .ref cu, .ref bk, .int 0])), (tl, .inr (4, [.int (nI a), .ref lk, .ref lv, .ref lo, .ref lp, .ref ll, .ref lf, .int 0, .int 0])), (tr, .inr (4, [.int (nI b), .ref rk, .ref rv, .ref ro, .ref rp, .ref rl, .ref rf, .int 0, .int 0])), (cu, .inr (0, [.ref tl, .ref tr, .ref he, .ref ma, .int 0, .int 0, .long 0]))], rfl, (by exact rfl), by rw [ht]; exact hP, hD⟩, hS.F ht⟩) hS.2.2 dX5_clear_27
