set_option maxHeartbeats 1000000 in
set_option maxRecDepth 100000 in
theorem gJ_requireState_ok (l : Launch) (D : va_G) (cI cL cQ : ClassId) : Met l yX5_requireState wsX5_requireState ({ frames := 0, cells := 0, slots := 0, locals := 0 }) (jr_P D vwCl (jT cI cL cQ) cL cQ [.int 1] []) (va_Sv (fun _ : Unit => True)) 0 0 (fun _ => False) := by
  refine Met.ofW (cc := cX5_requireState) (maxL := 1) (ret := none) (by decide) rfl ?_
  intro p e s m args below meth c s₁ B hml hv
  obtain ⟨rfl, hP, hK, hN⟩ := hv
  have hx := B.exec
  have hb := B.bytes
  have hr := B.returns
  have hts := atoms_spec (ws := wsX5_requireState) B.pre
  have hown : s.vm.findClass RX5 = some m.cls := findClass_of_methodNamed B.named
  have hlocks := B.notSynchronized
  have hl := lv_entry ([.int 1]) (n := 1) (Nat.le_of_ble_eq_true rfl)
  rw [lg_entry_eq]
  generalize (lg_sl ([.int 1]) ++ List.replicate (1 - (lg_sl ([.int 1])).length) Slot.unset).toArray = ls at hl ⊢
  have hl : lv_has ls 1 [(0, .int 1)] := hl
  refine lv_iload_n hx hb dX5_requireState_0 rfl (lv_at hl 0 rfl) ?_
  refine lv_if_ne (tgt := 14) hx hb dX5_requireState_1 (by decide) (fun c_1 => ?_) (fun c_1 => absurd c_1 (by decide))
  exact W.vret hx hb hr (fun t ht hW => ⟨rfl, (by exact trivial), ht⟩) (fun _ h => nomatch h) dX5_requireState_14
set_option maxHeartbeats 1000000 in
set_option maxRecDepth 100000 in
theorem gJ_requireArgument_ok (l : Launch) (D : va_G) (cI cL cQ : ClassId) : Met l yX5_requireArgument wsX5_requireArgument ({ frames := 0, cells := 0, slots := 0, locals := 0 }) (jr_P D vwCl (jT cI cL cQ) cL cQ [.int 1] []) (va_Sv (fun _ : Unit => True)) 0 0 (fun _ => False) := by
  refine Met.ofW (cc := cX5_requireArgument) (maxL := 1) (ret := none) (by decide) rfl ?_
  intro p e s m args below meth c s₁ B hml hv
  obtain ⟨rfl, hP, hK, hN⟩ := hv
  have hx := B.exec
  have hb := B.bytes
  have hr := B.returns
  have hts := atoms_spec (ws := wsX5_requireArgument) B.pre
  have hown : s.vm.findClass RX5 = some m.cls := findClass_of_methodNamed B.named
  have hlocks := B.notSynchronized
  have hl := lv_entry ([.int 1]) (n := 1) (Nat.le_of_ble_eq_true rfl)
  rw [lg_entry_eq]
  generalize (lg_sl ([.int 1]) ++ List.replicate (1 - (lg_sl ([.int 1])).length) Slot.unset).toArray = ls at hl ⊢
  have hl : lv_has ls 1 [(0, .int 1)] := hl
  refine lv_iload_n hx hb dX5_requireArgument_0 rfl (lv_at hl 0 rfl) ?_
  refine lv_if_ne (tgt := 14) hx hb dX5_requireArgument_1 (by decide) (fun c_1 => ?_) (fun c_1 => absurd c_1 (by decide))
  exact W.vret hx hb hr (fun t ht hW => ⟨rfl, (by exact trivial), ht⟩) (fun _ h => nomatch h) dX5_requireArgument_14
set_option maxHeartbeats 1000000 in
set_option maxRecDepth 100000 in
theorem gJ_tableOf_1 (l : Launch) (D : va_G) (cI cL cQ : ClassId) (h0 : Nat) (tl : Nat) (tr : Nat) (cu : Nat) (bk : Nat) (pr : Int32) : Met l yX5_tableOf wsX5_tableOf ({ frames := 0, cells := 0, slots := 0, locals := 0 }) (jr_P D vwCl (jT cI cL cQ) cL cQ [.ref h0, .int 1] [(h0, .inr (5, [.ref tl, .ref tr, .ref cu, .ref bk, .int pr]))]) (jr_Sr (fun r : Nat => r = tl)) 0 0 (fun _ => False) := by
  refine Met.ofW (cc := cX5_tableOf) (maxL := 2) (ret := (some (.object "JoinDesk$Table"))) (by decide) rfl ?_
  intro p e s m args below meth c s₁ B hml hv
  obtain ⟨rfl, hP, hK, hN⟩ := hv
  have hx := B.exec
  have hb := B.bytes
  have hr := B.returns
  have hts := atoms_spec (ws := wsX5_tableOf) B.pre
  have hown : s.vm.findClass RX5 = some m.cls := findClass_of_methodNamed B.named
  have hlocks := B.notSynchronized
  have hl := lv_entry ([.ref h0, .int 1]) (n := 2) (Nat.le_of_ble_eq_true rfl)
  rw [lg_entry_eq]
  generalize (lg_sl ([.ref h0, .int 1]) ++ List.replicate (2 - (lg_sl ([.ref h0, .int 1])).length) Slot.unset).toArray = ls at hl ⊢
  have hl : lv_has ls 2 [(0, .ref h0), (1, .int 1)] := hl
  refine lv_iload_n hx hb dX5_tableOf_0 rfl (lv_at hl 1 rfl) ?_
  refine lv_if_eq (tgt := 11) hx hb dX5_tableOf_1 (by decide) (fun c_1 => absurd c_1 (by decide)) (fun c_1 => ?_)
  refine lv_aload_n hx hb dX5_tableOf_4 rfl (lv_at hl 0 rfl) ?_
  refine va_get (D := D) (ci := 5) (v := .ref tl) (C := RX5) (T := TX5) (N := 5) hx hb hts (by decide +kernel) hown hK hP 0 rfl rfl 0 (by decide) (hts (.fieldLink RX5 18 "JoinDesk" "left" "LJoinDesk$Table;") (by decide +kernel)) (fun _ h9 => h9) rfl dX5_tableOf_5 ?_
  refine lv_goto (tgt := 15) hx hb dX5_tableOf_8 (by decide) ?_
  exact W.aret (v := .ref tl) hx hb hr (Or.inl ⟨_, rfl⟩) (Or.inr ⟨_, rfl⟩) (fun t ht hW => ⟨tl, rfl, (by exact rfl), ht⟩) (fun _ h => nomatch h) dX5_tableOf_15
set_option maxHeartbeats 1000000 in
set_option maxRecDepth 100000 in
theorem gJ_tableOf_0 (l : Launch) (D : va_G) (cI cL cQ : ClassId) (h0 : Nat) (tl : Nat) (tr : Nat) (cu : Nat) (bk : Nat) (pr : Int32) : Met l yX5_tableOf wsX5_tableOf ({ frames := 0, cells := 0, slots := 0, locals := 0 }) (jr_P D vwCl (jT cI cL cQ) cL cQ [.ref h0, .int 0] [(h0, .inr (5, [.ref tl, .ref tr, .ref cu, .ref bk, .int pr]))]) (jr_Sr (fun r : Nat => r = tr)) 0 0 (fun _ => False) := by
  refine Met.ofW (cc := cX5_tableOf) (maxL := 2) (ret := (some (.object "JoinDesk$Table"))) (by decide) rfl ?_
  intro p e s m args below meth c s₁ B hml hv
  obtain ⟨rfl, hP, hK, hN⟩ := hv
  have hx := B.exec
  have hb := B.bytes
  have hr := B.returns
  have hts := atoms_spec (ws := wsX5_tableOf) B.pre
  have hown : s.vm.findClass RX5 = some m.cls := findClass_of_methodNamed B.named
  have hlocks := B.notSynchronized
  have hl := lv_entry ([.ref h0, .int 0]) (n := 2) (Nat.le_of_ble_eq_true rfl)
  rw [lg_entry_eq]
  generalize (lg_sl ([.ref h0, .int 0]) ++ List.replicate (2 - (lg_sl ([.ref h0, .int 0])).length) Slot.unset).toArray = ls at hl ⊢
  have hl : lv_has ls 2 [(0, .ref h0), (1, .int 0)] := hl
  refine lv_iload_n hx hb dX5_tableOf_0 rfl (lv_at hl 1 rfl) ?_
  refine lv_if_eq (tgt := 11) hx hb dX5_tableOf_1 (by decide) (fun c_1 => ?_) (fun c_1 => absurd c_1 (by decide))
  refine lv_aload_n hx hb dX5_tableOf_11 rfl (lv_at hl 0 rfl) ?_
  refine va_get (D := D) (ci := 5) (v := .ref tr) (C := RX5) (T := TX5) (N := 5) hx hb hts (by decide +kernel) hown hK hP 0 rfl rfl 1 (by decide) (hts (.fieldLink RX5 22 "JoinDesk" "right" "LJoinDesk$Table;") (by decide +kernel)) (fun _ h9 => h9) rfl dX5_tableOf_12 ?_
  exact W.aret (v := .ref tr) hx hb hr (Or.inl ⟨_, rfl⟩) (Or.inr ⟨_, rfl⟩) (fun t ht hW => ⟨tr, rfl, (by exact rfl), ht⟩) (fun _ h => nomatch h) dX5_tableOf_15
set_option maxHeartbeats 1000000 in
set_option maxRecDepth 100000 in
theorem gJ_add_1 (l : Launch) (D : va_G) (cI cL cQ : ClassId) (h0 : Nat) (tl : Nat) (tr : Nat) (cu : Nat) (bk : Nat) (a : Nat) (n : Nat) (pl : Nat) (lk : Nat) (lv : Nat) (lo : Nat) (lp : Nat) (ll : Nat) (lf : Nat) (gk : Nat → Int32) (gv : Nat → Int32) (pr : Int32) (x : Int32) (y : Int32) (sz : Nat) (ha : a ≤ 400) (hlt : n < a) : Met l yX5_add wsX5_add ({ frames := 2, cells := 0, slots := 0, locals := 42 }) (jw_P D vwCl (jT cI cL cQ) cL cQ [.ref h0, .int 1, .int x, .int y] [(h0, .inr (5, [.ref tl, .ref tr, .ref cu, .ref bk, .int pr])), (tl, .inr (4, [.int (nI a), .ref lk, .ref lv, .ref lo, .ref lp, .ref ll, .ref lf, .int (nI n), .int (nI pl)])), (lk, .inl (cI, a, .inl gk)), (lv, .inl (cI, a, .inl gv))] sz) (va_Qi (fun (r : Int32) (u : va_W) => r = nI n ∧ u = [(h0, .inr (5, [.ref tl, .ref tr, .ref cu, .ref bk, .int 0])), (tl, .inr (4, [.int (nI a), .ref lk, .ref lv, .ref lo, .ref lp, .ref ll, .ref lf, .int (nI (n + 1)), .int (nI pl)])), (lk, .inl (cI, a, .inl (upd gk n x))), (lv, .inl (cI, a, .inl (upd gv n y)))]) (jw_B D vwCl (va_A [(h0, .inr (5, [.ref tl, .ref tr, .ref cu, .ref bk, .int pr])), (tl, .inr (4, [.int (nI a), .ref lk, .ref lv, .ref lo, .ref lp, .ref ll, .ref lf, .int (nI n), .int (nI pl)])), (lk, .inl (cI, a, .inl gk)), (lv, .inl (cI, a, .inl gv))] sz) (fun u : va_W => u)) (va_A [(h0, .inr (5, [.ref tl, .ref tr, .ref cu, .ref bk, .int pr])), (tl, .inr (4, [.int (nI a), .ref lk, .ref lv, .ref lo, .ref lp, .ref ll, .ref lf, .int (nI n), .int (nI pl)])), (lk, .inl (cI, a, .inl gk)), (lv, .inl (cI, a, .inl gv))] sz)) 0 0 (va_A [(h0, .inr (5, [.ref tl, .ref tr, .ref cu, .ref bk, .int pr])), (tl, .inr (4, [.int (nI a), .ref lk, .ref lv, .ref lo, .ref lp, .ref ll, .ref lf, .int (nI n), .int (nI pl)])), (lk, .inl (cI, a, .inl gk)), (lv, .inl (cI, a, .inl gv))] sz) := by
  refine Met.ofW (cc := cX5_add) (maxL := 5) (ret := (some .int)) (by decide) rfl ?_
  intro p e s m args below meth c s₁ B hml hv
  obtain ⟨rfl, hsz, hP, hK, hN, hD0⟩ := hv
  have hx := B.exec
  have hb := B.bytes
  have hr := B.returns
  have hts := atoms_spec (ws := wsX5_add) B.pre
  have hown : s.vm.findClass RX5 = some m.cls := findClass_of_methodNamed B.named
  have hlocks := B.notSynchronized
  subst hsz
  have hD := hD0.self (sz := s.heap.size)
  generalize hAe : va_A [(h0, .inr (5, [.ref tl, .ref tr, .ref cu, .ref bk, .int pr])), (tl, .inr (4, [.int (nI a), .ref lk, .ref lv, .ref lo, .ref lp, .ref ll, .ref lf, .int (nI n), .int (nI pl)])), (lk, .inl (cI, a, .inl gk)), (lv, .inl (cI, a, .inl gv))] s.heap.size = A at hD ⊢
  have hA : ∀ q : Nat, s.heap.size ≤ q → A q := fun q h => by rw [← hAe]; exact Or.inr h
  have hS : va_S A s.heap s.heap [] := va_S.rf
  have hl := lv_entry ([.ref h0, .int 1, .int x, .int y]) (n := 5) (Nat.le_of_ble_eq_true rfl)
  rw [lg_entry_eq]
  generalize (lg_sl ([.ref h0, .int 1, .int x, .int y]) ++ List.replicate (5 - (lg_sl ([.ref h0, .int 1, .int x, .int y])).length) Slot.unset).toArray = ls at hl ⊢
  have hl : lv_has ls 5 [(0, .ref h0), (1, .int 1), (2, .int x), (3, .int y)] := hl
  refine lv_aload_n hx hb dX5_add_0 rfl (lv_at hl 0 rfl) ?_
  refine lv_iload_n hx hb dX5_add_1 rfl (lv_at hl 1 rfl) ?_
  refine jr_callr (va_Run.run (va_runV (As := [.int 1]) (rest := []) ⟨hx, hb, hml, hown, hts⟩ (gJ_tableOf_1 l D cI cL cQ h0 tl tr cu bk pr) (cwV 1 hts gX5_add_X5_tableOf rfl rfl rfl (by decide +kernel) ⟨Nat.le_of_ble_eq_true rfl, Nat.le_of_ble_eq_true rfl⟩) (jr_V hK hN hP [0] rfl 5 0 rfl rfl rfl) rfl rfl hl.1 rfl (lv_room (Nat.le_of_ble_eq_true rfl)) dX5_add_2 ⟨Nat.le_of_ble_eq_true rfl, Nat.le_of_ble_eq_true rfl⟩)) (fun r f_1 => ?_)
  obtain er_2 := f_1
  subst r
  refine lv_astore (lv' := [(4, .ref tl), (0, .ref h0), (1, .int 1), (2, .int x), (3, .int y)]) hx hb dX5_add_5 hl (by decide) rfl (fun ls hl => ?_)
  refine lv_aload hx hb dX5_add_7 (lv_at hl 0 rfl) ?_
  refine vp_callSi (va_Run.run (va_runV (As := []) (rest := []) ⟨hx, hb, hml, hown, hts⟩ (gT_hasRoom l D cI cL cQ tl a n pl lk lv lo lp ll lf) (cwV 0 hts gX5_add_X4_hasRoom rfl rfl rfl (by decide +kernel) ⟨Nat.le_of_ble_eq_true rfl, Nat.le_of_ble_eq_true rfl⟩) (jr_V hK hN hP [1] rfl 4 1 rfl rfl rfl) rfl rfl hl.1 rfl (lv_room (Nat.le_of_ble_eq_true rfl)) dX5_add_9 ⟨Nat.le_of_ble_eq_true rfl, Nat.le_of_ble_eq_true rfl⟩)) (fun r f_3 => ?_)
  rcases f_3 with ⟨rfl, f_4⟩ | ⟨rfl, f_5⟩
  · refine va_csv (va_Run.run (va_runS (As := [.int 1]) (rest := []) ⟨hx, hb, hml, hown, hts⟩ (gJ_requireState_ok l D cI cL cQ) (va_cwS 1 hts gX5_add_X5_requireState rfl rfl rfl (by decide +kernel) ⟨Nat.le_of_ble_eq_true rfl, Nat.le_of_ble_eq_true rfl⟩) (jr_S hK hN hP [] rfl) rfl rfl hl.1 rfl (lv_room (Nat.le_of_ble_eq_true rfl)) dX5_add_12 ⟨Nat.le_of_ble_eq_true rfl, Nat.le_of_ble_eq_true rfl⟩)) (fun f_6 => ?_)
    refine lv_aload_n hx hb dX5_add_15 rfl (lv_at hl 1 rfl) ?_
    refine lv_iconst (v := 0) hx hb dX5_add_16 (by decide) ?_
    refine va_put (D := D) (ci := 5) (v := .int 0) (ty := .boolean) (C := RX5) (T := TX5) (N := 5) hx hb hts (by decide +kernel) tyX5 tyX5_ok nmX5 hown hK hP hD hS 0 rfl rfl 4 (by decide) (hts (.fieldLink RX5 41 "JoinDesk" "prepared" "Z") (by decide +kernel)) (fun _ h9 => h9) rfl (by decide +kernel) rfl rfl (Nat.le_of_ble_eq_true rfl) dX5_add_17 (fun H locs hP hD hS => ?_)
    have hP : va_P D vwCl [(h0, .inr (5, [.ref tl, .ref tr, .ref cu, .ref bk, .int 0])), (tl, .inr (4, [.int (nI a), .ref lk, .ref lv, .ref lo, .ref lp, .ref ll, .ref lf, .int (nI n), .int (nI pl)])), (lk, .inl (cI, a, .inl gk)), (lv, .inl (cI, a, .inl gv))] H := hP
    have hD : va_D A [(h0, .inr (5, [.ref tl, .ref tr, .ref cu, .ref bk, .int 0])), (tl, .inr (4, [.int (nI a), .ref lk, .ref lv, .ref lo, .ref lp, .ref ll, .ref lf, .int (nI n), .int (nI pl)])), (lk, .inl (cI, a, .inl gk)), (lv, .inl (cI, a, .inl gv))] := hD
    refine lv_aload hx hb dX5_add_20 (lv_at hl 0 rfl) ?_
    refine lv_iload_n hx hb dX5_add_22 rfl (lv_at hl 3 rfl) ?_
    refine lv_iload_n hx hb dX5_add_23 rfl (lv_at hl 4 rfl) ?_
    refine jw_i (wr := [(h0, .inr (5, [.ref tl, .ref tr, .ref cu, .ref bk, .int 0]))]) (va_runV (As := [.int x, .int y]) (rest := []) ⟨hx, hb, hml, hown, hts⟩ (gT_append l D cI cL cQ tl a n pl lk lv lo lp ll lf gk gv x y _ (by first | assumption | decide | omega) (by first | assumption | decide | omega)) (cwV 2 hts gX5_add_X4_append rfl rfl rfl (by decide +kernel) ⟨Nat.le_of_ble_eq_true rfl, Nat.le_of_ble_eq_true rfl⟩) (jw_V hK hN hP hD [1, 2, 3] (by decide) rfl 4 1 rfl rfl rfl) rfl rfl hl.1 rfl (lv_room (Nat.le_of_ble_eq_true rfl)) dX5_add_24 ⟨Nat.le_of_ble_eq_true rfl, Nat.le_of_ble_eq_true rfl⟩) hP hD hS hA [1, 2, 3] [0] rfl rfl (by decide) (by decide) (fun r u H locs f_7 hP hD hS => ?_)
    obtain ⟨rfl, rfl⟩ := f_7
    have hP : va_P D vwCl [(h0, .inr (5, [.ref tl, .ref tr, .ref cu, .ref bk, .int 0])), (tl, .inr (4, [.int (nI a), .ref lk, .ref lv, .ref lo, .ref lp, .ref ll, .ref lf, .int (nI (n + 1)), .int (nI pl)])), (lk, .inl (cI, a, .inl (upd gk n x))), (lv, .inl (cI, a, .inl (upd gv n y)))] H := hP
    have hD : va_D A [(h0, .inr (5, [.ref tl, .ref tr, .ref cu, .ref bk, .int 0])), (tl, .inr (4, [.int (nI a), .ref lk, .ref lv, .ref lo, .ref lp, .ref ll, .ref lf, .int (nI (n + 1)), .int (nI pl)])), (lk, .inl (cI, a, .inl (upd gk n x))), (lv, .inl (cI, a, .inl (upd gv n y)))] := hD
    refine W.widen (k := 0) (n := 0) (by omega) (by omega) ?_
    exact W.iret (v := nI n) hx hb hr (fun t ht hW => ⟨⟨(nI n), [(h0, .inr (5, [.ref tl, .ref tr, .ref cu, .ref bk, .int 0])), (tl, .inr (4, [.int (nI a), .ref lk, .ref lv, .ref lo, .ref lp, .ref ll, .ref lf, .int (nI (n + 1)), .int (nI pl)])), (lk, .inl (cI, a, .inl (upd gk n x))), (lv, .inl (cI, a, .inl (upd gv n y)))], rfl, (by exact ⟨rfl, rfl⟩), by rw [ht]; exact hP, hD⟩, hS.F ht⟩) hS.2.2 dX5_add_27
  · exact False.elim (by have h := f_5; rw [nI_leI (by omega) (by omega)] at h; omega)
set_option maxHeartbeats 1000000 in
set_option maxRecDepth 100000 in
theorem gJ_add_1t (l : Launch) (hnt : l.stackTraces = false) (D : va_G) (cI cL cQ : ClassId) (h0 : Nat) (tl : Nat) (tr : Nat) (cu : Nat) (bk : Nat) (a : Nat) (n : Nat) (pl : Nat) (lk : Nat) (lv : Nat) (lo : Nat) (lp : Nat) (ll : Nat) (lf : Nat) (pr : Int32) (x : Int32) (y : Int32) (ha : a ≤ 400) (hlt : n = a) : vx_Met l yX5_add wsX5_add ({ frames := 7, cells := 1, slots := 6, locals := 102 }) (jt_P D vwCl (jT cI cL cQ) cL cQ [.ref h0, .int 1, .int x, .int y] [(h0, .inr (5, [.ref tl, .ref tr, .ref cu, .ref bk, .int pr])), (tl, .inr (4, [.int (nI a), .ref lk, .ref lv, .ref lo, .ref lp, .ref ll, .ref lf, .int (nI n), .int (nI pl)]))]) (fun _ _ _ _ => False) (jx_X "java/lang/IllegalStateException") 1 6 (fun _ => False) := by
  refine vx_ofW (cc := cX5_add) (maxL := 5) (ret := (some .int)) (by decide) rfl ?_
  intro p e s m args below meth c s₁ B hml hxt hv
  obtain ⟨rfl, hP, hK, hN, hZ⟩ := hv
  have hx := B.exec
  have hb := B.bytes
  have hr := B.returns
  have hts := atoms_spec (ws := wsX5_add) B.pre
  have hown : s.vm.findClass RX5 = some m.cls := findClass_of_methodNamed B.named
  have hlocks := B.notSynchronized
  have hl := lv_entry ([.ref h0, .int 1, .int x, .int y]) (n := 5) (Nat.le_of_ble_eq_true rfl)
  rw [lg_entry_eq]
  generalize (lg_sl ([.ref h0, .int 1, .int x, .int y]) ++ List.replicate (5 - (lg_sl ([.ref h0, .int 1, .int x, .int y])).length) Slot.unset).toArray = ls at hl ⊢
  have hl : lv_has ls 5 [(0, .ref h0), (1, .int 1), (2, .int x), (3, .int y)] := hl
  refine lv_aload_n hx hb dX5_add_0 rfl (lv_at hl 0 rfl) ?_
  refine lv_iload_n hx hb dX5_add_1 rfl (lv_at hl 1 rfl) ?_
  refine jr_callr (va_Run.run (va_runV (As := [.int 1]) (rest := []) ⟨hx, hb, hml, hown, hts⟩ (gJ_tableOf_1 l D cI cL cQ h0 tl tr cu bk pr) (cwV 1 hts gX5_add_X5_tableOf rfl rfl rfl (by decide +kernel) ⟨Nat.le_of_ble_eq_true rfl, Nat.le_of_ble_eq_true rfl⟩) (jr_V hK hN hP [0] rfl 5 0 rfl rfl rfl) rfl rfl hl.1 rfl (lv_room (Nat.le_of_ble_eq_true rfl)) dX5_add_2 ⟨Nat.le_of_ble_eq_true rfl, Nat.le_of_ble_eq_true rfl⟩)) (fun r f_1 => ?_)
  obtain er_2 := f_1
  subst r
  refine lv_astore (lv' := [(4, .ref tl), (0, .ref h0), (1, .int 1), (2, .int x), (3, .int y)]) hx hb dX5_add_5 hl (by decide) rfl (fun ls hl => ?_)
  refine lv_aload hx hb dX5_add_7 (lv_at hl 0 rfl) ?_
  refine vp_callSi (va_Run.run (va_runV (As := []) (rest := []) ⟨hx, hb, hml, hown, hts⟩ (gT_hasRoom l D cI cL cQ tl a n pl lk lv lo lp ll lf) (cwV 0 hts gX5_add_X4_hasRoom rfl rfl rfl (by decide +kernel) ⟨Nat.le_of_ble_eq_true rfl, Nat.le_of_ble_eq_true rfl⟩) (jr_V hK hN hP [1] rfl 4 1 rfl rfl rfl) rfl rfl hl.1 rfl (lv_room (Nat.le_of_ble_eq_true rfl)) dX5_add_9 ⟨Nat.le_of_ble_eq_true rfl, Nat.le_of_ble_eq_true rfl⟩)) (fun r f_3 => ?_)
  rcases f_3 with ⟨rfl, f_4⟩ | ⟨rfl, f_5⟩
  · exact False.elim (by have h := f_4; rw [hlt, nI_leI (by omega) (by omega)] at h; omega)
  · refine jx_thr (vx_runS (As := [.int 0]) (rest := []) ⟨hx, hb, hml, hown, hts⟩ (cJ_requireState_t l hnt D cI cL cQ) (va_cwS 1 hts gX5_add_X5_requireState rfl rfl rfl (by decide +kernel) ⟨Nat.le_of_ble_eq_true rfl, Nat.le_of_ble_eq_true rfl⟩) (jt_S hK hN hZ hP [] rfl) rfl rfl hl.1 rfl (lv_room (Nat.le_of_ble_eq_true rfl)) dX5_add_12 ⟨Nat.le_of_ble_eq_true rfl, Nat.le_of_ble_eq_true rfl⟩) (fun ce q9 H1 hz hk hce hcv hcl => ?_)
    exact jx_out hxt hlocks hz hk hce hcv hcl (Nat.le_of_ble_eq_true rfl) (Nat.le_of_ble_eq_true rfl)
set_option maxHeartbeats 1000000 in
set_option maxRecDepth 100000 in
theorem gJ_add_0 (l : Launch) (D : va_G) (cI cL cQ : ClassId) (h0 : Nat) (tl : Nat) (tr : Nat) (cu : Nat) (bk : Nat) (a2 : Nat) (n2 : Nat) (pl2 : Nat) (rk : Nat) (rv : Nat) (ro : Nat) (rp : Nat) (rl : Nat) (rf : Nat) (hk : Nat → Int32) (hv : Nat → Int32) (pr : Int32) (x : Int32) (y : Int32) (sz : Nat) (ha : a2 ≤ 400) (hlt : n2 < a2) : Met l yX5_add wsX5_add ({ frames := 2, cells := 0, slots := 0, locals := 42 }) (jw_P D vwCl (jT cI cL cQ) cL cQ [.ref h0, .int 0, .int x, .int y] [(h0, .inr (5, [.ref tl, .ref tr, .ref cu, .ref bk, .int pr])), (tr, .inr (4, [.int (nI a2), .ref rk, .ref rv, .ref ro, .ref rp, .ref rl, .ref rf, .int (nI n2), .int (nI pl2)])), (rk, .inl (cI, a2, .inl hk)), (rv, .inl (cI, a2, .inl hv))] sz) (va_Qi (fun (r : Int32) (u : va_W) => r = nI n2 ∧ u = [(h0, .inr (5, [.ref tl, .ref tr, .ref cu, .ref bk, .int 0])), (tr, .inr (4, [.int (nI a2), .ref rk, .ref rv, .ref ro, .ref rp, .ref rl, .ref rf, .int (nI (n2 + 1)), .int (nI pl2)])), (rk, .inl (cI, a2, .inl (upd hk n2 x))), (rv, .inl (cI, a2, .inl (upd hv n2 y)))]) (jw_B D vwCl (va_A [(h0, .inr (5, [.ref tl, .ref tr, .ref cu, .ref bk, .int pr])), (tr, .inr (4, [.int (nI a2), .ref rk, .ref rv, .ref ro, .ref rp, .ref rl, .ref rf, .int (nI n2), .int (nI pl2)])), (rk, .inl (cI, a2, .inl hk)), (rv, .inl (cI, a2, .inl hv))] sz) (fun u : va_W => u)) (va_A [(h0, .inr (5, [.ref tl, .ref tr, .ref cu, .ref bk, .int pr])), (tr, .inr (4, [.int (nI a2), .ref rk, .ref rv, .ref ro, .ref rp, .ref rl, .ref rf, .int (nI n2), .int (nI pl2)])), (rk, .inl (cI, a2, .inl hk)), (rv, .inl (cI, a2, .inl hv))] sz)) 0 0 (va_A [(h0, .inr (5, [.ref tl, .ref tr, .ref cu, .ref bk, .int pr])), (tr, .inr (4, [.int (nI a2), .ref rk, .ref rv, .ref ro, .ref rp, .ref rl, .ref rf, .int (nI n2), .int (nI pl2)])), (rk, .inl (cI, a2, .inl hk)), (rv, .inl (cI, a2, .inl hv))] sz) := by
  refine Met.ofW (cc := cX5_add) (maxL := 5) (ret := (some .int)) (by decide) rfl ?_
  intro p e s m args below meth c s₁ B hml hv
  obtain ⟨rfl, hsz, hP, hK, hN, hD0⟩ := hv
  have hx := B.exec
  have hb := B.bytes
  have hr := B.returns
  have hts := atoms_spec (ws := wsX5_add) B.pre
  have hown : s.vm.findClass RX5 = some m.cls := findClass_of_methodNamed B.named
  have hlocks := B.notSynchronized
  subst hsz
  have hD := hD0.self (sz := s.heap.size)
  generalize hAe : va_A [(h0, .inr (5, [.ref tl, .ref tr, .ref cu, .ref bk, .int pr])), (tr, .inr (4, [.int (nI a2), .ref rk, .ref rv, .ref ro, .ref rp, .ref rl, .ref rf, .int (nI n2), .int (nI pl2)])), (rk, .inl (cI, a2, .inl hk)), (rv, .inl (cI, a2, .inl hv))] s.heap.size = A at hD ⊢
  have hA : ∀ q : Nat, s.heap.size ≤ q → A q := fun q h => by rw [← hAe]; exact Or.inr h
  have hS : va_S A s.heap s.heap [] := va_S.rf
  have hl := lv_entry ([.ref h0, .int 0, .int x, .int y]) (n := 5) (Nat.le_of_ble_eq_true rfl)
  rw [lg_entry_eq]
  generalize (lg_sl ([.ref h0, .int 0, .int x, .int y]) ++ List.replicate (5 - (lg_sl ([.ref h0, .int 0, .int x, .int y])).length) Slot.unset).toArray = ls at hl ⊢
  have hl : lv_has ls 5 [(0, .ref h0), (1, .int 0), (2, .int x), (3, .int y)] := hl
  refine lv_aload_n hx hb dX5_add_0 rfl (lv_at hl 0 rfl) ?_
  refine lv_iload_n hx hb dX5_add_1 rfl (lv_at hl 1 rfl) ?_
  refine jr_callr (va_Run.run (va_runV (As := [.int 0]) (rest := []) ⟨hx, hb, hml, hown, hts⟩ (gJ_tableOf_0 l D cI cL cQ h0 tl tr cu bk pr) (cwV 1 hts gX5_add_X5_tableOf rfl rfl rfl (by decide +kernel) ⟨Nat.le_of_ble_eq_true rfl, Nat.le_of_ble_eq_true rfl⟩) (jr_V hK hN hP [0] rfl 5 0 rfl rfl rfl) rfl rfl hl.1 rfl (lv_room (Nat.le_of_ble_eq_true rfl)) dX5_add_2 ⟨Nat.le_of_ble_eq_true rfl, Nat.le_of_ble_eq_true rfl⟩)) (fun r f_1 => ?_)
  obtain er_2 := f_1
  subst r
  refine lv_astore (lv' := [(4, .ref tr), (0, .ref h0), (1, .int 0), (2, .int x), (3, .int y)]) hx hb dX5_add_5 hl (by decide) rfl (fun ls hl => ?_)
  refine lv_aload hx hb dX5_add_7 (lv_at hl 0 rfl) ?_
  refine vp_callSi (va_Run.run (va_runV (As := []) (rest := []) ⟨hx, hb, hml, hown, hts⟩ (gT_hasRoom l D cI cL cQ tr a2 n2 pl2 rk rv ro rp rl rf) (cwV 0 hts gX5_add_X4_hasRoom rfl rfl rfl (by decide +kernel) ⟨Nat.le_of_ble_eq_true rfl, Nat.le_of_ble_eq_true rfl⟩) (jr_V hK hN hP [1] rfl 4 1 rfl rfl rfl) rfl rfl hl.1 rfl (lv_room (Nat.le_of_ble_eq_true rfl)) dX5_add_9 ⟨Nat.le_of_ble_eq_true rfl, Nat.le_of_ble_eq_true rfl⟩)) (fun r f_3 => ?_)
  rcases f_3 with ⟨rfl, f_4⟩ | ⟨rfl, f_5⟩
  · refine va_csv (va_Run.run (va_runS (As := [.int 1]) (rest := []) ⟨hx, hb, hml, hown, hts⟩ (gJ_requireState_ok l D cI cL cQ) (va_cwS 1 hts gX5_add_X5_requireState rfl rfl rfl (by decide +kernel) ⟨Nat.le_of_ble_eq_true rfl, Nat.le_of_ble_eq_true rfl⟩) (jr_S hK hN hP [] rfl) rfl rfl hl.1 rfl (lv_room (Nat.le_of_ble_eq_true rfl)) dX5_add_12 ⟨Nat.le_of_ble_eq_true rfl, Nat.le_of_ble_eq_true rfl⟩)) (fun f_6 => ?_)
    refine lv_aload_n hx hb dX5_add_15 rfl (lv_at hl 1 rfl) ?_
    refine lv_iconst (v := 0) hx hb dX5_add_16 (by decide) ?_
    refine va_put (D := D) (ci := 5) (v := .int 0) (ty := .boolean) (C := RX5) (T := TX5) (N := 5) hx hb hts (by decide +kernel) tyX5 tyX5_ok nmX5 hown hK hP hD hS 0 rfl rfl 4 (by decide) (hts (.fieldLink RX5 41 "JoinDesk" "prepared" "Z") (by decide +kernel)) (fun _ h9 => h9) rfl (by decide +kernel) rfl rfl (Nat.le_of_ble_eq_true rfl) dX5_add_17 (fun H locs hP hD hS => ?_)
    have hP : va_P D vwCl [(h0, .inr (5, [.ref tl, .ref tr, .ref cu, .ref bk, .int 0])), (tr, .inr (4, [.int (nI a2), .ref rk, .ref rv, .ref ro, .ref rp, .ref rl, .ref rf, .int (nI n2), .int (nI pl2)])), (rk, .inl (cI, a2, .inl hk)), (rv, .inl (cI, a2, .inl hv))] H := hP
    have hD : va_D A [(h0, .inr (5, [.ref tl, .ref tr, .ref cu, .ref bk, .int 0])), (tr, .inr (4, [.int (nI a2), .ref rk, .ref rv, .ref ro, .ref rp, .ref rl, .ref rf, .int (nI n2), .int (nI pl2)])), (rk, .inl (cI, a2, .inl hk)), (rv, .inl (cI, a2, .inl hv))] := hD
    refine lv_aload hx hb dX5_add_20 (lv_at hl 0 rfl) ?_
    refine lv_iload_n hx hb dX5_add_22 rfl (lv_at hl 3 rfl) ?_
    refine lv_iload_n hx hb dX5_add_23 rfl (lv_at hl 4 rfl) ?_
    refine jw_i (wr := [(h0, .inr (5, [.ref tl, .ref tr, .ref cu, .ref bk, .int 0]))]) (va_runV (As := [.int x, .int y]) (rest := []) ⟨hx, hb, hml, hown, hts⟩ (gT_append l D cI cL cQ tr a2 n2 pl2 rk rv ro rp rl rf hk hv x y _ (by first | assumption | decide | omega) (by first | assumption | decide | omega)) (cwV 2 hts gX5_add_X4_append rfl rfl rfl (by decide +kernel) ⟨Nat.le_of_ble_eq_true rfl, Nat.le_of_ble_eq_true rfl⟩) (jw_V hK hN hP hD [1, 2, 3] (by decide) rfl 4 1 rfl rfl rfl) rfl rfl hl.1 rfl (lv_room (Nat.le_of_ble_eq_true rfl)) dX5_add_24 ⟨Nat.le_of_ble_eq_true rfl, Nat.le_of_ble_eq_true rfl⟩) hP hD hS hA [1, 2, 3] [0] rfl rfl (by decide) (by decide) (fun r u H locs f_7 hP hD hS => ?_)
    obtain ⟨rfl, rfl⟩ := f_7
    have hP : va_P D vwCl [(h0, .inr (5, [.ref tl, .ref tr, .ref cu, .ref bk, .int 0])), (tr, .inr (4, [.int (nI a2), .ref rk, .ref rv, .ref ro, .ref rp, .ref rl, .ref rf, .int (nI (n2 + 1)), .int (nI pl2)])), (rk, .inl (cI, a2, .inl (upd hk n2 x))), (rv, .inl (cI, a2, .inl (upd hv n2 y)))] H := hP
    have hD : va_D A [(h0, .inr (5, [.ref tl, .ref tr, .ref cu, .ref bk, .int 0])), (tr, .inr (4, [.int (nI a2), .ref rk, .ref rv, .ref ro, .ref rp, .ref rl, .ref rf, .int (nI (n2 + 1)), .int (nI pl2)])), (rk, .inl (cI, a2, .inl (upd hk n2 x))), (rv, .inl (cI, a2, .inl (upd hv n2 y)))] := hD
    refine W.widen (k := 0) (n := 0) (by omega) (by omega) ?_
    exact W.iret (v := nI n2) hx hb hr (fun t ht hW => ⟨⟨(nI n2), [(h0, .inr (5, [.ref tl, .ref tr, .ref cu, .ref bk, .int 0])), (tr, .inr (4, [.int (nI a2), .ref rk, .ref rv, .ref ro, .ref rp, .ref rl, .ref rf, .int (nI (n2 + 1)), .int (nI pl2)])), (rk, .inl (cI, a2, .inl (upd hk n2 x))), (rv, .inl (cI, a2, .inl (upd hv n2 y)))], rfl, (by exact ⟨rfl, rfl⟩), by rw [ht]; exact hP, hD⟩, hS.F ht⟩) hS.2.2 dX5_add_27
  · exact False.elim (by have h := f_5; rw [nI_leI (by omega) (by omega)] at h; omega)
set_option maxHeartbeats 1000000 in
set_option maxRecDepth 100000 in
theorem gJ_add_0t (l : Launch) (hnt : l.stackTraces = false) (D : va_G) (cI cL cQ : ClassId) (h0 : Nat) (tl : Nat) (tr : Nat) (cu : Nat) (bk : Nat) (a2 : Nat) (n2 : Nat) (pl2 : Nat) (rk : Nat) (rv : Nat) (ro : Nat) (rp : Nat) (rl : Nat) (rf : Nat) (pr : Int32) (x : Int32) (y : Int32) (ha : a2 ≤ 400) (hlt : n2 = a2) : vx_Met l yX5_add wsX5_add ({ frames := 7, cells := 1, slots := 6, locals := 102 }) (jt_P D vwCl (jT cI cL cQ) cL cQ [.ref h0, .int 0, .int x, .int y] [(h0, .inr (5, [.ref tl, .ref tr, .ref cu, .ref bk, .int pr])), (tr, .inr (4, [.int (nI a2), .ref rk, .ref rv, .ref ro, .ref rp, .ref rl, .ref rf, .int (nI n2), .int (nI pl2)]))]) (fun _ _ _ _ => False) (jx_X "java/lang/IllegalStateException") 1 6 (fun _ => False) := by
  refine vx_ofW (cc := cX5_add) (maxL := 5) (ret := (some .int)) (by decide) rfl ?_
  intro p e s m args below meth c s₁ B hml hxt hv
  obtain ⟨rfl, hP, hK, hN, hZ⟩ := hv
  have hx := B.exec
  have hb := B.bytes
  have hr := B.returns
  have hts := atoms_spec (ws := wsX5_add) B.pre
  have hown : s.vm.findClass RX5 = some m.cls := findClass_of_methodNamed B.named
  have hlocks := B.notSynchronized
  have hl := lv_entry ([.ref h0, .int 0, .int x, .int y]) (n := 5) (Nat.le_of_ble_eq_true rfl)
  rw [lg_entry_eq]
  generalize (lg_sl ([.ref h0, .int 0, .int x, .int y]) ++ List.replicate (5 - (lg_sl ([.ref h0, .int 0, .int x, .int y])).length) Slot.unset).toArray = ls at hl ⊢
  have hl : lv_has ls 5 [(0, .ref h0), (1, .int 0), (2, .int x), (3, .int y)] := hl
  refine lv_aload_n hx hb dX5_add_0 rfl (lv_at hl 0 rfl) ?_
  refine lv_iload_n hx hb dX5_add_1 rfl (lv_at hl 1 rfl) ?_
  refine jr_callr (va_Run.run (va_runV (As := [.int 0]) (rest := []) ⟨hx, hb, hml, hown, hts⟩ (gJ_tableOf_0 l D cI cL cQ h0 tl tr cu bk pr) (cwV 1 hts gX5_add_X5_tableOf rfl rfl rfl (by decide +kernel) ⟨Nat.le_of_ble_eq_true rfl, Nat.le_of_ble_eq_true rfl⟩) (jr_V hK hN hP [0] rfl 5 0 rfl rfl rfl) rfl rfl hl.1 rfl (lv_room (Nat.le_of_ble_eq_true rfl)) dX5_add_2 ⟨Nat.le_of_ble_eq_true rfl, Nat.le_of_ble_eq_true rfl⟩)) (fun r f_1 => ?_)
  obtain er_2 := f_1
  subst r
  refine lv_astore (lv' := [(4, .ref tr), (0, .ref h0), (1, .int 0), (2, .int x), (3, .int y)]) hx hb dX5_add_5 hl (by decide) rfl (fun ls hl => ?_)
  refine lv_aload hx hb dX5_add_7 (lv_at hl 0 rfl) ?_
  refine vp_callSi (va_Run.run (va_runV (As := []) (rest := []) ⟨hx, hb, hml, hown, hts⟩ (gT_hasRoom l D cI cL cQ tr a2 n2 pl2 rk rv ro rp rl rf) (cwV 0 hts gX5_add_X4_hasRoom rfl rfl rfl (by decide +kernel) ⟨Nat.le_of_ble_eq_true rfl, Nat.le_of_ble_eq_true rfl⟩) (jr_V hK hN hP [1] rfl 4 1 rfl rfl rfl) rfl rfl hl.1 rfl (lv_room (Nat.le_of_ble_eq_true rfl)) dX5_add_9 ⟨Nat.le_of_ble_eq_true rfl, Nat.le_of_ble_eq_true rfl⟩)) (fun r f_3 => ?_)
  rcases f_3 with ⟨rfl, f_4⟩ | ⟨rfl, f_5⟩
  · exact False.elim (by have h := f_4; rw [hlt, nI_leI (by omega) (by omega)] at h; omega)
  · refine jx_thr (vx_runS (As := [.int 0]) (rest := []) ⟨hx, hb, hml, hown, hts⟩ (cJ_requireState_t l hnt D cI cL cQ) (va_cwS 1 hts gX5_add_X5_requireState rfl rfl rfl (by decide +kernel) ⟨Nat.le_of_ble_eq_true rfl, Nat.le_of_ble_eq_true rfl⟩) (jt_S hK hN hZ hP [] rfl) rfl rfl hl.1 rfl (lv_room (Nat.le_of_ble_eq_true rfl)) dX5_add_12 ⟨Nat.le_of_ble_eq_true rfl, Nat.le_of_ble_eq_true rfl⟩) (fun ce q9 H1 hz hk hce hcv hcl => ?_)
    exact jx_out hxt hlocks hz hk hce hcv hcl (Nat.le_of_ble_eq_true rfl) (Nat.le_of_ble_eq_true rfl)
set_option maxHeartbeats 1000000 in
set_option maxRecDepth 100000 in
theorem gJ_prepare (l : Launch) (D : va_G) (cI cL cQ : ClassId) (h0 : Nat) (tl : Nat) (tr : Nat) (cu : Nat) (bk : Nat) (he : Nat) (ma : Nat) (hm : Int32) (kd : Int32) (cc0 : Int64) (p0 : Int32) (p1 : Int32) (p2 : Int32) (p3 : Int32) (p4 : Int32) (p5 : Int32) (p6 : Int32) (a : Nat) (n : Nat) (pl : Nat) (a2 : Nat) (n2 : Nat) (pl2 : Nat) (lk : Nat) (lv : Nat) (lo : Nat) (lp : Nat) (ll : Nat) (lf : Nat) (rk : Nat) (rv : Nat) (ro : Nat) (rp : Nat) (rl : Nat) (rf : Nat) (gk : Nat → Int32) (gv : Nat → Int32) (go : Nat → Int32) (gp : Nat → Int32) (gl : Nat → Int32) (gf : Nat → Int32) (hk : Nat → Int32) (hv : Nat → Int32) (ho_ : Nat → Int32) (hp : Nat → Int32) (hl_ : Nat → Int32) (hf_ : Nat → Int32) (g : Nat) (fa : Nat) (s1 : Nat) (s2 : Nat) (gs : Nat) (gt : Int32) (pr : Int32) (sz : Nat) (ha : a ≤ 400) (hn : n ≤ a) (hol : jord a go) (ha2 : a2 ≤ 400) (hn2 : n2 ≤ a2) (hor : jord a2 ho_) (hpl : pl ≤ n) (hpl2 : pl2 ≤ n2) (hfl : ∀ j, ∃ k, k ≤ 400 ∧ gf j = nI k) (hfr : ∀ j, ∃ k, k ≤ 400 ∧ hf_ j = nI k) (jog : ∀ i, i < pl → go i = jS gk pl i) (joh : ∀ i, i < pl2 → ho_ i = jS hk pl2 i) (jz1 : gp 0 = 0) (jz2 : gl 0 = 0) (jz3 : hp 0 = 0) (jz4 : hl_ 0 = 0) : Met l yX5_prepare wsX5_prepare ({ frames := 3, cells := 0, slots := 0, locals := 67 }) (jw_P D vwCl (jT cI cL cQ) cL cQ [.ref h0] [(h0, .inr (5, [.ref tl, .ref tr, .ref cu, .ref bk, .int pr])), (cu, .inr (0, [.ref tl, .ref tr, .ref he, .ref ma, .int hm, .int kd, .long cc0])), (he, .inr (2, [.int p0, .int p1, .int p2, .int p3, .int p4, .int p5, .int p6])), (bk, .inr (1, [.int (nI g), .ref fa, .ref s1, .ref s2, .int (nI gs), .int gt])), (tl, .inr (4, [.int (nI a), .ref lk, .ref lv, .ref lo, .ref lp, .ref ll, .ref lf, .int (nI n), .int (nI pl)])), (lk, .inl (cI, a, .inl gk)), (lv, .inl (cI, a, .inl gv)), (lo, .inl (cI, a, .inl go)), (lp, .inl (cI, a + 1, .inl gp)), (ll, .inl (cI, a + 1, .inl gl)), (lf, .inl (cI, a, .inl gf)), (tr, .inr (4, [.int (nI a2), .ref rk, .ref rv, .ref ro, .ref rp, .ref rl, .ref rf, .int (nI n2), .int (nI pl2)])), (rk, .inl (cI, a2, .inl hk)), (rv, .inl (cI, a2, .inl hv)), (ro, .inl (cI, a2, .inl ho_)), (rp, .inl (cI, a2 + 1, .inl hp)), (rl, .inl (cI, a2 + 1, .inl hl_)), (rf, .inl (cI, a2, .inl hf_))] sz) (va_Qv (fun u : va_W => ∃ (xp : Nat → Int32) (xl : Nat → Int32) (xf : Nat → Int32) (yp : Nat → Int32) (yl : Nat → Int32) (yf : Nat → Int32), u = [(h0, .inr (5, [.ref tl, .ref tr, .ref cu, .ref bk, .int 1])), (cu, .inr (0, [.ref tl, .ref tr, .ref he, .ref ma, .int 0, .int kd, .long 0])), (he, .inr (2, [.int 0, .int 0, .int 0, .int 0, .int (-1), .int (-1), .int 0])), (bk, .inr (1, [.int (nI g), .ref fa, .ref s1, .ref s2, .int (nI 0), .int 0])), (tl, .inr (4, [.int (nI a), .ref lk, .ref lv, .ref lo, .ref lp, .ref ll, .ref lf, .int (nI n), .int (nI n)])), (lk, .inl (cI, a, .inl gk)), (lv, .inl (cI, a, .inl gv)), (lo, .inl (cI, a, .inl (jsrt gk go pl (n - pl)))), (lp, .inl (cI, a + 1, .inl xp)), (ll, .inl (cI, a + 1, .inl xl)), (lf, .inl (cI, a, .inl xf)), (tr, .inr (4, [.int (nI a2), .ref rk, .ref rv, .ref ro, .ref rp, .ref rl, .ref rf, .int (nI n2), .int (nI n2)])), (rk, .inl (cI, a2, .inl hk)), (rv, .inl (cI, a2, .inl hv)), (ro, .inl (cI, a2, .inl (jsrt hk ho_ pl2 (n2 - pl2)))), (rp, .inl (cI, a2 + 1, .inl yp)), (rl, .inl (cI, a2 + 1, .inl yl)), (rf, .inl (cI, a2, .inl yf))] ∧ (∀ j, ∃ k, k ≤ 400 ∧ xf j = nI k) ∧ (∀ j, ∃ k, k ≤ 400 ∧ yf j = nI k) ∧ (jPt n n2 (jK gk n) (jK hk n2) xp xl xf) ∧ (jPt n2 n (jK hk n2) (jK gk n) yp yl yf)) (jw_B D vwCl (va_A [(h0, .inr (5, [.ref tl, .ref tr, .ref cu, .ref bk, .int pr])), (cu, .inr (0, [.ref tl, .ref tr, .ref he, .ref ma, .int hm, .int kd, .long cc0])), (he, .inr (2, [.int p0, .int p1, .int p2, .int p3, .int p4, .int p5, .int p6])), (bk, .inr (1, [.int (nI g), .ref fa, .ref s1, .ref s2, .int (nI gs), .int gt])), (tl, .inr (4, [.int (nI a), .ref lk, .ref lv, .ref lo, .ref lp, .ref ll, .ref lf, .int (nI n), .int (nI pl)])), (lk, .inl (cI, a, .inl gk)), (lv, .inl (cI, a, .inl gv)), (lo, .inl (cI, a, .inl go)), (lp, .inl (cI, a + 1, .inl gp)), (ll, .inl (cI, a + 1, .inl gl)), (lf, .inl (cI, a, .inl gf)), (tr, .inr (4, [.int (nI a2), .ref rk, .ref rv, .ref ro, .ref rp, .ref rl, .ref rf, .int (nI n2), .int (nI pl2)])), (rk, .inl (cI, a2, .inl hk)), (rv, .inl (cI, a2, .inl hv)), (ro, .inl (cI, a2, .inl ho_)), (rp, .inl (cI, a2 + 1, .inl hp)), (rl, .inl (cI, a2 + 1, .inl hl_)), (rf, .inl (cI, a2, .inl hf_))] sz) (fun u : va_W => u)) (va_A [(h0, .inr (5, [.ref tl, .ref tr, .ref cu, .ref bk, .int pr])), (cu, .inr (0, [.ref tl, .ref tr, .ref he, .ref ma, .int hm, .int kd, .long cc0])), (he, .inr (2, [.int p0, .int p1, .int p2, .int p3, .int p4, .int p5, .int p6])), (bk, .inr (1, [.int (nI g), .ref fa, .ref s1, .ref s2, .int (nI gs), .int gt])), (tl, .inr (4, [.int (nI a), .ref lk, .ref lv, .ref lo, .ref lp, .ref ll, .ref lf, .int (nI n), .int (nI pl)])), (lk, .inl (cI, a, .inl gk)), (lv, .inl (cI, a, .inl gv)), (lo, .inl (cI, a, .inl go)), (lp, .inl (cI, a + 1, .inl gp)), (ll, .inl (cI, a + 1, .inl gl)), (lf, .inl (cI, a, .inl gf)), (tr, .inr (4, [.int (nI a2), .ref rk, .ref rv, .ref ro, .ref rp, .ref rl, .ref rf, .int (nI n2), .int (nI pl2)])), (rk, .inl (cI, a2, .inl hk)), (rv, .inl (cI, a2, .inl hv)), (ro, .inl (cI, a2, .inl ho_)), (rp, .inl (cI, a2 + 1, .inl hp)), (rl, .inl (cI, a2 + 1, .inl hl_)), (rf, .inl (cI, a2, .inl hf_))] sz)) 0 0 (va_A [(h0, .inr (5, [.ref tl, .ref tr, .ref cu, .ref bk, .int pr])), (cu, .inr (0, [.ref tl, .ref tr, .ref he, .ref ma, .int hm, .int kd, .long cc0])), (he, .inr (2, [.int p0, .int p1, .int p2, .int p3, .int p4, .int p5, .int p6])), (bk, .inr (1, [.int (nI g), .ref fa, .ref s1, .ref s2, .int (nI gs), .int gt])), (tl, .inr (4, [.int (nI a), .ref lk, .ref lv, .ref lo, .ref lp, .ref ll, .ref lf, .int (nI n), .int (nI pl)])), (lk, .inl (cI, a, .inl gk)), (lv, .inl (cI, a, .inl gv)), (lo, .inl (cI, a, .inl go)), (lp, .inl (cI, a + 1, .inl gp)), (ll, .inl (cI, a + 1, .inl gl)), (lf, .inl (cI, a, .inl gf)), (tr, .inr (4, [.int (nI a2), .ref rk, .ref rv, .ref ro, .ref rp, .ref rl, .ref rf, .int (nI n2), .int (nI pl2)])), (rk, .inl (cI, a2, .inl hk)), (rv, .inl (cI, a2, .inl hv)), (ro, .inl (cI, a2, .inl ho_)), (rp, .inl (cI, a2 + 1, .inl hp)), (rl, .inl (cI, a2 + 1, .inl hl_)), (rf, .inl (cI, a2, .inl hf_))] sz) := by
  refine Met.ofW (cc := cX5_prepare) (maxL := 1) (ret := none) (by decide) rfl ?_
  intro p e s m args below meth c s₁ B hml hv
  obtain ⟨rfl, hsz, hP, hK, hN, hD0⟩ := hv
  have hx := B.exec
  have hb := B.bytes
  have hr := B.returns
  have hts := atoms_spec (ws := wsX5_prepare) B.pre
  have hown : s.vm.findClass RX5 = some m.cls := findClass_of_methodNamed B.named
  have hlocks := B.notSynchronized
  subst hsz
  have hD := hD0.self (sz := s.heap.size)
  generalize hAe : va_A [(h0, .inr (5, [.ref tl, .ref tr, .ref cu, .ref bk, .int pr])), (cu, .inr (0, [.ref tl, .ref tr, .ref he, .ref ma, .int hm, .int kd, .long cc0])), (he, .inr (2, [.int p0, .int p1, .int p2, .int p3, .int p4, .int p5, .int p6])), (bk, .inr (1, [.int (nI g), .ref fa, .ref s1, .ref s2, .int (nI gs), .int gt])), (tl, .inr (4, [.int (nI a), .ref lk, .ref lv, .ref lo, .ref lp, .ref ll, .ref lf, .int (nI n), .int (nI pl)])), (lk, .inl (cI, a, .inl gk)), (lv, .inl (cI, a, .inl gv)), (lo, .inl (cI, a, .inl go)), (lp, .inl (cI, a + 1, .inl gp)), (ll, .inl (cI, a + 1, .inl gl)), (lf, .inl (cI, a, .inl gf)), (tr, .inr (4, [.int (nI a2), .ref rk, .ref rv, .ref ro, .ref rp, .ref rl, .ref rf, .int (nI n2), .int (nI pl2)])), (rk, .inl (cI, a2, .inl hk)), (rv, .inl (cI, a2, .inl hv)), (ro, .inl (cI, a2, .inl ho_)), (rp, .inl (cI, a2 + 1, .inl hp)), (rl, .inl (cI, a2 + 1, .inl hl_)), (rf, .inl (cI, a2, .inl hf_))] s.heap.size = A at hD ⊢
  have hA : ∀ q : Nat, s.heap.size ≤ q → A q := fun q h => by rw [← hAe]; exact Or.inr h
  have hS : va_S A s.heap s.heap [] := va_S.rf
  have hl := lv_entry ([.ref h0]) (n := 1) (Nat.le_of_ble_eq_true rfl)
  rw [lg_entry_eq]
  generalize (lg_sl ([.ref h0]) ++ List.replicate (1 - (lg_sl ([.ref h0])).length) Slot.unset).toArray = ls at hl ⊢
  have hl : lv_has ls 1 [(0, .ref h0)] := hl
  refine lv_aload_n hx hb dX5_prepare_0 rfl (lv_at hl 0 rfl) ?_
  refine va_get (D := D) (ci := 5) (v := .ref tl) (C := RX5) (T := TX5) (N := 5) hx hb hts (by decide +kernel) hown hK hP 0 rfl rfl 0 (by decide) (hts (.fieldLink RX5 18 "JoinDesk" "left" "LJoinDesk$Table;") (by decide +kernel)) (fun _ h9 => h9) rfl dX5_prepare_1 ?_
  refine jw_v (wr := [(h0, .inr (5, [.ref tl, .ref tr, .ref cu, .ref bk, .int pr])), (cu, .inr (0, [.ref tl, .ref tr, .ref he, .ref ma, .int hm, .int kd, .long cc0])), (he, .inr (2, [.int p0, .int p1, .int p2, .int p3, .int p4, .int p5, .int p6])), (bk, .inr (1, [.int (nI g), .ref fa, .ref s1, .ref s2, .int (nI gs), .int gt])), (lv, .inl (cI, a, .inl gv)), (lp, .inl (cI, a + 1, .inl gp)), (ll, .inl (cI, a + 1, .inl gl)), (lf, .inl (cI, a, .inl gf)), (tr, .inr (4, [.int (nI a2), .ref rk, .ref rv, .ref ro, .ref rp, .ref rl, .ref rf, .int (nI n2), .int (nI pl2)])), (rk, .inl (cI, a2, .inl hk)), (rv, .inl (cI, a2, .inl hv)), (ro, .inl (cI, a2, .inl ho_)), (rp, .inl (cI, a2 + 1, .inl hp)), (rl, .inl (cI, a2 + 1, .inl hl_)), (rf, .inl (cI, a2, .inl hf_))]) (va_runV (As := []) (rest := []) ⟨hx, hb, hml, hown, hts⟩ (gT_sortRows l D cI cL cQ tl a n pl lk lv lo lp ll lf gk go _ (by first | assumption | decide | omega) (by first | assumption | decide | omega) (by first | assumption | decide | omega) (by first | assumption | decide | omega)) (cwV 0 hts gX5_prepare_X4_sortRows rfl rfl rfl (by decide +kernel) ⟨Nat.le_of_ble_eq_true rfl, Nat.le_of_ble_eq_true rfl⟩) (jw_V hK hN hP hD [4, 5, 7] (by decide) rfl 4 4 rfl rfl rfl) rfl rfl hl.1 rfl (lv_room (Nat.le_of_ble_eq_true rfl)) dX5_prepare_4 ⟨Nat.le_of_ble_eq_true rfl, Nat.le_of_ble_eq_true rfl⟩) hP hD hS hA [4, 5, 7] [0, 1, 2, 3, 6, 8, 9, 10, 11, 12, 13, 14, 15, 16, 17] rfl rfl (by decide) (by decide) (fun u H locs f_1 hP hD hS => ?_)
  obtain rfl := f_1
  have hP : va_P D vwCl [(h0, .inr (5, [.ref tl, .ref tr, .ref cu, .ref bk, .int pr])), (cu, .inr (0, [.ref tl, .ref tr, .ref he, .ref ma, .int hm, .int kd, .long cc0])), (he, .inr (2, [.int p0, .int p1, .int p2, .int p3, .int p4, .int p5, .int p6])), (bk, .inr (1, [.int (nI g), .ref fa, .ref s1, .ref s2, .int (nI gs), .int gt])), (lv, .inl (cI, a, .inl gv)), (lp, .inl (cI, a + 1, .inl gp)), (ll, .inl (cI, a + 1, .inl gl)), (lf, .inl (cI, a, .inl gf)), (tr, .inr (4, [.int (nI a2), .ref rk, .ref rv, .ref ro, .ref rp, .ref rl, .ref rf, .int (nI n2), .int (nI pl2)])), (rk, .inl (cI, a2, .inl hk)), (rv, .inl (cI, a2, .inl hv)), (ro, .inl (cI, a2, .inl ho_)), (rp, .inl (cI, a2 + 1, .inl hp)), (rl, .inl (cI, a2 + 1, .inl hl_)), (rf, .inl (cI, a2, .inl hf_)), (tl, .inr (4, [.int (nI a), .ref lk, .ref lv, .ref lo, .ref lp, .ref ll, .ref lf, .int (nI n), .int (nI n)])), (lk, .inl (cI, a, .inl gk)), (lo, .inl (cI, a, .inl (jsrt gk go pl (n - pl))))] H := hP
  have hD : va_D A [(h0, .inr (5, [.ref tl, .ref tr, .ref cu, .ref bk, .int pr])), (cu, .inr (0, [.ref tl, .ref tr, .ref he, .ref ma, .int hm, .int kd, .long cc0])), (he, .inr (2, [.int p0, .int p1, .int p2, .int p3, .int p4, .int p5, .int p6])), (bk, .inr (1, [.int (nI g), .ref fa, .ref s1, .ref s2, .int (nI gs), .int gt])), (lv, .inl (cI, a, .inl gv)), (lp, .inl (cI, a + 1, .inl gp)), (ll, .inl (cI, a + 1, .inl gl)), (lf, .inl (cI, a, .inl gf)), (tr, .inr (4, [.int (nI a2), .ref rk, .ref rv, .ref ro, .ref rp, .ref rl, .ref rf, .int (nI n2), .int (nI pl2)])), (rk, .inl (cI, a2, .inl hk)), (rv, .inl (cI, a2, .inl hv)), (ro, .inl (cI, a2, .inl ho_)), (rp, .inl (cI, a2 + 1, .inl hp)), (rl, .inl (cI, a2 + 1, .inl hl_)), (rf, .inl (cI, a2, .inl hf_)), (tl, .inr (4, [.int (nI a), .ref lk, .ref lv, .ref lo, .ref lp, .ref ll, .ref lf, .int (nI n), .int (nI n)])), (lk, .inl (cI, a, .inl gk)), (lo, .inl (cI, a, .inl (jsrt gk go pl (n - pl))))] := hD
  refine lv_aload_n hx hb dX5_prepare_7 rfl (lv_at hl 0 rfl) ?_
  refine va_get (D := D) (ci := 5) (v := .ref tr) (C := RX5) (T := TX5) (N := 5) hx hb hts (by decide +kernel) hown hK hP 0 rfl rfl 1 (by decide) (hts (.fieldLink RX5 22 "JoinDesk" "right" "LJoinDesk$Table;") (by decide +kernel)) (fun _ h9 => h9) rfl dX5_prepare_8 ?_
  refine jw_v (wr := [(h0, .inr (5, [.ref tl, .ref tr, .ref cu, .ref bk, .int pr])), (cu, .inr (0, [.ref tl, .ref tr, .ref he, .ref ma, .int hm, .int kd, .long cc0])), (he, .inr (2, [.int p0, .int p1, .int p2, .int p3, .int p4, .int p5, .int p6])), (bk, .inr (1, [.int (nI g), .ref fa, .ref s1, .ref s2, .int (nI gs), .int gt])), (lv, .inl (cI, a, .inl gv)), (lp, .inl (cI, a + 1, .inl gp)), (ll, .inl (cI, a + 1, .inl gl)), (lf, .inl (cI, a, .inl gf)), (rv, .inl (cI, a2, .inl hv)), (rp, .inl (cI, a2 + 1, .inl hp)), (rl, .inl (cI, a2 + 1, .inl hl_)), (rf, .inl (cI, a2, .inl hf_)), (tl, .inr (4, [.int (nI a), .ref lk, .ref lv, .ref lo, .ref lp, .ref ll, .ref lf, .int (nI n), .int (nI n)])), (lk, .inl (cI, a, .inl gk)), (lo, .inl (cI, a, .inl (jsrt gk go pl (n - pl))))]) (va_runV (As := []) (rest := []) ⟨hx, hb, hml, hown, hts⟩ (gT_sortRows l D cI cL cQ tr a2 n2 pl2 rk rv ro rp rl rf hk ho_ _ (by first | assumption | decide | omega) (by first | assumption | decide | omega) (by first | assumption | decide | omega) (by first | assumption | decide | omega)) (cwV 0 hts gX5_prepare_X4_sortRows rfl rfl rfl (by decide +kernel) ⟨Nat.le_of_ble_eq_true rfl, Nat.le_of_ble_eq_true rfl⟩) (jw_V hK hN hP hD [8, 9, 11] (by decide) rfl 4 8 rfl rfl rfl) rfl rfl hl.1 rfl (lv_room (Nat.le_of_ble_eq_true rfl)) dX5_prepare_11 ⟨Nat.le_of_ble_eq_true rfl, Nat.le_of_ble_eq_true rfl⟩) hP hD hS hA [8, 9, 11] [0, 1, 2, 3, 4, 5, 6, 7, 10, 12, 13, 14, 15, 16, 17] rfl rfl (by decide) (by decide) (fun u H locs f_2 hP hD hS => ?_)
  obtain rfl := f_2
  have hP : va_P D vwCl [(h0, .inr (5, [.ref tl, .ref tr, .ref cu, .ref bk, .int pr])), (cu, .inr (0, [.ref tl, .ref tr, .ref he, .ref ma, .int hm, .int kd, .long cc0])), (he, .inr (2, [.int p0, .int p1, .int p2, .int p3, .int p4, .int p5, .int p6])), (bk, .inr (1, [.int (nI g), .ref fa, .ref s1, .ref s2, .int (nI gs), .int gt])), (lv, .inl (cI, a, .inl gv)), (lp, .inl (cI, a + 1, .inl gp)), (ll, .inl (cI, a + 1, .inl gl)), (lf, .inl (cI, a, .inl gf)), (rv, .inl (cI, a2, .inl hv)), (rp, .inl (cI, a2 + 1, .inl hp)), (rl, .inl (cI, a2 + 1, .inl hl_)), (rf, .inl (cI, a2, .inl hf_)), (tl, .inr (4, [.int (nI a), .ref lk, .ref lv, .ref lo, .ref lp, .ref ll, .ref lf, .int (nI n), .int (nI n)])), (lk, .inl (cI, a, .inl gk)), (lo, .inl (cI, a, .inl (jsrt gk go pl (n - pl)))), (tr, .inr (4, [.int (nI a2), .ref rk, .ref rv, .ref ro, .ref rp, .ref rl, .ref rf, .int (nI n2), .int (nI n2)])), (rk, .inl (cI, a2, .inl hk)), (ro, .inl (cI, a2, .inl (jsrt hk ho_ pl2 (n2 - pl2))))] H := hP
  have hD : va_D A [(h0, .inr (5, [.ref tl, .ref tr, .ref cu, .ref bk, .int pr])), (cu, .inr (0, [.ref tl, .ref tr, .ref he, .ref ma, .int hm, .int kd, .long cc0])), (he, .inr (2, [.int p0, .int p1, .int p2, .int p3, .int p4, .int p5, .int p6])), (bk, .inr (1, [.int (nI g), .ref fa, .ref s1, .ref s2, .int (nI gs), .int gt])), (lv, .inl (cI, a, .inl gv)), (lp, .inl (cI, a + 1, .inl gp)), (ll, .inl (cI, a + 1, .inl gl)), (lf, .inl (cI, a, .inl gf)), (rv, .inl (cI, a2, .inl hv)), (rp, .inl (cI, a2 + 1, .inl hp)), (rl, .inl (cI, a2 + 1, .inl hl_)), (rf, .inl (cI, a2, .inl hf_)), (tl, .inr (4, [.int (nI a), .ref lk, .ref lv, .ref lo, .ref lp, .ref ll, .ref lf, .int (nI n), .int (nI n)])), (lk, .inl (cI, a, .inl gk)), (lo, .inl (cI, a, .inl (jsrt gk go pl (n - pl)))), (tr, .inr (4, [.int (nI a2), .ref rk, .ref rv, .ref ro, .ref rp, .ref rl, .ref rf, .int (nI n2), .int (nI n2)])), (rk, .inl (cI, a2, .inl hk)), (ro, .inl (cI, a2, .inl (jsrt hk ho_ pl2 (n2 - pl2))))] := hD
  refine lv_aload_n hx hb dX5_prepare_14 rfl (lv_at hl 0 rfl) ?_
  refine va_get (D := D) (ci := 5) (v := .ref tl) (C := RX5) (T := TX5) (N := 5) hx hb hts (by decide +kernel) hown hK hP 0 rfl rfl 0 (by decide) (hts (.fieldLink RX5 18 "JoinDesk" "left" "LJoinDesk$Table;") (by decide +kernel)) (fun _ h9 => h9) rfl dX5_prepare_15 ?_
  refine lv_aload_n hx hb dX5_prepare_18 rfl (lv_at hl 0 rfl) ?_
  refine va_get (D := D) (ci := 5) (v := .ref tr) (C := RX5) (T := TX5) (N := 5) hx hb hts (by decide +kernel) hown hK hP 0 rfl rfl 1 (by decide) (hts (.fieldLink RX5 22 "JoinDesk" "right" "LJoinDesk$Table;") (by decide +kernel)) (fun _ h9 => h9) rfl dX5_prepare_19 ?_
  refine jw_v (wr := [(h0, .inr (5, [.ref tl, .ref tr, .ref cu, .ref bk, .int pr])), (cu, .inr (0, [.ref tl, .ref tr, .ref he, .ref ma, .int hm, .int kd, .long cc0])), (he, .inr (2, [.int p0, .int p1, .int p2, .int p3, .int p4, .int p5, .int p6])), (bk, .inr (1, [.int (nI g), .ref fa, .ref s1, .ref s2, .int (nI gs), .int gt])), (lv, .inl (cI, a, .inl gv)), (rv, .inl (cI, a2, .inl hv)), (rp, .inl (cI, a2 + 1, .inl hp)), (rl, .inl (cI, a2 + 1, .inl hl_)), (rf, .inl (cI, a2, .inl hf_))]) (va_runV (As := [.ref tr]) (rest := []) ⟨hx, hb, hml, hown, hts⟩ (gT_findPartners l D cI cL cQ tl a n n lk lv lo lp ll lf gk (jsrt gk go pl (n - pl)) gp gl gf tr a2 n2 n2 rk rv ro rp rl rf hk (jsrt hk ho_ pl2 (n2 - pl2)) (jK gk n) (jK hk n2) _ (by first | assumption | decide | omega) (by first | assumption | decide | omega) (jord_srt hol _ (by omega)) (by first | assumption | decide | omega) (by first | assumption | decide | omega) (jord_srt hor _ (by omega)) (by first | assumption | decide | omega) (jK_at (by omega) (jr_srt hpl jog)) (jK_at (by omega) (jr_srt hpl2 joh)) (jK_mo (by omega)) (jK_mo (by omega)) (jz1) (jz2)) (cwV 1 hts gX5_prepare_X4_findPartners rfl rfl rfl (by decide +kernel) ⟨Nat.le_of_ble_eq_true rfl, Nat.le_of_ble_eq_true rfl⟩) (jw_V hK hN hP hD [12, 13, 14, 5, 6, 7, 15, 16, 17] (by decide) rfl 4 12 rfl rfl rfl) rfl rfl hl.1 rfl (lv_room (Nat.le_of_ble_eq_true rfl)) dX5_prepare_22 ⟨Nat.le_of_ble_eq_true rfl, Nat.le_of_ble_eq_true rfl⟩) hP hD hS hA [12, 13, 14, 5, 6, 7, 15, 16, 17] [0, 1, 2, 3, 4, 8, 9, 10, 11] rfl rfl (by decide) (by decide) (fun u H locs f_3 hP hD hS => ?_)
  obtain ⟨fp9_4, fl9_5, ff9_6, rfl, f_7, f_8⟩ := f_3
  have hP : va_P D vwCl [(h0, .inr (5, [.ref tl, .ref tr, .ref cu, .ref bk, .int pr])), (cu, .inr (0, [.ref tl, .ref tr, .ref he, .ref ma, .int hm, .int kd, .long cc0])), (he, .inr (2, [.int p0, .int p1, .int p2, .int p3, .int p4, .int p5, .int p6])), (bk, .inr (1, [.int (nI g), .ref fa, .ref s1, .ref s2, .int (nI gs), .int gt])), (lv, .inl (cI, a, .inl gv)), (rv, .inl (cI, a2, .inl hv)), (rp, .inl (cI, a2 + 1, .inl hp)), (rl, .inl (cI, a2 + 1, .inl hl_)), (rf, .inl (cI, a2, .inl hf_)), (tl, .inr (4, [.int (nI a), .ref lk, .ref lv, .ref lo, .ref lp, .ref ll, .ref lf, .int (nI n), .int (nI n)])), (lk, .inl (cI, a, .inl gk)), (lo, .inl (cI, a, .inl (jsrt gk go pl (n - pl)))), (lp, .inl (cI, a + 1, .inl fp9_4)), (ll, .inl (cI, a + 1, .inl fl9_5)), (lf, .inl (cI, a, .inl ff9_6)), (tr, .inr (4, [.int (nI a2), .ref rk, .ref rv, .ref ro, .ref rp, .ref rl, .ref rf, .int (nI n2), .int (nI n2)])), (rk, .inl (cI, a2, .inl hk)), (ro, .inl (cI, a2, .inl (jsrt hk ho_ pl2 (n2 - pl2))))] H := hP
  have hD : va_D A [(h0, .inr (5, [.ref tl, .ref tr, .ref cu, .ref bk, .int pr])), (cu, .inr (0, [.ref tl, .ref tr, .ref he, .ref ma, .int hm, .int kd, .long cc0])), (he, .inr (2, [.int p0, .int p1, .int p2, .int p3, .int p4, .int p5, .int p6])), (bk, .inr (1, [.int (nI g), .ref fa, .ref s1, .ref s2, .int (nI gs), .int gt])), (lv, .inl (cI, a, .inl gv)), (rv, .inl (cI, a2, .inl hv)), (rp, .inl (cI, a2 + 1, .inl hp)), (rl, .inl (cI, a2 + 1, .inl hl_)), (rf, .inl (cI, a2, .inl hf_)), (tl, .inr (4, [.int (nI a), .ref lk, .ref lv, .ref lo, .ref lp, .ref ll, .ref lf, .int (nI n), .int (nI n)])), (lk, .inl (cI, a, .inl gk)), (lo, .inl (cI, a, .inl (jsrt gk go pl (n - pl)))), (lp, .inl (cI, a + 1, .inl fp9_4)), (ll, .inl (cI, a + 1, .inl fl9_5)), (lf, .inl (cI, a, .inl ff9_6)), (tr, .inr (4, [.int (nI a2), .ref rk, .ref rv, .ref ro, .ref rp, .ref rl, .ref rf, .int (nI n2), .int (nI n2)])), (rk, .inl (cI, a2, .inl hk)), (ro, .inl (cI, a2, .inl (jsrt hk ho_ pl2 (n2 - pl2))))] := hD
  refine lv_aload_n hx hb dX5_prepare_25 rfl (lv_at hl 0 rfl) ?_
  refine va_get (D := D) (ci := 5) (v := .ref tr) (C := RX5) (T := TX5) (N := 5) hx hb hts (by decide +kernel) hown hK hP 0 rfl rfl 1 (by decide) (hts (.fieldLink RX5 22 "JoinDesk" "right" "LJoinDesk$Table;") (by decide +kernel)) (fun _ h9 => h9) rfl dX5_prepare_26 ?_
  refine lv_aload_n hx hb dX5_prepare_29 rfl (lv_at hl 0 rfl) ?_
  refine va_get (D := D) (ci := 5) (v := .ref tl) (C := RX5) (T := TX5) (N := 5) hx hb hts (by decide +kernel) hown hK hP 0 rfl rfl 0 (by decide) (hts (.fieldLink RX5 18 "JoinDesk" "left" "LJoinDesk$Table;") (by decide +kernel)) (fun _ h9 => h9) rfl dX5_prepare_30 ?_
  refine jw_v (wr := [(h0, .inr (5, [.ref tl, .ref tr, .ref cu, .ref bk, .int pr])), (cu, .inr (0, [.ref tl, .ref tr, .ref he, .ref ma, .int hm, .int kd, .long cc0])), (he, .inr (2, [.int p0, .int p1, .int p2, .int p3, .int p4, .int p5, .int p6])), (bk, .inr (1, [.int (nI g), .ref fa, .ref s1, .ref s2, .int (nI gs), .int gt])), (lv, .inl (cI, a, .inl gv)), (rv, .inl (cI, a2, .inl hv)), (lp, .inl (cI, a + 1, .inl fp9_4)), (ll, .inl (cI, a + 1, .inl fl9_5)), (lf, .inl (cI, a, .inl ff9_6))]) (va_runV (As := [.ref tl]) (rest := []) ⟨hx, hb, hml, hown, hts⟩ (gT_findPartners l D cI cL cQ tr a2 n2 n2 rk rv ro rp rl rf hk (jsrt hk ho_ pl2 (n2 - pl2)) hp hl_ hf_ tl a n n lk lv lo lp ll lf gk (jsrt gk go pl (n - pl)) (jK hk n2) (jK gk n) _ (by first | assumption | decide | omega) (by first | assumption | decide | omega) (jord_srt hor _ (by omega)) (by first | assumption | decide | omega) (by first | assumption | decide | omega) (jord_srt hol _ (by omega)) (by first | assumption | decide | omega) (jK_at (by omega) (jr_srt hpl2 joh)) (jK_at (by omega) (jr_srt hpl jog)) (jK_mo (by omega)) (jK_mo (by omega)) (jz3) (jz4)) (cwV 1 hts gX5_prepare_X4_findPartners rfl rfl rfl (by decide +kernel) ⟨Nat.le_of_ble_eq_true rfl, Nat.le_of_ble_eq_true rfl⟩) (jw_V hK hN hP hD [15, 16, 17, 6, 7, 8, 9, 10, 11] (by decide) rfl 4 15 rfl rfl rfl) rfl rfl hl.1 rfl (lv_room (Nat.le_of_ble_eq_true rfl)) dX5_prepare_33 ⟨Nat.le_of_ble_eq_true rfl, Nat.le_of_ble_eq_true rfl⟩) hP hD hS hA [15, 16, 17, 6, 7, 8, 9, 10, 11] [0, 1, 2, 3, 4, 5, 12, 13, 14] rfl rfl (by decide) (by decide) (fun u H locs f_9 hP hD hS => ?_)
  obtain ⟨fp9_10, fl9_11, ff9_12, rfl, f_13, f_14⟩ := f_9
  have hP : va_P D vwCl [(h0, .inr (5, [.ref tl, .ref tr, .ref cu, .ref bk, .int pr])), (cu, .inr (0, [.ref tl, .ref tr, .ref he, .ref ma, .int hm, .int kd, .long cc0])), (he, .inr (2, [.int p0, .int p1, .int p2, .int p3, .int p4, .int p5, .int p6])), (bk, .inr (1, [.int (nI g), .ref fa, .ref s1, .ref s2, .int (nI gs), .int gt])), (lv, .inl (cI, a, .inl gv)), (rv, .inl (cI, a2, .inl hv)), (lp, .inl (cI, a + 1, .inl fp9_4)), (ll, .inl (cI, a + 1, .inl fl9_5)), (lf, .inl (cI, a, .inl ff9_6)), (tr, .inr (4, [.int (nI a2), .ref rk, .ref rv, .ref ro, .ref rp, .ref rl, .ref rf, .int (nI n2), .int (nI n2)])), (rk, .inl (cI, a2, .inl hk)), (ro, .inl (cI, a2, .inl (jsrt hk ho_ pl2 (n2 - pl2)))), (rp, .inl (cI, a2 + 1, .inl fp9_10)), (rl, .inl (cI, a2 + 1, .inl fl9_11)), (rf, .inl (cI, a2, .inl ff9_12)), (tl, .inr (4, [.int (nI a), .ref lk, .ref lv, .ref lo, .ref lp, .ref ll, .ref lf, .int (nI n), .int (nI n)])), (lk, .inl (cI, a, .inl gk)), (lo, .inl (cI, a, .inl (jsrt gk go pl (n - pl))))] H := hP
  have hD : va_D A [(h0, .inr (5, [.ref tl, .ref tr, .ref cu, .ref bk, .int pr])), (cu, .inr (0, [.ref tl, .ref tr, .ref he, .ref ma, .int hm, .int kd, .long cc0])), (he, .inr (2, [.int p0, .int p1, .int p2, .int p3, .int p4, .int p5, .int p6])), (bk, .inr (1, [.int (nI g), .ref fa, .ref s1, .ref s2, .int (nI gs), .int gt])), (lv, .inl (cI, a, .inl gv)), (rv, .inl (cI, a2, .inl hv)), (lp, .inl (cI, a + 1, .inl fp9_4)), (ll, .inl (cI, a + 1, .inl fl9_5)), (lf, .inl (cI, a, .inl ff9_6)), (tr, .inr (4, [.int (nI a2), .ref rk, .ref rv, .ref ro, .ref rp, .ref rl, .ref rf, .int (nI n2), .int (nI n2)])), (rk, .inl (cI, a2, .inl hk)), (ro, .inl (cI, a2, .inl (jsrt hk ho_ pl2 (n2 - pl2)))), (rp, .inl (cI, a2 + 1, .inl fp9_10)), (rl, .inl (cI, a2 + 1, .inl fl9_11)), (rf, .inl (cI, a2, .inl ff9_12)), (tl, .inr (4, [.int (nI a), .ref lk, .ref lv, .ref lo, .ref lp, .ref ll, .ref lf, .int (nI n), .int (nI n)])), (lk, .inl (cI, a, .inl gk)), (lo, .inl (cI, a, .inl (jsrt gk go pl (n - pl))))] := hD
  refine lv_aload_n hx hb dX5_prepare_36 rfl (lv_at hl 0 rfl) ?_
  refine va_get (D := D) (ci := 5) (v := .ref cu) (C := RX5) (T := TX5) (N := 5) hx hb hts (by decide +kernel) hown hK hP 0 rfl rfl 2 (by decide) (hts (.fieldLink RX5 30 "JoinDesk" "cursor" "LJoinDesk$Cursor;") (by decide +kernel)) (fun _ h9 => h9) rfl dX5_prepare_37 ?_
  refine jw_v (wr := [(h0, .inr (5, [.ref tl, .ref tr, .ref cu, .ref bk, .int pr])), (bk, .inr (1, [.int (nI g), .ref fa, .ref s1, .ref s2, .int (nI gs), .int gt])), (lv, .inl (cI, a, .inl gv)), (rv, .inl (cI, a2, .inl hv)), (lp, .inl (cI, a + 1, .inl fp9_4)), (ll, .inl (cI, a + 1, .inl fl9_5)), (lf, .inl (cI, a, .inl ff9_6)), (tr, .inr (4, [.int (nI a2), .ref rk, .ref rv, .ref ro, .ref rp, .ref rl, .ref rf, .int (nI n2), .int (nI n2)])), (rk, .inl (cI, a2, .inl hk)), (ro, .inl (cI, a2, .inl (jsrt hk ho_ pl2 (n2 - pl2)))), (rp, .inl (cI, a2 + 1, .inl fp9_10)), (rl, .inl (cI, a2 + 1, .inl fl9_11)), (rf, .inl (cI, a2, .inl ff9_12)), (tl, .inr (4, [.int (nI a), .ref lk, .ref lv, .ref lo, .ref lp, .ref ll, .ref lf, .int (nI n), .int (nI n)])), (lk, .inl (cI, a, .inl gk)), (lo, .inl (cI, a, .inl (jsrt gk go pl (n - pl))))]) (va_runV (As := []) (rest := []) ⟨hx, hb, hml, hown, hts⟩ (gC_restart l D cI cL cQ cu tl tr he ma hm kd cc0 p0 p1 p2 p3 p4 p5 p6 _) (cwV 0 hts gX5_prepare_X0_restart rfl rfl rfl (by decide +kernel) ⟨Nat.le_of_ble_eq_true rfl, Nat.le_of_ble_eq_true rfl⟩) (jw_V hK hN hP hD [1, 2] (by decide) rfl 0 1 rfl rfl rfl) rfl rfl hl.1 rfl (lv_room (Nat.le_of_ble_eq_true rfl)) dX5_prepare_40 ⟨Nat.le_of_ble_eq_true rfl, Nat.le_of_ble_eq_true rfl⟩) hP hD hS hA [1, 2] [0, 3, 4, 5, 6, 7, 8, 9, 10, 11, 12, 13, 14, 15, 16, 17] rfl rfl (by decide) (by decide) (fun u H locs f_15 hP hD hS => ?_)
  obtain rfl := f_15
  have hP : va_P D vwCl [(h0, .inr (5, [.ref tl, .ref tr, .ref cu, .ref bk, .int pr])), (bk, .inr (1, [.int (nI g), .ref fa, .ref s1, .ref s2, .int (nI gs), .int gt])), (lv, .inl (cI, a, .inl gv)), (rv, .inl (cI, a2, .inl hv)), (lp, .inl (cI, a + 1, .inl fp9_4)), (ll, .inl (cI, a + 1, .inl fl9_5)), (lf, .inl (cI, a, .inl ff9_6)), (tr, .inr (4, [.int (nI a2), .ref rk, .ref rv, .ref ro, .ref rp, .ref rl, .ref rf, .int (nI n2), .int (nI n2)])), (rk, .inl (cI, a2, .inl hk)), (ro, .inl (cI, a2, .inl (jsrt hk ho_ pl2 (n2 - pl2)))), (rp, .inl (cI, a2 + 1, .inl fp9_10)), (rl, .inl (cI, a2 + 1, .inl fl9_11)), (rf, .inl (cI, a2, .inl ff9_12)), (tl, .inr (4, [.int (nI a), .ref lk, .ref lv, .ref lo, .ref lp, .ref ll, .ref lf, .int (nI n), .int (nI n)])), (lk, .inl (cI, a, .inl gk)), (lo, .inl (cI, a, .inl (jsrt gk go pl (n - pl)))), (cu, .inr (0, [.ref tl, .ref tr, .ref he, .ref ma, .int hm, .int kd, .long 0])), (he, .inr (2, [.int 0, .int 0, .int 0, .int 0, .int (-1), .int (-1), .int 0]))] H := hP
  have hD : va_D A [(h0, .inr (5, [.ref tl, .ref tr, .ref cu, .ref bk, .int pr])), (bk, .inr (1, [.int (nI g), .ref fa, .ref s1, .ref s2, .int (nI gs), .int gt])), (lv, .inl (cI, a, .inl gv)), (rv, .inl (cI, a2, .inl hv)), (lp, .inl (cI, a + 1, .inl fp9_4)), (ll, .inl (cI, a + 1, .inl fl9_5)), (lf, .inl (cI, a, .inl ff9_6)), (tr, .inr (4, [.int (nI a2), .ref rk, .ref rv, .ref ro, .ref rp, .ref rl, .ref rf, .int (nI n2), .int (nI n2)])), (rk, .inl (cI, a2, .inl hk)), (ro, .inl (cI, a2, .inl (jsrt hk ho_ pl2 (n2 - pl2)))), (rp, .inl (cI, a2 + 1, .inl fp9_10)), (rl, .inl (cI, a2 + 1, .inl fl9_11)), (rf, .inl (cI, a2, .inl ff9_12)), (tl, .inr (4, [.int (nI a), .ref lk, .ref lv, .ref lo, .ref lp, .ref ll, .ref lf, .int (nI n), .int (nI n)])), (lk, .inl (cI, a, .inl gk)), (lo, .inl (cI, a, .inl (jsrt gk go pl (n - pl)))), (cu, .inr (0, [.ref tl, .ref tr, .ref he, .ref ma, .int hm, .int kd, .long 0])), (he, .inr (2, [.int 0, .int 0, .int 0, .int 0, .int (-1), .int (-1), .int 0]))] := hD
  refine lv_aload_n hx hb dX5_prepare_43 rfl (lv_at hl 0 rfl) ?_
  refine va_get (D := D) (ci := 5) (v := .ref cu) (C := RX5) (T := TX5) (N := 5) hx hb hts (by decide +kernel) hown hK hP 0 rfl rfl 2 (by decide) (hts (.fieldLink RX5 30 "JoinDesk" "cursor" "LJoinDesk$Cursor;") (by decide +kernel)) (fun _ h9 => h9) rfl dX5_prepare_44 ?_
  refine jw_v (wr := [(h0, .inr (5, [.ref tl, .ref tr, .ref cu, .ref bk, .int pr])), (bk, .inr (1, [.int (nI g), .ref fa, .ref s1, .ref s2, .int (nI gs), .int gt])), (lv, .inl (cI, a, .inl gv)), (rv, .inl (cI, a2, .inl hv)), (lp, .inl (cI, a + 1, .inl fp9_4)), (ll, .inl (cI, a + 1, .inl fl9_5)), (lf, .inl (cI, a, .inl ff9_6)), (tr, .inr (4, [.int (nI a2), .ref rk, .ref rv, .ref ro, .ref rp, .ref rl, .ref rf, .int (nI n2), .int (nI n2)])), (rk, .inl (cI, a2, .inl hk)), (ro, .inl (cI, a2, .inl (jsrt hk ho_ pl2 (n2 - pl2)))), (rp, .inl (cI, a2 + 1, .inl fp9_10)), (rl, .inl (cI, a2 + 1, .inl fl9_11)), (rf, .inl (cI, a2, .inl ff9_12)), (tl, .inr (4, [.int (nI a), .ref lk, .ref lv, .ref lo, .ref lp, .ref ll, .ref lf, .int (nI n), .int (nI n)])), (lk, .inl (cI, a, .inl gk)), (lo, .inl (cI, a, .inl (jsrt gk go pl (n - pl)))), (he, .inr (2, [.int 0, .int 0, .int 0, .int 0, .int (-1), .int (-1), .int 0]))]) (va_runV (As := []) (rest := []) ⟨hx, hb, hml, hown, hts⟩ (gC_forgetMark l D cI cL cQ cu tl tr he ma hm kd 0 _) (cwV 0 hts gX5_prepare_X0_forgetMark rfl rfl rfl (by decide +kernel) ⟨Nat.le_of_ble_eq_true rfl, Nat.le_of_ble_eq_true rfl⟩) (jw_V hK hN hP hD [16] (by decide) rfl 0 16 rfl rfl rfl) rfl rfl hl.1 rfl (lv_room (Nat.le_of_ble_eq_true rfl)) dX5_prepare_47 ⟨Nat.le_of_ble_eq_true rfl, Nat.le_of_ble_eq_true rfl⟩) hP hD hS hA [16] [0, 1, 2, 3, 4, 5, 6, 7, 8, 9, 10, 11, 12, 13, 14, 15, 17] rfl rfl (by decide) (by decide) (fun u H locs f_16 hP hD hS => ?_)
  obtain rfl := f_16
  have hP : va_P D vwCl [(h0, .inr (5, [.ref tl, .ref tr, .ref cu, .ref bk, .int pr])), (bk, .inr (1, [.int (nI g), .ref fa, .ref s1, .ref s2, .int (nI gs), .int gt])), (lv, .inl (cI, a, .inl gv)), (rv, .inl (cI, a2, .inl hv)), (lp, .inl (cI, a + 1, .inl fp9_4)), (ll, .inl (cI, a + 1, .inl fl9_5)), (lf, .inl (cI, a, .inl ff9_6)), (tr, .inr (4, [.int (nI a2), .ref rk, .ref rv, .ref ro, .ref rp, .ref rl, .ref rf, .int (nI n2), .int (nI n2)])), (rk, .inl (cI, a2, .inl hk)), (ro, .inl (cI, a2, .inl (jsrt hk ho_ pl2 (n2 - pl2)))), (rp, .inl (cI, a2 + 1, .inl fp9_10)), (rl, .inl (cI, a2 + 1, .inl fl9_11)), (rf, .inl (cI, a2, .inl ff9_12)), (tl, .inr (4, [.int (nI a), .ref lk, .ref lv, .ref lo, .ref lp, .ref ll, .ref lf, .int (nI n), .int (nI n)])), (lk, .inl (cI, a, .inl gk)), (lo, .inl (cI, a, .inl (jsrt gk go pl (n - pl)))), (he, .inr (2, [.int 0, .int 0, .int 0, .int 0, .int (-1), .int (-1), .int 0])), (cu, .inr (0, [.ref tl, .ref tr, .ref he, .ref ma, .int 0, .int kd, .long 0]))] H := hP
  have hD : va_D A [(h0, .inr (5, [.ref tl, .ref tr, .ref cu, .ref bk, .int pr])), (bk, .inr (1, [.int (nI g), .ref fa, .ref s1, .ref s2, .int (nI gs), .int gt])), (lv, .inl (cI, a, .inl gv)), (rv, .inl (cI, a2, .inl hv)), (lp, .inl (cI, a + 1, .inl fp9_4)), (ll, .inl (cI, a + 1, .inl fl9_5)), (lf, .inl (cI, a, .inl ff9_6)), (tr, .inr (4, [.int (nI a2), .ref rk, .ref rv, .ref ro, .ref rp, .ref rl, .ref rf, .int (nI n2), .int (nI n2)])), (rk, .inl (cI, a2, .inl hk)), (ro, .inl (cI, a2, .inl (jsrt hk ho_ pl2 (n2 - pl2)))), (rp, .inl (cI, a2 + 1, .inl fp9_10)), (rl, .inl (cI, a2 + 1, .inl fl9_11)), (rf, .inl (cI, a2, .inl ff9_12)), (tl, .inr (4, [.int (nI a), .ref lk, .ref lv, .ref lo, .ref lp, .ref ll, .ref lf, .int (nI n), .int (nI n)])), (lk, .inl (cI, a, .inl gk)), (lo, .inl (cI, a, .inl (jsrt gk go pl (n - pl)))), (he, .inr (2, [.int 0, .int 0, .int 0, .int 0, .int (-1), .int (-1), .int 0])), (cu, .inr (0, [.ref tl, .ref tr, .ref he, .ref ma, .int 0, .int kd, .long 0]))] := hD
  refine lv_aload_n hx hb dX5_prepare_50 rfl (lv_at hl 0 rfl) ?_
  refine va_get (D := D) (ci := 5) (v := .ref bk) (C := RX5) (T := TX5) (N := 5) hx hb hts (by decide +kernel) hown hK hP 0 rfl rfl 3 (by decide) (hts (.fieldLink RX5 37 "JoinDesk" "book" "LJoinDesk$GroupBook;") (by decide +kernel)) (fun _ h9 => h9) rfl dX5_prepare_51 ?_
  refine jw_v (wr := [(h0, .inr (5, [.ref tl, .ref tr, .ref cu, .ref bk, .int pr])), (lv, .inl (cI, a, .inl gv)), (rv, .inl (cI, a2, .inl hv)), (lp, .inl (cI, a + 1, .inl fp9_4)), (ll, .inl (cI, a + 1, .inl fl9_5)), (lf, .inl (cI, a, .inl ff9_6)), (tr, .inr (4, [.int (nI a2), .ref rk, .ref rv, .ref ro, .ref rp, .ref rl, .ref rf, .int (nI n2), .int (nI n2)])), (rk, .inl (cI, a2, .inl hk)), (ro, .inl (cI, a2, .inl (jsrt hk ho_ pl2 (n2 - pl2)))), (rp, .inl (cI, a2 + 1, .inl fp9_10)), (rl, .inl (cI, a2 + 1, .inl fl9_11)), (rf, .inl (cI, a2, .inl ff9_12)), (tl, .inr (4, [.int (nI a), .ref lk, .ref lv, .ref lo, .ref lp, .ref ll, .ref lf, .int (nI n), .int (nI n)])), (lk, .inl (cI, a, .inl gk)), (lo, .inl (cI, a, .inl (jsrt gk go pl (n - pl)))), (he, .inr (2, [.int 0, .int 0, .int 0, .int 0, .int (-1), .int (-1), .int 0])), (cu, .inr (0, [.ref tl, .ref tr, .ref he, .ref ma, .int 0, .int kd, .long 0]))]) (va_runV (As := []) (rest := []) ⟨hx, hb, hml, hown, hts⟩ (gB_forget l D cI cL cQ bk g fa s1 s2 gs gt _) (cwV 0 hts gX5_prepare_X1_forget rfl rfl rfl (by decide +kernel) ⟨Nat.le_of_ble_eq_true rfl, Nat.le_of_ble_eq_true rfl⟩) (jw_V hK hN hP hD [1] (by decide) rfl 1 1 rfl rfl rfl) rfl rfl hl.1 rfl (lv_room (Nat.le_of_ble_eq_true rfl)) dX5_prepare_54 ⟨Nat.le_of_ble_eq_true rfl, Nat.le_of_ble_eq_true rfl⟩) hP hD hS hA [1] [0, 2, 3, 4, 5, 6, 7, 8, 9, 10, 11, 12, 13, 14, 15, 16, 17] rfl rfl (by decide) (by decide) (fun u H locs f_17 hP hD hS => ?_)
  obtain rfl := f_17
  have hP : va_P D vwCl [(h0, .inr (5, [.ref tl, .ref tr, .ref cu, .ref bk, .int pr])), (lv, .inl (cI, a, .inl gv)), (rv, .inl (cI, a2, .inl hv)), (lp, .inl (cI, a + 1, .inl fp9_4)), (ll, .inl (cI, a + 1, .inl fl9_5)), (lf, .inl (cI, a, .inl ff9_6)), (tr, .inr (4, [.int (nI a2), .ref rk, .ref rv, .ref ro, .ref rp, .ref rl, .ref rf, .int (nI n2), .int (nI n2)])), (rk, .inl (cI, a2, .inl hk)), (ro, .inl (cI, a2, .inl (jsrt hk ho_ pl2 (n2 - pl2)))), (rp, .inl (cI, a2 + 1, .inl fp9_10)), (rl, .inl (cI, a2 + 1, .inl fl9_11)), (rf, .inl (cI, a2, .inl ff9_12)), (tl, .inr (4, [.int (nI a), .ref lk, .ref lv, .ref lo, .ref lp, .ref ll, .ref lf, .int (nI n), .int (nI n)])), (lk, .inl (cI, a, .inl gk)), (lo, .inl (cI, a, .inl (jsrt gk go pl (n - pl)))), (he, .inr (2, [.int 0, .int 0, .int 0, .int 0, .int (-1), .int (-1), .int 0])), (cu, .inr (0, [.ref tl, .ref tr, .ref he, .ref ma, .int 0, .int kd, .long 0])), (bk, .inr (1, [.int (nI g), .ref fa, .ref s1, .ref s2, .int (nI 0), .int 0]))] H := hP
  have hD : va_D A [(h0, .inr (5, [.ref tl, .ref tr, .ref cu, .ref bk, .int pr])), (lv, .inl (cI, a, .inl gv)), (rv, .inl (cI, a2, .inl hv)), (lp, .inl (cI, a + 1, .inl fp9_4)), (ll, .inl (cI, a + 1, .inl fl9_5)), (lf, .inl (cI, a, .inl ff9_6)), (tr, .inr (4, [.int (nI a2), .ref rk, .ref rv, .ref ro, .ref rp, .ref rl, .ref rf, .int (nI n2), .int (nI n2)])), (rk, .inl (cI, a2, .inl hk)), (ro, .inl (cI, a2, .inl (jsrt hk ho_ pl2 (n2 - pl2)))), (rp, .inl (cI, a2 + 1, .inl fp9_10)), (rl, .inl (cI, a2 + 1, .inl fl9_11)), (rf, .inl (cI, a2, .inl ff9_12)), (tl, .inr (4, [.int (nI a), .ref lk, .ref lv, .ref lo, .ref lp, .ref ll, .ref lf, .int (nI n), .int (nI n)])), (lk, .inl (cI, a, .inl gk)), (lo, .inl (cI, a, .inl (jsrt gk go pl (n - pl)))), (he, .inr (2, [.int 0, .int 0, .int 0, .int 0, .int (-1), .int (-1), .int 0])), (cu, .inr (0, [.ref tl, .ref tr, .ref he, .ref ma, .int 0, .int kd, .long 0])), (bk, .inr (1, [.int (nI g), .ref fa, .ref s1, .ref s2, .int (nI 0), .int 0]))] := hD
  refine lv_aload_n hx hb dX5_prepare_57 rfl (lv_at hl 0 rfl) ?_
  refine lv_iconst (v := 1) hx hb dX5_prepare_58 (by decide) ?_
  refine va_put (D := D) (ci := 5) (v := .int 1) (ty := .boolean) (C := RX5) (T := TX5) (N := 5) hx hb hts (by decide +kernel) tyX5 tyX5_ok nmX5 hown hK hP hD hS 0 rfl rfl 4 (by decide) (hts (.fieldLink RX5 41 "JoinDesk" "prepared" "Z") (by decide +kernel)) (fun _ h9 => h9) rfl (by decide +kernel) rfl rfl (Nat.le_of_ble_eq_true rfl) dX5_prepare_59 (fun H locs hP hD hS => ?_)
  have hP : va_P D vwCl [(h0, .inr (5, [.ref tl, .ref tr, .ref cu, .ref bk, .int 1])), (lv, .inl (cI, a, .inl gv)), (rv, .inl (cI, a2, .inl hv)), (lp, .inl (cI, a + 1, .inl fp9_4)), (ll, .inl (cI, a + 1, .inl fl9_5)), (lf, .inl (cI, a, .inl ff9_6)), (tr, .inr (4, [.int (nI a2), .ref rk, .ref rv, .ref ro, .ref rp, .ref rl, .ref rf, .int (nI n2), .int (nI n2)])), (rk, .inl (cI, a2, .inl hk)), (ro, .inl (cI, a2, .inl (jsrt hk ho_ pl2 (n2 - pl2)))), (rp, .inl (cI, a2 + 1, .inl fp9_10)), (rl, .inl (cI, a2 + 1, .inl fl9_11)), (rf, .inl (cI, a2, .inl ff9_12)), (tl, .inr (4, [.int (nI a), .ref lk, .ref lv, .ref lo, .ref lp, .ref ll, .ref lf, .int (nI n), .int (nI n)])), (lk, .inl (cI, a, .inl gk)), (lo, .inl (cI, a, .inl (jsrt gk go pl (n - pl)))), (he, .inr (2, [.int 0, .int 0, .int 0, .int 0, .int (-1), .int (-1), .int 0])), (cu, .inr (0, [.ref tl, .ref tr, .ref he, .ref ma, .int 0, .int kd, .long 0])), (bk, .inr (1, [.int (nI g), .ref fa, .ref s1, .ref s2, .int (nI 0), .int 0]))] H := hP
  have hD : va_D A [(h0, .inr (5, [.ref tl, .ref tr, .ref cu, .ref bk, .int 1])), (lv, .inl (cI, a, .inl gv)), (rv, .inl (cI, a2, .inl hv)), (lp, .inl (cI, a + 1, .inl fp9_4)), (ll, .inl (cI, a + 1, .inl fl9_5)), (lf, .inl (cI, a, .inl ff9_6)), (tr, .inr (4, [.int (nI a2), .ref rk, .ref rv, .ref ro, .ref rp, .ref rl, .ref rf, .int (nI n2), .int (nI n2)])), (rk, .inl (cI, a2, .inl hk)), (ro, .inl (cI, a2, .inl (jsrt hk ho_ pl2 (n2 - pl2)))), (rp, .inl (cI, a2 + 1, .inl fp9_10)), (rl, .inl (cI, a2 + 1, .inl fl9_11)), (rf, .inl (cI, a2, .inl ff9_12)), (tl, .inr (4, [.int (nI a), .ref lk, .ref lv, .ref lo, .ref lp, .ref ll, .ref lf, .int (nI n), .int (nI n)])), (lk, .inl (cI, a, .inl gk)), (lo, .inl (cI, a, .inl (jsrt gk go pl (n - pl)))), (he, .inr (2, [.int 0, .int 0, .int 0, .int 0, .int (-1), .int (-1), .int 0])), (cu, .inr (0, [.ref tl, .ref tr, .ref he, .ref ma, .int 0, .int kd, .long 0])), (bk, .inr (1, [.int (nI g), .ref fa, .ref s1, .ref s2, .int (nI 0), .int 0]))] := hD
  have hP := hP.sub (ws' := [(h0, .inr (5, [.ref tl, .ref tr, .ref cu, .ref bk, .int 1])), (cu, .inr (0, [.ref tl, .ref tr, .ref he, .ref ma, .int 0, .int kd, .long 0])), (he, .inr (2, [.int 0, .int 0, .int 0, .int 0, .int (-1), .int (-1), .int 0])), (bk, .inr (1, [.int (nI g), .ref fa, .ref s1, .ref s2, .int (nI 0), .int 0])), (tl, .inr (4, [.int (nI a), .ref lk, .ref lv, .ref lo, .ref lp, .ref ll, .ref lf, .int (nI n), .int (nI n)])), (lk, .inl (cI, a, .inl gk)), (lv, .inl (cI, a, .inl gv)), (lo, .inl (cI, a, .inl (jsrt gk go pl (n - pl)))), (lp, .inl (cI, a + 1, .inl fp9_4)), (ll, .inl (cI, a + 1, .inl fl9_5)), (lf, .inl (cI, a, .inl ff9_6)), (tr, .inr (4, [.int (nI a2), .ref rk, .ref rv, .ref ro, .ref rp, .ref rl, .ref rf, .int (nI n2), .int (nI n2)])), (rk, .inl (cI, a2, .inl hk)), (rv, .inl (cI, a2, .inl hv)), (ro, .inl (cI, a2, .inl (jsrt hk ho_ pl2 (n2 - pl2)))), (rp, .inl (cI, a2 + 1, .inl fp9_10)), (rl, .inl (cI, a2 + 1, .inl fl9_11)), (rf, .inl (cI, a2, .inl ff9_12))]) [0, 16, 15, 17, 12, 13, 1, 14, 3, 4, 5, 6, 7, 2, 8, 9, 10, 11] rfl
  have hD := hD.sub (ws' := [(h0, .inr (5, [.ref tl, .ref tr, .ref cu, .ref bk, .int 1])), (cu, .inr (0, [.ref tl, .ref tr, .ref he, .ref ma, .int 0, .int kd, .long 0])), (he, .inr (2, [.int 0, .int 0, .int 0, .int 0, .int (-1), .int (-1), .int 0])), (bk, .inr (1, [.int (nI g), .ref fa, .ref s1, .ref s2, .int (nI 0), .int 0])), (tl, .inr (4, [.int (nI a), .ref lk, .ref lv, .ref lo, .ref lp, .ref ll, .ref lf, .int (nI n), .int (nI n)])), (lk, .inl (cI, a, .inl gk)), (lv, .inl (cI, a, .inl gv)), (lo, .inl (cI, a, .inl (jsrt gk go pl (n - pl)))), (lp, .inl (cI, a + 1, .inl fp9_4)), (ll, .inl (cI, a + 1, .inl fl9_5)), (lf, .inl (cI, a, .inl ff9_6)), (tr, .inr (4, [.int (nI a2), .ref rk, .ref rv, .ref ro, .ref rp, .ref rl, .ref rf, .int (nI n2), .int (nI n2)])), (rk, .inl (cI, a2, .inl hk)), (rv, .inl (cI, a2, .inl hv)), (ro, .inl (cI, a2, .inl (jsrt hk ho_ pl2 (n2 - pl2)))), (rp, .inl (cI, a2 + 1, .inl fp9_10)), (rl, .inl (cI, a2 + 1, .inl fl9_11)), (rf, .inl (cI, a2, .inl ff9_12))]) [0, 16, 15, 17, 12, 13, 1, 14, 3, 4, 5, 6, 7, 2, 8, 9, 10, 11] (by decide) rfl
  refine W.widen (k := 0) (n := 0) (by omega) (by omega) ?_
  exact W.vret hx hb hr (fun t ht hW => ⟨⟨[(h0, .inr (5, [.ref tl, .ref tr, .ref cu, .ref bk, .int 1])), (cu, .inr (0, [.ref tl, .ref tr, .ref he, .ref ma, .int 0, .int kd, .long 0])), (he, .inr (2, [.int 0, .int 0, .int 0, .int 0, .int (-1), .int (-1), .int 0])), (bk, .inr (1, [.int (nI g), .ref fa, .ref s1, .ref s2, .int (nI 0), .int 0])), (tl, .inr (4, [.int (nI a), .ref lk, .ref lv, .ref lo, .ref lp, .ref ll, .ref lf, .int (nI n), .int (nI n)])), (lk, .inl (cI, a, .inl gk)), (lv, .inl (cI, a, .inl gv)), (lo, .inl (cI, a, .inl (jsrt gk go pl (n - pl)))), (lp, .inl (cI, a + 1, .inl fp9_4)), (ll, .inl (cI, a + 1, .inl fl9_5)), (lf, .inl (cI, a, .inl ff9_6)), (tr, .inr (4, [.int (nI a2), .ref rk, .ref rv, .ref ro, .ref rp, .ref rl, .ref rf, .int (nI n2), .int (nI n2)])), (rk, .inl (cI, a2, .inl hk)), (rv, .inl (cI, a2, .inl hv)), (ro, .inl (cI, a2, .inl (jsrt hk ho_ pl2 (n2 - pl2)))), (rp, .inl (cI, a2 + 1, .inl fp9_10)), (rl, .inl (cI, a2 + 1, .inl fl9_11)), (rf, .inl (cI, a2, .inl ff9_12))], rfl, (by exact ⟨_, _, _, _, _, _, rfl, (by first | assumption | exact Or.inl (by assumption) | exact Or.inr (by assumption) | rfl | decide | omega), (by first | assumption | exact Or.inl (by assumption) | exact Or.inr (by assumption) | rfl | decide | omega), (by first | assumption | exact Or.inl (by assumption) | exact Or.inr (by assumption) | rfl | decide | omega), (by first | assumption | exact Or.inl (by assumption) | exact Or.inr (by assumption) | rfl | decide | omega)⟩), by rw [ht]; exact hP, hD⟩, hS.F ht⟩) hS.2.2 dX5_prepare_62
set_option maxHeartbeats 1000000 in
set_option maxRecDepth 100000 in
theorem gJ_kind (l : Launch) (D : va_G) (cI cL cQ : ClassId) (h0 : Nat) (tl : Nat) (tr : Nat) (cu : Nat) (bk : Nat) (he : Nat) (ma : Nat) (hm : Int32) (kd : Int32) (cc0 : Int64) (p0 : Int32) (p1 : Int32) (p2 : Int32) (p3 : Int32) (p4 : Int32) (p5 : Int32) (p6 : Int32) (pr : Int32) (x : Int32) (sz : Nat) (h1 : ¬ x < 0) (h2 : ¬ 4 ≤ x) : Met l yX5_kind wsX5_kind ({ frames := 2, cells := 0, slots := 0, locals := 43 }) (jw_P D vwCl (jT cI cL cQ) cL cQ [.ref h0, .int x] [(h0, .inr (5, [.ref tl, .ref tr, .ref cu, .ref bk, .int pr])), (cu, .inr (0, [.ref tl, .ref tr, .ref he, .ref ma, .int hm, .int kd, .long cc0])), (he, .inr (2, [.int p0, .int p1, .int p2, .int p3, .int p4, .int p5, .int p6]))] sz) (va_Qv (fun u : va_W => u = [(h0, .inr (5, [.ref tl, .ref tr, .ref cu, .ref bk, .int pr])), (cu, .inr (0, [.ref tl, .ref tr, .ref he, .ref ma, .int 0, .int x, .long 0])), (he, .inr (2, [.int 0, .int 0, .int 0, .int 0, .int (-1), .int (-1), .int 0]))]) (jw_B D vwCl (va_A [(h0, .inr (5, [.ref tl, .ref tr, .ref cu, .ref bk, .int pr])), (cu, .inr (0, [.ref tl, .ref tr, .ref he, .ref ma, .int hm, .int kd, .long cc0])), (he, .inr (2, [.int p0, .int p1, .int p2, .int p3, .int p4, .int p5, .int p6]))] sz) (fun u : va_W => u)) (va_A [(h0, .inr (5, [.ref tl, .ref tr, .ref cu, .ref bk, .int pr])), (cu, .inr (0, [.ref tl, .ref tr, .ref he, .ref ma, .int hm, .int kd, .long cc0])), (he, .inr (2, [.int p0, .int p1, .int p2, .int p3, .int p4, .int p5, .int p6]))] sz)) 0 0 (va_A [(h0, .inr (5, [.ref tl, .ref tr, .ref cu, .ref bk, .int pr])), (cu, .inr (0, [.ref tl, .ref tr, .ref he, .ref ma, .int hm, .int kd, .long cc0])), (he, .inr (2, [.int p0, .int p1, .int p2, .int p3, .int p4, .int p5, .int p6]))] sz) := by
  refine Met.ofW (cc := cX5_kind) (maxL := 2) (ret := none) (by decide) rfl ?_
  intro p e s m args below meth c s₁ B hml hv
  obtain ⟨rfl, hsz, hP, hK, hN, hD0⟩ := hv
  have hx := B.exec
  have hb := B.bytes
  have hr := B.returns
  have hts := atoms_spec (ws := wsX5_kind) B.pre
  have hown : s.vm.findClass RX5 = some m.cls := findClass_of_methodNamed B.named
  have hlocks := B.notSynchronized
  subst hsz
  have hD := hD0.self (sz := s.heap.size)
  generalize hAe : va_A [(h0, .inr (5, [.ref tl, .ref tr, .ref cu, .ref bk, .int pr])), (cu, .inr (0, [.ref tl, .ref tr, .ref he, .ref ma, .int hm, .int kd, .long cc0])), (he, .inr (2, [.int p0, .int p1, .int p2, .int p3, .int p4, .int p5, .int p6]))] s.heap.size = A at hD ⊢
  have hA : ∀ q : Nat, s.heap.size ≤ q → A q := fun q h => by rw [← hAe]; exact Or.inr h
  have hS : va_S A s.heap s.heap [] := va_S.rf
  have hl := lv_entry ([.ref h0, .int x]) (n := 2) (Nat.le_of_ble_eq_true rfl)
  rw [lg_entry_eq]
  generalize (lg_sl ([.ref h0, .int x]) ++ List.replicate (2 - (lg_sl ([.ref h0, .int x])).length) Slot.unset).toArray = ls at hl ⊢
  have hl : lv_has ls 2 [(0, .ref h0), (1, .int x)] := hl
  refine lv_iload_n hx hb dX5_kind_0 rfl (lv_at hl 1 rfl) ?_
  refine lv_iconst (v := 4) hx hb dX5_kind_1 (by decide) ?_
  refine vp_callSi (va_Run.run (va_runS (As := [.int x, .int 4]) (rest := []) ⟨hx, hb, hml, hown, hts⟩ (gJ_isBelow l D cI cL cQ x 4) (va_cwS 2 hts gX5_kind_X5_isBelow rfl rfl rfl (by decide +kernel) ⟨Nat.le_of_ble_eq_true rfl, Nat.le_of_ble_eq_true rfl⟩) (jr_S hK hN hP [] rfl) rfl rfl hl.1 rfl (lv_room (Nat.le_of_ble_eq_true rfl)) dX5_kind_2 ⟨Nat.le_of_ble_eq_true rfl, Nat.le_of_ble_eq_true rfl⟩)) (fun r f_1 => ?_)
  rcases f_1 with ⟨rfl, f_2, f_3⟩ | ⟨rfl, f_4⟩
  · refine va_csv (va_Run.run (va_runS (As := [.int 1]) (rest := []) ⟨hx, hb, hml, hown, hts⟩ (gJ_requireArgument_ok l D cI cL cQ) (va_cwS 1 hts gX5_kind_X5_requireArgument rfl rfl rfl (by decide +kernel) ⟨Nat.le_of_ble_eq_true rfl, Nat.le_of_ble_eq_true rfl⟩) (jr_S hK hN hP [] rfl) rfl rfl hl.1 rfl (lv_room (Nat.le_of_ble_eq_true rfl)) dX5_kind_5 ⟨Nat.le_of_ble_eq_true rfl, Nat.le_of_ble_eq_true rfl⟩)) (fun f_5 => ?_)
    refine lv_aload_n hx hb dX5_kind_8 rfl (lv_at hl 0 rfl) ?_
    refine va_get (D := D) (ci := 5) (v := .ref cu) (C := RX5) (T := TX5) (N := 5) hx hb hts (by decide +kernel) hown hK hP 0 rfl rfl 2 (by decide) (hts (.fieldLink RX5 30 "JoinDesk" "cursor" "LJoinDesk$Cursor;") (by decide +kernel)) (fun _ h9 => h9) rfl dX5_kind_9 ?_
    refine lv_iload_n hx hb dX5_kind_12 rfl (lv_at hl 1 rfl) ?_
    refine jw_v (wr := [(h0, .inr (5, [.ref tl, .ref tr, .ref cu, .ref bk, .int pr])), (he, .inr (2, [.int p0, .int p1, .int p2, .int p3, .int p4, .int p5, .int p6]))]) (va_runV (As := [.int x]) (rest := []) ⟨hx, hb, hml, hown, hts⟩ (gC_useKind l D cI cL cQ cu tl tr he ma hm kd cc0 x _) (cwV 1 hts gX5_kind_X0_useKind rfl rfl rfl (by decide +kernel) ⟨Nat.le_of_ble_eq_true rfl, Nat.le_of_ble_eq_true rfl⟩) (jw_V hK hN hP hD [1] (by decide) rfl 0 1 rfl rfl rfl) rfl rfl hl.1 rfl (lv_room (Nat.le_of_ble_eq_true rfl)) dX5_kind_13 ⟨Nat.le_of_ble_eq_true rfl, Nat.le_of_ble_eq_true rfl⟩) hP hD hS hA [1] [0, 2] rfl rfl (by decide) (by decide) (fun u H locs f_6 hP hD hS => ?_)
    obtain rfl := f_6
    have hP : va_P D vwCl [(h0, .inr (5, [.ref tl, .ref tr, .ref cu, .ref bk, .int pr])), (he, .inr (2, [.int p0, .int p1, .int p2, .int p3, .int p4, .int p5, .int p6])), (cu, .inr (0, [.ref tl, .ref tr, .ref he, .ref ma, .int hm, .int x, .long cc0]))] H := hP
    have hD : va_D A [(h0, .inr (5, [.ref tl, .ref tr, .ref cu, .ref bk, .int pr])), (he, .inr (2, [.int p0, .int p1, .int p2, .int p3, .int p4, .int p5, .int p6])), (cu, .inr (0, [.ref tl, .ref tr, .ref he, .ref ma, .int hm, .int x, .long cc0]))] := hD
    refine lv_aload_n hx hb dX5_kind_16 rfl (lv_at hl 0 rfl) ?_
    refine va_get (D := D) (ci := 5) (v := .ref cu) (C := RX5) (T := TX5) (N := 5) hx hb hts (by decide +kernel) hown hK hP 0 rfl rfl 2 (by decide) (hts (.fieldLink RX5 30 "JoinDesk" "cursor" "LJoinDesk$Cursor;") (by decide +kernel)) (fun _ h9 => h9) rfl dX5_kind_17 ?_
    refine jw_v (wr := [(h0, .inr (5, [.ref tl, .ref tr, .ref cu, .ref bk, .int pr]))]) (va_runV (As := []) (rest := []) ⟨hx, hb, hml, hown, hts⟩ (gC_restart l D cI cL cQ cu tl tr he ma hm x cc0 p0 p1 p2 p3 p4 p5 p6 _) (cwV 0 hts gX5_kind_X0_restart rfl rfl rfl (by decide +kernel) ⟨Nat.le_of_ble_eq_true rfl, Nat.le_of_ble_eq_true rfl⟩) (jw_V hK hN hP hD [2, 1] (by decide) rfl 0 2 rfl rfl rfl) rfl rfl hl.1 rfl (lv_room (Nat.le_of_ble_eq_true rfl)) dX5_kind_20 ⟨Nat.le_of_ble_eq_true rfl, Nat.le_of_ble_eq_true rfl⟩) hP hD hS hA [2, 1] [0] rfl rfl (by decide) (by decide) (fun u H locs f_7 hP hD hS => ?_)
    obtain rfl := f_7
    have hP : va_P D vwCl [(h0, .inr (5, [.ref tl, .ref tr, .ref cu, .ref bk, .int pr])), (cu, .inr (0, [.ref tl, .ref tr, .ref he, .ref ma, .int hm, .int x, .long 0])), (he, .inr (2, [.int 0, .int 0, .int 0, .int 0, .int (-1), .int (-1), .int 0]))] H := hP
    have hD : va_D A [(h0, .inr (5, [.ref tl, .ref tr, .ref cu, .ref bk, .int pr])), (cu, .inr (0, [.ref tl, .ref tr, .ref he, .ref ma, .int hm, .int x, .long 0])), (he, .inr (2, [.int 0, .int 0, .int 0, .int 0, .int (-1), .int (-1), .int 0]))] := hD
    refine lv_aload_n hx hb dX5_kind_23 rfl (lv_at hl 0 rfl) ?_
    refine va_get (D := D) (ci := 5) (v := .ref cu) (C := RX5) (T := TX5) (N := 5) hx hb hts (by decide +kernel) hown hK hP 0 rfl rfl 2 (by decide) (hts (.fieldLink RX5 30 "JoinDesk" "cursor" "LJoinDesk$Cursor;") (by decide +kernel)) (fun _ h9 => h9) rfl dX5_kind_24 ?_
    refine jw_v (wr := [(h0, .inr (5, [.ref tl, .ref tr, .ref cu, .ref bk, .int pr])), (he, .inr (2, [.int 0, .int 0, .int 0, .int 0, .int (-1), .int (-1), .int 0]))]) (va_runV (As := []) (rest := []) ⟨hx, hb, hml, hown, hts⟩ (gC_forgetMark l D cI cL cQ cu tl tr he ma hm x 0 _) (cwV 0 hts gX5_kind_X0_forgetMark rfl rfl rfl (by decide +kernel) ⟨Nat.le_of_ble_eq_true rfl, Nat.le_of_ble_eq_true rfl⟩) (jw_V hK hN hP hD [1] (by decide) rfl 0 1 rfl rfl rfl) rfl rfl hl.1 rfl (lv_room (Nat.le_of_ble_eq_true rfl)) dX5_kind_27 ⟨Nat.le_of_ble_eq_true rfl, Nat.le_of_ble_eq_true rfl⟩) hP hD hS hA [1] [0, 2] rfl rfl (by decide) (by decide) (fun u H locs f_8 hP hD hS => ?_)
    obtain rfl := f_8
    have hP : va_P D vwCl [(h0, .inr (5, [.ref tl, .ref tr, .ref cu, .ref bk, .int pr])), (he, .inr (2, [.int 0, .int 0, .int 0, .int 0, .int (-1), .int (-1), .int 0])), (cu, .inr (0, [.ref tl, .ref tr, .ref he, .ref ma, .int 0, .int x, .long 0]))] H := hP
    have hD : va_D A [(h0, .inr (5, [.ref tl, .ref tr, .ref cu, .ref bk, .int pr])), (he, .inr (2, [.int 0, .int 0, .int 0, .int 0, .int (-1), .int (-1), .int 0])), (cu, .inr (0, [.ref tl, .ref tr, .ref he, .ref ma, .int 0, .int x, .long 0]))] := hD
    have hP := hP.sub (ws' := [(h0, .inr (5, [.ref tl, .ref tr, .ref cu, .ref bk, .int pr])), (cu, .inr (0, [.ref tl, .ref tr, .ref he, .ref ma, .int 0, .int x, .long 0])), (he, .inr (2, [.int 0, .int 0, .int 0, .int 0, .int (-1), .int (-1), .int 0]))]) [0, 2, 1] rfl
    have hD := hD.sub (ws' := [(h0, .inr (5, [.ref tl, .ref tr, .ref cu, .ref bk, .int pr])), (cu, .inr (0, [.ref tl, .ref tr, .ref he, .ref ma, .int 0, .int x, .long 0])), (he, .inr (2, [.int 0, .int 0, .int 0, .int 0, .int (-1), .int (-1), .int 0]))]) [0, 2, 1] (by decide) rfl
    refine W.widen (k := 0) (n := 0) (by omega) (by omega) ?_
    exact W.vret hx hb hr (fun t ht hW => ⟨⟨[(h0, .inr (5, [.ref tl, .ref tr, .ref cu, .ref bk, .int pr])), (cu, .inr (0, [.ref tl, .ref tr, .ref he, .ref ma, .int 0, .int x, .long 0])), (he, .inr (2, [.int 0, .int 0, .int 0, .int 0, .int (-1), .int (-1), .int 0]))], rfl, (by exact rfl), by rw [ht]; exact hP, hD⟩, hS.F ht⟩) hS.2.2 dX5_kind_30
  · exact False.elim (f_4.elim h1 h2)
set_option maxHeartbeats 1000000 in
set_option maxRecDepth 100000 in
theorem gJ_kind_t (l : Launch) (hnt : l.stackTraces = false) (D : va_G) (cI cL cQ : ClassId) (h0 : Nat) (tl : Nat) (tr : Nat) (cu : Nat) (bk : Nat) (pr : Int32) (x : Int32) (h1 : x < 0 ∨ 4 ≤ x) : vx_Met l yX5_kind wsX5_kind ({ frames := 7, cells := 1, slots := 6, locals := 102 }) (jt_P D vwCl (jT cI cL cQ) cL cQ [.ref h0, .int x] [(h0, .inr (5, [.ref tl, .ref tr, .ref cu, .ref bk, .int pr]))]) (fun _ _ _ _ => False) (jx_X "java/lang/IllegalArgumentException") 1 6 (fun _ => False) := by
  refine vx_ofW (cc := cX5_kind) (maxL := 2) (ret := none) (by decide) rfl ?_
  intro p e s m args below meth c s₁ B hml hxt hv
  obtain ⟨rfl, hP, hK, hN, hZ⟩ := hv
  have hx := B.exec
  have hb := B.bytes
  have hr := B.returns
  have hts := atoms_spec (ws := wsX5_kind) B.pre
  have hown : s.vm.findClass RX5 = some m.cls := findClass_of_methodNamed B.named
  have hlocks := B.notSynchronized
  have hl := lv_entry ([.ref h0, .int x]) (n := 2) (Nat.le_of_ble_eq_true rfl)
  rw [lg_entry_eq]
  generalize (lg_sl ([.ref h0, .int x]) ++ List.replicate (2 - (lg_sl ([.ref h0, .int x])).length) Slot.unset).toArray = ls at hl ⊢
  have hl : lv_has ls 2 [(0, .ref h0), (1, .int x)] := hl
  refine lv_iload_n hx hb dX5_kind_0 rfl (lv_at hl 1 rfl) ?_
  refine lv_iconst (v := 4) hx hb dX5_kind_1 (by decide) ?_
  refine vp_callSi (va_Run.run (va_runS (As := [.int x, .int 4]) (rest := []) ⟨hx, hb, hml, hown, hts⟩ (gJ_isBelow l D cI cL cQ x 4) (va_cwS 2 hts gX5_kind_X5_isBelow rfl rfl rfl (by decide +kernel) ⟨Nat.le_of_ble_eq_true rfl, Nat.le_of_ble_eq_true rfl⟩) (jr_S hK hN hP [] rfl) rfl rfl hl.1 rfl (lv_room (Nat.le_of_ble_eq_true rfl)) dX5_kind_2 ⟨Nat.le_of_ble_eq_true rfl, Nat.le_of_ble_eq_true rfl⟩)) (fun r f_1 => ?_)
  rcases f_1 with ⟨rfl, f_2, f_3⟩ | ⟨rfl, f_4⟩
  · exact False.elim (h1.elim f_2 f_3)
  · refine jx_thr (vx_runS (As := [.int 0]) (rest := []) ⟨hx, hb, hml, hown, hts⟩ (cJ_requireArgument_t l hnt D cI cL cQ) (va_cwS 1 hts gX5_kind_X5_requireArgument rfl rfl rfl (by decide +kernel) ⟨Nat.le_of_ble_eq_true rfl, Nat.le_of_ble_eq_true rfl⟩) (jt_S hK hN hZ hP [] rfl) rfl rfl hl.1 rfl (lv_room (Nat.le_of_ble_eq_true rfl)) dX5_kind_5 ⟨Nat.le_of_ble_eq_true rfl, Nat.le_of_ble_eq_true rfl⟩) (fun ce q9 H1 hz hk hce hcv hcl => ?_)
    exact jx_out hxt hlocks hz hk hce hcv hcl (Nat.le_of_ble_eq_true rfl) (Nat.le_of_ble_eq_true rfl)
set_option maxHeartbeats 1000000 in
set_option maxRecDepth 100000 in
theorem gJ_next_t (l : Launch) (hnt : l.stackTraces = false) (D : va_G) (cI cL cQ : ClassId) (h0 : Nat) (tl : Nat) (tr : Nat) (cu : Nat) (bk : Nat) : vx_Met l yX5_next wsX5_next ({ frames := 7, cells := 1, slots := 6, locals := 102 }) (jt_P D vwCl (jT cI cL cQ) cL cQ [.ref h0] [(h0, .inr (5, [.ref tl, .ref tr, .ref cu, .ref bk, .int 0]))]) (fun _ _ _ _ => False) (jx_X "java/lang/IllegalStateException") 1 6 (fun _ => False) := by
  refine vx_ofW (cc := cX5_next) (maxL := 1) (ret := (some .boolean)) (by decide) rfl ?_
  intro p e s m args below meth c s₁ B hml hxt hv
  obtain ⟨rfl, hP, hK, hN, hZ⟩ := hv
  have hx := B.exec
  have hb := B.bytes
  have hr := B.returns
  have hts := atoms_spec (ws := wsX5_next) B.pre
  have hown : s.vm.findClass RX5 = some m.cls := findClass_of_methodNamed B.named
  have hlocks := B.notSynchronized
  have hl := lv_entry ([.ref h0]) (n := 1) (Nat.le_of_ble_eq_true rfl)
  rw [lg_entry_eq]
  generalize (lg_sl ([.ref h0]) ++ List.replicate (1 - (lg_sl ([.ref h0])).length) Slot.unset).toArray = ls at hl ⊢
  have hl : lv_has ls 1 [(0, .ref h0)] := hl
  refine lv_aload_n hx hb dX5_next_0 rfl (lv_at hl 0 rfl) ?_
  refine va_get (D := D) (ci := 5) (v := .int 0) (C := RX5) (T := TX5) (N := 5) hx hb hts (by decide +kernel) hown hK hP 0 rfl rfl 4 (by decide) (hts (.fieldLink RX5 41 "JoinDesk" "prepared" "Z") (by decide +kernel)) (fun _ h9 => h9) rfl dX5_next_1 ?_
  refine jx_thr (vx_runS (As := [.int 0]) (rest := []) ⟨hx, hb, hml, hown, hts⟩ (cJ_requireState_t l hnt D cI cL cQ) (va_cwS 1 hts gX5_next_X5_requireState rfl rfl rfl (by decide +kernel) ⟨Nat.le_of_ble_eq_true rfl, Nat.le_of_ble_eq_true rfl⟩) (jt_S hK hN hZ hP [] rfl) rfl rfl hl.1 rfl (lv_room (Nat.le_of_ble_eq_true rfl)) dX5_next_4 ⟨Nat.le_of_ble_eq_true rfl, Nat.le_of_ble_eq_true rfl⟩) (fun ce q9 H1 hz hk hce hcv hcl => ?_)
  exact jx_out hxt hlocks hz hk hce hcv hcl (Nat.le_of_ble_eq_true rfl) (Nat.le_of_ble_eq_true rfl)
set_option maxHeartbeats 1000000 in
set_option maxRecDepth 100000 in
theorem gJ_mark_t (l : Launch) (hnt : l.stackTraces = false) (D : va_G) (cI cL cQ : ClassId) (h0 : Nat) (tl : Nat) (tr : Nat) (cu : Nat) (bk : Nat) : vx_Met l yX5_mark wsX5_mark ({ frames := 7, cells := 1, slots := 6, locals := 102 }) (jt_P D vwCl (jT cI cL cQ) cL cQ [.ref h0] [(h0, .inr (5, [.ref tl, .ref tr, .ref cu, .ref bk, .int 0]))]) (fun _ _ _ _ => False) (jx_X "java/lang/IllegalStateException") 1 6 (fun _ => False) := by
  refine vx_ofW (cc := cX5_mark) (maxL := 1) (ret := (some .int)) (by decide) rfl ?_
  intro p e s m args below meth c s₁ B hml hxt hv
  obtain ⟨rfl, hP, hK, hN, hZ⟩ := hv
  have hx := B.exec
  have hb := B.bytes
  have hr := B.returns
  have hts := atoms_spec (ws := wsX5_mark) B.pre
  have hown : s.vm.findClass RX5 = some m.cls := findClass_of_methodNamed B.named
  have hlocks := B.notSynchronized
  have hl := lv_entry ([.ref h0]) (n := 1) (Nat.le_of_ble_eq_true rfl)
  rw [lg_entry_eq]
  generalize (lg_sl ([.ref h0]) ++ List.replicate (1 - (lg_sl ([.ref h0])).length) Slot.unset).toArray = ls at hl ⊢
  have hl : lv_has ls 1 [(0, .ref h0)] := hl
  refine lv_aload_n hx hb dX5_mark_0 rfl (lv_at hl 0 rfl) ?_
  refine va_get (D := D) (ci := 5) (v := .int 0) (C := RX5) (T := TX5) (N := 5) hx hb hts (by decide +kernel) hown hK hP 0 rfl rfl 4 (by decide) (hts (.fieldLink RX5 41 "JoinDesk" "prepared" "Z") (by decide +kernel)) (fun _ h9 => h9) rfl dX5_mark_1 ?_
  refine jx_thr (vx_runS (As := [.int 0]) (rest := []) ⟨hx, hb, hml, hown, hts⟩ (cJ_requireState_t l hnt D cI cL cQ) (va_cwS 1 hts gX5_mark_X5_requireState rfl rfl rfl (by decide +kernel) ⟨Nat.le_of_ble_eq_true rfl, Nat.le_of_ble_eq_true rfl⟩) (jt_S hK hN hZ hP [] rfl) rfl rfl hl.1 rfl (lv_room (Nat.le_of_ble_eq_true rfl)) dX5_mark_4 ⟨Nat.le_of_ble_eq_true rfl, Nat.le_of_ble_eq_true rfl⟩) (fun ce q9 H1 hz hk hce hcv hcl => ?_)
  exact jx_out hxt hlocks hz hk hce hcv hcl (Nat.le_of_ble_eq_true rfl) (Nat.le_of_ble_eq_true rfl)
set_option maxHeartbeats 1000000 in
set_option maxRecDepth 100000 in
theorem gJ_back_t (l : Launch) (hnt : l.stackTraces = false) (D : va_G) (cI cL cQ : ClassId) (h0 : Nat) (tl : Nat) (tr : Nat) (cu : Nat) (bk : Nat) : vx_Met l yX5_back wsX5_back ({ frames := 7, cells := 1, slots := 6, locals := 102 }) (jt_P D vwCl (jT cI cL cQ) cL cQ [.ref h0] [(h0, .inr (5, [.ref tl, .ref tr, .ref cu, .ref bk, .int 0]))]) (fun _ _ _ _ => False) (jx_X "java/lang/IllegalStateException") 1 6 (fun _ => False) := by
  refine vx_ofW (cc := cX5_back) (maxL := 1) (ret := (some .int)) (by decide) rfl ?_
  intro p e s m args below meth c s₁ B hml hxt hv
  obtain ⟨rfl, hP, hK, hN, hZ⟩ := hv
  have hx := B.exec
  have hb := B.bytes
  have hr := B.returns
  have hts := atoms_spec (ws := wsX5_back) B.pre
  have hown : s.vm.findClass RX5 = some m.cls := findClass_of_methodNamed B.named
  have hlocks := B.notSynchronized
  have hl := lv_entry ([.ref h0]) (n := 1) (Nat.le_of_ble_eq_true rfl)
  rw [lg_entry_eq]
  generalize (lg_sl ([.ref h0]) ++ List.replicate (1 - (lg_sl ([.ref h0])).length) Slot.unset).toArray = ls at hl ⊢
  have hl : lv_has ls 1 [(0, .ref h0)] := hl
  refine lv_aload_n hx hb dX5_back_0 rfl (lv_at hl 0 rfl) ?_
  refine va_get (D := D) (ci := 5) (v := .int 0) (C := RX5) (T := TX5) (N := 5) hx hb hts (by decide +kernel) hown hK hP 0 rfl rfl 4 (by decide) (hts (.fieldLink RX5 41 "JoinDesk" "prepared" "Z") (by decide +kernel)) (fun _ h9 => h9) rfl dX5_back_1 ?_
  refine lv_if_eq (tgt := 21) hx hb dX5_back_4 (by decide) (fun c_1 => ?_) (fun c_1 => absurd c_1 (by decide))
  refine lv_iconst (v := 0) hx hb dX5_back_21 (by decide) ?_
  refine jx_thr (vx_runS (As := [.int 0]) (rest := []) ⟨hx, hb, hml, hown, hts⟩ (cJ_requireState_t l hnt D cI cL cQ) (va_cwS 1 hts gX5_back_X5_requireState rfl rfl rfl (by decide +kernel) ⟨Nat.le_of_ble_eq_true rfl, Nat.le_of_ble_eq_true rfl⟩) (jt_S hK hN hZ hP [] rfl) rfl rfl hl.1 rfl (lv_room (Nat.le_of_ble_eq_true rfl)) dX5_back_22 ⟨Nat.le_of_ble_eq_true rfl, Nat.le_of_ble_eq_true rfl⟩) (fun ce q9 H1 hz hk hce hcv hcl => ?_)
  exact jx_out hxt hlocks hz hk hce hcv hcl (Nat.le_of_ble_eq_true rfl) (Nat.le_of_ble_eq_true rfl)
set_option maxHeartbeats 1000000 in
set_option maxRecDepth 100000 in
theorem gJ_seek_t (l : Launch) (hnt : l.stackTraces = false) (D : va_G) (cI cL cQ : ClassId) (h0 : Nat) (tl : Nat) (tr : Nat) (cu : Nat) (bk : Nat) (x : Int32) : vx_Met l yX5_seek wsX5_seek ({ frames := 7, cells := 1, slots := 6, locals := 102 }) (jt_P D vwCl (jT cI cL cQ) cL cQ [.ref h0, .int x] [(h0, .inr (5, [.ref tl, .ref tr, .ref cu, .ref bk, .int 0]))]) (fun _ _ _ _ => False) (jx_X "java/lang/IllegalStateException") 1 6 (fun _ => False) := by
  refine vx_ofW (cc := cX5_seek) (maxL := 2) (ret := (some .boolean)) (by decide) rfl ?_
  intro p e s m args below meth c s₁ B hml hxt hv
  obtain ⟨rfl, hP, hK, hN, hZ⟩ := hv
  have hx := B.exec
  have hb := B.bytes
  have hr := B.returns
  have hts := atoms_spec (ws := wsX5_seek) B.pre
  have hown : s.vm.findClass RX5 = some m.cls := findClass_of_methodNamed B.named
  have hlocks := B.notSynchronized
  have hl := lv_entry ([.ref h0, .int x]) (n := 2) (Nat.le_of_ble_eq_true rfl)
  rw [lg_entry_eq]
  generalize (lg_sl ([.ref h0, .int x]) ++ List.replicate (2 - (lg_sl ([.ref h0, .int x])).length) Slot.unset).toArray = ls at hl ⊢
  have hl : lv_has ls 2 [(0, .ref h0), (1, .int x)] := hl
  refine lv_aload_n hx hb dX5_seek_0 rfl (lv_at hl 0 rfl) ?_
  refine va_get (D := D) (ci := 5) (v := .int 0) (C := RX5) (T := TX5) (N := 5) hx hb hts (by decide +kernel) hown hK hP 0 rfl rfl 4 (by decide) (hts (.fieldLink RX5 41 "JoinDesk" "prepared" "Z") (by decide +kernel)) (fun _ h9 => h9) rfl dX5_seek_1 ?_
  refine jx_thr (vx_runS (As := [.int 0]) (rest := []) ⟨hx, hb, hml, hown, hts⟩ (cJ_requireState_t l hnt D cI cL cQ) (va_cwS 1 hts gX5_seek_X5_requireState rfl rfl rfl (by decide +kernel) ⟨Nat.le_of_ble_eq_true rfl, Nat.le_of_ble_eq_true rfl⟩) (jt_S hK hN hZ hP [] rfl) rfl rfl hl.1 rfl (lv_room (Nat.le_of_ble_eq_true rfl)) dX5_seek_4 ⟨Nat.le_of_ble_eq_true rfl, Nat.le_of_ble_eq_true rfl⟩) (fun ce q9 H1 hz hk hce hcv hcl => ?_)
  exact jx_out hxt hlocks hz hk hce hcv hcl (Nat.le_of_ble_eq_true rfl) (Nat.le_of_ble_eq_true rfl)
set_option maxHeartbeats 1000000 in
set_option maxRecDepth 100000 in
theorem gJ_rewind_t (l : Launch) (hnt : l.stackTraces = false) (D : va_G) (cI cL cQ : ClassId) (h0 : Nat) (tl : Nat) (tr : Nat) (cu : Nat) (bk : Nat) : vx_Met l yX5_rewind wsX5_rewind ({ frames := 7, cells := 1, slots := 6, locals := 102 }) (jt_P D vwCl (jT cI cL cQ) cL cQ [.ref h0] [(h0, .inr (5, [.ref tl, .ref tr, .ref cu, .ref bk, .int 0]))]) (fun _ _ _ _ => False) (jx_X "java/lang/IllegalStateException") 1 6 (fun _ => False) := by
  refine vx_ofW (cc := cX5_rewind) (maxL := 1) (ret := none) (by decide) rfl ?_
  intro p e s m args below meth c s₁ B hml hxt hv
  obtain ⟨rfl, hP, hK, hN, hZ⟩ := hv
  have hx := B.exec
  have hb := B.bytes
  have hr := B.returns
  have hts := atoms_spec (ws := wsX5_rewind) B.pre
  have hown : s.vm.findClass RX5 = some m.cls := findClass_of_methodNamed B.named
  have hlocks := B.notSynchronized
  have hl := lv_entry ([.ref h0]) (n := 1) (Nat.le_of_ble_eq_true rfl)
  rw [lg_entry_eq]
  generalize (lg_sl ([.ref h0]) ++ List.replicate (1 - (lg_sl ([.ref h0])).length) Slot.unset).toArray = ls at hl ⊢
  have hl : lv_has ls 1 [(0, .ref h0)] := hl
  refine lv_aload_n hx hb dX5_rewind_0 rfl (lv_at hl 0 rfl) ?_
  refine va_get (D := D) (ci := 5) (v := .int 0) (C := RX5) (T := TX5) (N := 5) hx hb hts (by decide +kernel) hown hK hP 0 rfl rfl 4 (by decide) (hts (.fieldLink RX5 41 "JoinDesk" "prepared" "Z") (by decide +kernel)) (fun _ h9 => h9) rfl dX5_rewind_1 ?_
  refine jx_thr (vx_runS (As := [.int 0]) (rest := []) ⟨hx, hb, hml, hown, hts⟩ (cJ_requireState_t l hnt D cI cL cQ) (va_cwS 1 hts gX5_rewind_X5_requireState rfl rfl rfl (by decide +kernel) ⟨Nat.le_of_ble_eq_true rfl, Nat.le_of_ble_eq_true rfl⟩) (jt_S hK hN hZ hP [] rfl) rfl rfl hl.1 rfl (lv_room (Nat.le_of_ble_eq_true rfl)) dX5_rewind_4 ⟨Nat.le_of_ble_eq_true rfl, Nat.le_of_ble_eq_true rfl⟩) (fun ce q9 H1 hz hk hce hcv hcl => ?_)
  exact jx_out hxt hlocks hz hk hce hcv hcl (Nat.le_of_ble_eq_true rfl) (Nat.le_of_ble_eq_true rfl)
set_option maxHeartbeats 1000000 in
set_option maxRecDepth 100000 in
theorem gJ_groups_t (l : Launch) (hnt : l.stackTraces = false) (D : va_G) (cI cL cQ : ClassId) (h0 : Nat) (tl : Nat) (tr : Nat) (cu : Nat) (bk : Nat) : vx_Met l yX5_groups wsX5_groups ({ frames := 7, cells := 1, slots := 6, locals := 102 }) (jt_P D vwCl (jT cI cL cQ) cL cQ [.ref h0] [(h0, .inr (5, [.ref tl, .ref tr, .ref cu, .ref bk, .int 0]))]) (fun _ _ _ _ => False) (jx_X "java/lang/IllegalStateException") 1 6 (fun _ => False) := by
  refine vx_ofW (cc := cX5_groups) (maxL := 1) (ret := (some .int)) (by decide) rfl ?_
  intro p e s m args below meth c s₁ B hml hxt hv
  obtain ⟨rfl, hP, hK, hN, hZ⟩ := hv
  have hx := B.exec
  have hb := B.bytes
  have hr := B.returns
  have hts := atoms_spec (ws := wsX5_groups) B.pre
  have hown : s.vm.findClass RX5 = some m.cls := findClass_of_methodNamed B.named
  have hlocks := B.notSynchronized
  have hl := lv_entry ([.ref h0]) (n := 1) (Nat.le_of_ble_eq_true rfl)
  rw [lg_entry_eq]
  generalize (lg_sl ([.ref h0]) ++ List.replicate (1 - (lg_sl ([.ref h0])).length) Slot.unset).toArray = ls at hl ⊢
  have hl : lv_has ls 1 [(0, .ref h0)] := hl
  refine lv_aload_n hx hb dX5_groups_0 rfl (lv_at hl 0 rfl) ?_
  refine va_get (D := D) (ci := 5) (v := .int 0) (C := RX5) (T := TX5) (N := 5) hx hb hts (by decide +kernel) hown hK hP 0 rfl rfl 4 (by decide) (hts (.fieldLink RX5 41 "JoinDesk" "prepared" "Z") (by decide +kernel)) (fun _ h9 => h9) rfl dX5_groups_1 ?_
  refine jx_thr (vx_runS (As := [.int 0]) (rest := []) ⟨hx, hb, hml, hown, hts⟩ (cJ_requireState_t l hnt D cI cL cQ) (va_cwS 1 hts gX5_groups_X5_requireState rfl rfl rfl (by decide +kernel) ⟨Nat.le_of_ble_eq_true rfl, Nat.le_of_ble_eq_true rfl⟩) (jt_S hK hN hZ hP [] rfl) rfl rfl hl.1 rfl (lv_room (Nat.le_of_ble_eq_true rfl)) dX5_groups_4 ⟨Nat.le_of_ble_eq_true rfl, Nat.le_of_ble_eq_true rfl⟩) (fun ce q9 H1 hz hk hce hcv hcl => ?_)
  exact jx_out hxt hlocks hz hk hce hcv hcl (Nat.le_of_ble_eq_true rfl) (Nat.le_of_ble_eq_true rfl)
set_option maxHeartbeats 1000000 in
set_option maxRecDepth 100000 in
theorem gJ_back_t1 (l : Launch) (hnt : l.stackTraces = false) (D : va_G) (cI cL cQ : ClassId) (h0 : Nat) (tl : Nat) (tr : Nat) (cu : Nat) (bk : Nat) (he : Nat) (ma : Nat) (kd : Int32) (cc0 : Int64) : vx_Met l yX5_back wsX5_back ({ frames := 7, cells := 1, slots := 6, locals := 102 }) (jt_P D vwCl (jT cI cL cQ) cL cQ [.ref h0] [(h0, .inr (5, [.ref tl, .ref tr, .ref cu, .ref bk, .int 1])), (cu, .inr (0, [.ref tl, .ref tr, .ref he, .ref ma, .int 0, .int kd, .long cc0]))]) (fun _ _ _ _ => False) (jx_X "java/lang/IllegalStateException") 1 6 (fun _ => False) := by
  refine vx_ofW (cc := cX5_back) (maxL := 1) (ret := (some .int)) (by decide) rfl ?_
  intro p e s m args below meth c s₁ B hml hxt hv
  obtain ⟨rfl, hP, hK, hN, hZ⟩ := hv
  have hx := B.exec
  have hb := B.bytes
  have hr := B.returns
  have hts := atoms_spec (ws := wsX5_back) B.pre
  have hown : s.vm.findClass RX5 = some m.cls := findClass_of_methodNamed B.named
  have hlocks := B.notSynchronized
  have hl := lv_entry ([.ref h0]) (n := 1) (Nat.le_of_ble_eq_true rfl)
  rw [lg_entry_eq]
  generalize (lg_sl ([.ref h0]) ++ List.replicate (1 - (lg_sl ([.ref h0])).length) Slot.unset).toArray = ls at hl ⊢
  have hl : lv_has ls 1 [(0, .ref h0)] := hl
  refine lv_aload_n hx hb dX5_back_0 rfl (lv_at hl 0 rfl) ?_
  refine va_get (D := D) (ci := 5) (v := .int 1) (C := RX5) (T := TX5) (N := 5) hx hb hts (by decide +kernel) hown hK hP 0 rfl rfl 4 (by decide) (hts (.fieldLink RX5 41 "JoinDesk" "prepared" "Z") (by decide +kernel)) (fun _ h9 => h9) rfl dX5_back_1 ?_
  refine lv_if_eq (tgt := 21) hx hb dX5_back_4 (by decide) (fun c_1 => absurd c_1 (by decide)) (fun c_1 => ?_)
  refine lv_aload_n hx hb dX5_back_7 rfl (lv_at hl 0 rfl) ?_
  refine va_get (D := D) (ci := 5) (v := .ref cu) (C := RX5) (T := TX5) (N := 5) hx hb hts (by decide +kernel) hown hK hP 0 rfl rfl 2 (by decide) (hts (.fieldLink RX5 30 "JoinDesk" "cursor" "LJoinDesk$Cursor;") (by decide +kernel)) (fun _ h9 => h9) rfl dX5_back_8 ?_
  refine vp_callSi (va_Run.run (va_runV (As := []) (rest := []) ⟨hx, hb, hml, hown, hts⟩ (gC_hasMark_0 l D cI cL cQ cu tl tr he ma kd cc0) (cwV 0 hts gX5_back_X0_hasMark rfl rfl rfl (by decide +kernel) ⟨Nat.le_of_ble_eq_true rfl, Nat.le_of_ble_eq_true rfl⟩) (jr_V hK hN hP [1] rfl 0 1 rfl rfl rfl) rfl rfl hl.1 rfl (lv_room (Nat.le_of_ble_eq_true rfl)) dX5_back_11 ⟨Nat.le_of_ble_eq_true rfl, Nat.le_of_ble_eq_true rfl⟩)) (fun r f_2 => ?_)
  obtain rfl := f_2
  refine lv_if_eq (tgt := 21) hx hb dX5_back_14 (by decide) (fun c_3 => ?_) (fun c_3 => absurd c_3 (by decide))
  refine lv_iconst (v := 0) hx hb dX5_back_21 (by decide) ?_
  refine jx_thr (vx_runS (As := [.int 0]) (rest := []) ⟨hx, hb, hml, hown, hts⟩ (cJ_requireState_t l hnt D cI cL cQ) (va_cwS 1 hts gX5_back_X5_requireState rfl rfl rfl (by decide +kernel) ⟨Nat.le_of_ble_eq_true rfl, Nat.le_of_ble_eq_true rfl⟩) (jt_S hK hN hZ hP [] rfl) rfl rfl hl.1 rfl (lv_room (Nat.le_of_ble_eq_true rfl)) dX5_back_22 ⟨Nat.le_of_ble_eq_true rfl, Nat.le_of_ble_eq_true rfl⟩) (fun ce q9 H1 hz hk hce hcv hcl => ?_)
  exact jx_out hxt hlocks hz hk hce hcv hcl (Nat.le_of_ble_eq_true rfl) (Nat.le_of_ble_eq_true rfl)
set_option maxHeartbeats 1000000 in
set_option maxRecDepth 100000 in
theorem gJ_rows_t (l : Launch) (hnt : l.stackTraces = false) (D : va_G) (cI cL cQ : ClassId) (h0 : Nat) (tl : Nat) (tr : Nat) (cu : Nat) (bk : Nat) (x : Int32) (y : Int32) : vx_Met l yX5_rows wsX5_rows ({ frames := 7, cells := 1, slots := 6, locals := 102 }) (jt_P D vwCl (jT cI cL cQ) cL cQ [.ref h0, .int x, .int y] [(h0, .inr (5, [.ref tl, .ref tr, .ref cu, .ref bk, .int 0]))]) (fun _ _ _ _ => False) (jx_X "java/lang/IllegalStateException") 1 6 (fun _ => False) := by
  refine vx_ofW (cc := cX5_rows) (maxL := 5) (ret := (some .int)) (by decide) rfl ?_
  intro p e s m args below meth c s₁ B hml hxt hv
  obtain ⟨rfl, hP, hK, hN, hZ⟩ := hv
  have hx := B.exec
  have hb := B.bytes
  have hr := B.returns
  have hts := atoms_spec (ws := wsX5_rows) B.pre
  have hown : s.vm.findClass RX5 = some m.cls := findClass_of_methodNamed B.named
  have hlocks := B.notSynchronized
  have hl := lv_entry ([.ref h0, .int x, .int y]) (n := 5) (Nat.le_of_ble_eq_true rfl)
  rw [lg_entry_eq]
  generalize (lg_sl ([.ref h0, .int x, .int y]) ++ List.replicate (5 - (lg_sl ([.ref h0, .int x, .int y])).length) Slot.unset).toArray = ls at hl ⊢
  have hl : lv_has ls 5 [(0, .ref h0), (1, .int x), (2, .int y)] := hl
  refine lv_aload_n hx hb dX5_rows_0 rfl (lv_at hl 0 rfl) ?_
  refine va_get (D := D) (ci := 5) (v := .int 0) (C := RX5) (T := TX5) (N := 5) hx hb hts (by decide +kernel) hown hK hP 0 rfl rfl 4 (by decide) (hts (.fieldLink RX5 41 "JoinDesk" "prepared" "Z") (by decide +kernel)) (fun _ h9 => h9) rfl dX5_rows_1 ?_
  refine jx_thr (vx_runS (As := [.int 0]) (rest := []) ⟨hx, hb, hml, hown, hts⟩ (cJ_requireState_t l hnt D cI cL cQ) (va_cwS 1 hts gX5_rows_X5_requireState rfl rfl rfl (by decide +kernel) ⟨Nat.le_of_ble_eq_true rfl, Nat.le_of_ble_eq_true rfl⟩) (jt_S hK hN hZ hP [] rfl) rfl rfl hl.1 rfl (lv_room (Nat.le_of_ble_eq_true rfl)) dX5_rows_4 ⟨Nat.le_of_ble_eq_true rfl, Nat.le_of_ble_eq_true rfl⟩) (fun ce q9 H1 hz hk hce hcv hcl => ?_)
  exact jx_out hxt hlocks hz hk hce hcv hcl (Nat.le_of_ble_eq_true rfl) (Nat.le_of_ble_eq_true rfl)
