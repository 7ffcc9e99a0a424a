set_option maxHeartbeats 1000000 in
set_option maxRecDepth 100000 in
theorem kL_add_1 (l : Launch) (hnt : l.stackTraces = false) (D : va_G) (cI cL cQ : ClassId) (h0 : Nat) (tl : Nat) (tr : Nat) (cu : Nat) (bk : Nat) (a : Nat) (n : Nat) (pl : Nat) (lk : Nat) (lv : Nat) (lo : Nat) (lp : Nat) (ll : Nat) (lf : Nat) (gk : Nat → Int32) (gv : Nat → Int32) (pr : Int32) (x : Int32) (y : Int32) (ou : Nat) (fo : Nat → Int64) (sz : Nat) (ha : a ≤ 400) (hlt : n < a) : Met l yL_add wsL_add ({ frames := 3, cells := 0, slots := 0, locals := 66 }) (jh_P D vwCl (jT cI cL cQ) cL cQ [.ref h0, .int 1, .int x, .int y, .ref ou] [(h0, .inr (5, [.ref tl, .ref tr, .ref cu, .ref bk, .int pr])), (tl, .inr (4, [.int (nI a), .ref lk, .ref lv, .ref lo, .ref lp, .ref ll, .ref lf, .int (nI n), .int (nI pl)])), (lk, .inl (cI, a, .inl gk)), (lv, .inl (cI, a, .inl gv)), (ou, .inl (cL, 1, .inr (.inl fo)))] sz) (va_Qi (fun (r : Int32) (u : va_W) => r = 0 ∧ u = [(h0, .inr (5, [.ref tl, .ref tr, .ref cu, .ref bk, .int 0])), (tl, .inr (4, [.int (nI a), .ref lk, .ref lv, .ref lo, .ref lp, .ref ll, .ref lf, .int (nI (n + 1)), .int (nI pl)])), (lk, .inl (cI, a, .inl (upd gk n x))), (lv, .inl (cI, a, .inl (upd gv n y))), (ou, .inl (cL, 1, .inr (.inl (vp_updL fo (0 : Int32).toNatClampNeg ((nI n).toInt64)))))]) (jw_B D vwCl (va_A [(h0, .inr (5, [.ref tl, .ref tr, .ref cu, .ref bk, .int pr])), (tl, .inr (4, [.int (nI a), .ref lk, .ref lv, .ref lo, .ref lp, .ref ll, .ref lf, .int (nI n), .int (nI pl)])), (lk, .inl (cI, a, .inl gk)), (lv, .inl (cI, a, .inl gv)), (ou, .inl (cL, 1, .inr (.inl fo)))] sz) (fun u : va_W => u)) (va_A [(h0, .inr (5, [.ref tl, .ref tr, .ref cu, .ref bk, .int pr])), (tl, .inr (4, [.int (nI a), .ref lk, .ref lv, .ref lo, .ref lp, .ref ll, .ref lf, .int (nI n), .int (nI pl)])), (lk, .inl (cI, a, .inl gk)), (lv, .inl (cI, a, .inl gv)), (ou, .inl (cL, 1, .inr (.inl fo)))] sz)) 0 0 (va_A [(h0, .inr (5, [.ref tl, .ref tr, .ref cu, .ref bk, .int pr])), (tl, .inr (4, [.int (nI a), .ref lk, .ref lv, .ref lo, .ref lp, .ref ll, .ref lf, .int (nI n), .int (nI pl)])), (lk, .inl (cI, a, .inl gk)), (lv, .inl (cI, a, .inl gv)), (ou, .inl (cL, 1, .inr (.inl fo)))] sz) := by
  refine va_MetW (hh := [(0, 12, 15, 13)]) (cc := cL_add) (maxL := 6) (ret := (some .int)) (by decide) rfl ?_
  intro p e s m args below meth c s₁ B hml hv
  obtain ⟨rfl, hsz, hP, hK, hN, hD0, hZ⟩ := hv
  have hx := B.exec
  have hb := B.bytes
  have hr := B.returns
  have hts := atoms_spec (ws := wsL_add) B.pre
  have hown : s.vm.findClass RL = some m.cls := findClass_of_methodNamed B.named
  have hlocks := B.notSynchronized
  subst hsz
  have hD := hD0.self (sz := s.heap.size)
  generalize hAe : va_A [(h0, .inr (5, [.ref tl, .ref tr, .ref cu, .ref bk, .int pr])), (tl, .inr (4, [.int (nI a), .ref lk, .ref lv, .ref lo, .ref lp, .ref ll, .ref lf, .int (nI n), .int (nI pl)])), (lk, .inl (cI, a, .inl gk)), (lv, .inl (cI, a, .inl gv)), (ou, .inl (cL, 1, .inr (.inl fo)))] s.heap.size = A at hD ⊢
  have hA : ∀ q : Nat, s.heap.size ≤ q → A q := fun q h => by rw [← hAe]; exact Or.inr h
  have hS : va_S A s.heap s.heap [] := va_S.rf
  have hl := lv_entry ([.ref h0, .int 1, .int x, .int y, .ref ou]) (n := 6) (Nat.le_of_ble_eq_true rfl)
  rw [lg_entry_eq]
  generalize (lg_sl ([.ref h0, .int 1, .int x, .int y, .ref ou]) ++ List.replicate (6 - (lg_sl ([.ref h0, .int 1, .int x, .int y, .ref ou])).length) Slot.unset).toArray = ls at hl ⊢
  have hl : lv_has ls 6 [(0, .ref h0), (1, .int 1), (2, .int x), (3, .int y), (4, .ref ou)] := hl
  refine lv_aload hx hb dL_add_0 (lv_at hl 4 rfl) ?_
  refine lv_iconst (v := 0) hx hb dL_add_2 (by decide) ?_
  refine lv_aload_n hx hb dL_add_3 rfl (lv_at hl 0 rfl) ?_
  refine lv_iload_n hx hb dL_add_4 rfl (lv_at hl 1 rfl) ?_
  refine lv_iload_n hx hb dL_add_5 rfl (lv_at hl 2 rfl) ?_
  refine lv_iload_n hx hb dL_add_6 rfl (lv_at hl 3 rfl) ?_
  refine jw_i (wr := [(ou, .inl (cL, 1, .inr (.inl fo)))]) (va_runV (As := [.int 1, .int x, .int y]) (rest := [.int 0, .ref ou]) ⟨hx, hb, hml, hown, hts⟩ (gJ_add_1 l D cI cL cQ h0 tl tr cu bk a n pl lk lv lo lp ll lf gk gv pr x y _ (by first | assumption | decide | omega) (by first | assumption | decide | omega)) (cwV 3 hts gL_add_X5_add rfl rfl rfl (by decide +kernel) ⟨Nat.le_of_ble_eq_true rfl, Nat.le_of_ble_eq_true rfl⟩) (jw_V hK hN hP hD [0, 1, 2, 3] (by decide) rfl 5 0 rfl rfl rfl) rfl rfl hl.1 rfl (lv_room (Nat.le_of_ble_eq_true rfl)) dL_add_7 ⟨Nat.le_of_ble_eq_true rfl, Nat.le_of_ble_eq_true rfl⟩) hP hD hS hA [0, 1, 2, 3] [4] rfl rfl (by decide) (by decide) (fun r u H locs f_1 hP hD hS => ?_)
  obtain ⟨rfl, rfl⟩ := f_1
  have hP : va_P D vwCl [(ou, .inl (cL, 1, .inr (.inl fo))), (h0, .inr (5, [.ref tl, .ref tr, .ref cu, .ref bk, .int 0])), (tl, .inr (4, [.int (nI a), .ref lk, .ref lv, .ref lo, .ref lp, .ref ll, .ref lf, .int (nI (n + 1)), .int (nI pl)])), (lk, .inl (cI, a, .inl (upd gk n x))), (lv, .inl (cI, a, .inl (upd gv n y)))] H := hP
  have hD : va_D A [(ou, .inl (cL, 1, .inr (.inl fo))), (h0, .inr (5, [.ref tl, .ref tr, .ref cu, .ref bk, .int 0])), (tl, .inr (4, [.int (nI a), .ref lk, .ref lv, .ref lo, .ref lp, .ref ll, .ref lf, .int (nI (n + 1)), .int (nI pl)])), (lk, .inl (cI, a, .inl (upd gk n x))), (lv, .inl (cI, a, .inl (upd gv n y)))] := hD
  refine lv_i2l (v := (nI n).toInt64) hx hb dL_add_10 (by first | rfl | decide) ?_
  refine va_last hx hb hK hP hD hS 0 1 rfl rfl (by unfold vp_in; decide) dL_add_11 (fun H locs hP hD hS => ?_)
  have hP : va_P D vwCl [(ou, .inl (cL, 1, .inr (.inl (vp_updL fo (0 : Int32).toNatClampNeg ((nI n).toInt64))))), (h0, .inr (5, [.ref tl, .ref tr, .ref cu, .ref bk, .int 0])), (tl, .inr (4, [.int (nI a), .ref lk, .ref lv, .ref lo, .ref lp, .ref ll, .ref lf, .int (nI (n + 1)), .int (nI pl)])), (lk, .inl (cI, a, .inl (upd gk n x))), (lv, .inl (cI, a, .inl (upd gv n y)))] H := hP
  have hD : va_D A [(ou, .inl (cL, 1, .inr (.inl (vp_updL fo (0 : Int32).toNatClampNeg ((nI n).toInt64))))), (h0, .inr (5, [.ref tl, .ref tr, .ref cu, .ref bk, .int 0])), (tl, .inr (4, [.int (nI a), .ref lk, .ref lv, .ref lo, .ref lp, .ref ll, .ref lf, .int (nI (n + 1)), .int (nI pl)])), (lk, .inl (cI, a, .inl (upd gk n x))), (lv, .inl (cI, a, .inl (upd gv n y)))] := hD
  refine lv_goto (tgt := 19) hx hb dL_add_12 (by decide) ?_
  refine lv_iconst (v := 0) hx hb dL_add_19 (by decide) ?_
  have hP := hP.sub (ws' := [(h0, .inr (5, [.ref tl, .ref tr, .ref cu, .ref bk, .int 0])), (tl, .inr (4, [.int (nI a), .ref lk, .ref lv, .ref lo, .ref lp, .ref ll, .ref lf, .int (nI (n + 1)), .int (nI pl)])), (lk, .inl (cI, a, .inl (upd gk n x))), (lv, .inl (cI, a, .inl (upd gv n y))), (ou, .inl (cL, 1, .inr (.inl (vp_updL fo (0 : Int32).toNatClampNeg ((nI n).toInt64)))))]) [1, 2, 3, 4, 0] rfl
  have hD := hD.sub (ws' := [(h0, .inr (5, [.ref tl, .ref tr, .ref cu, .ref bk, .int 0])), (tl, .inr (4, [.int (nI a), .ref lk, .ref lv, .ref lo, .ref lp, .ref ll, .ref lf, .int (nI (n + 1)), .int (nI pl)])), (lk, .inl (cI, a, .inl (upd gk n x))), (lv, .inl (cI, a, .inl (upd gv n y))), (ou, .inl (cL, 1, .inr (.inl (vp_updL fo (0 : Int32).toNatClampNeg ((nI n).toInt64)))))]) [1, 2, 3, 4, 0] (by decide) rfl
  refine W.widen (k := 0) (n := 0) (by omega) (by omega) ?_
  exact W.iret (v := 0) hx hb hr (fun t ht hW => ⟨⟨0, [(h0, .inr (5, [.ref tl, .ref tr, .ref cu, .ref bk, .int 0])), (tl, .inr (4, [.int (nI a), .ref lk, .ref lv, .ref lo, .ref lp, .ref ll, .ref lf, .int (nI (n + 1)), .int (nI pl)])), (lk, .inl (cI, a, .inl (upd gk n x))), (lv, .inl (cI, a, .inl (upd gv n y))), (ou, .inl (cL, 1, .inr (.inl (vp_updL fo (0 : Int32).toNatClampNeg ((nI n).toInt64)))))], rfl, (⟨rfl, rfl⟩), by rw [ht]; exact hP, hD⟩, hS.F ht⟩) hS.2.2 dL_add_20
set_option maxHeartbeats 1000000 in
set_option maxRecDepth 100000 in
theorem kL_add_0 (l : Launch) (hnt : l.stackTraces = false) (D : va_G) (cI cL cQ : ClassId) (h0 : Nat) (tl : Nat) (tr : Nat) (cu : Nat) (bk : Nat) (a2 : Nat) (n2 : Nat) (pl2 : Nat) (rk : Nat) (rv : Nat) (ro : Nat) (rp : Nat) (rl : Nat) (rf : Nat) (hk : Nat → Int32) (hv : Nat → Int32) (pr : Int32) (x : Int32) (y : Int32) (ou : Nat) (fo : Nat → Int64) (sz : Nat) (ha : a2 ≤ 400) (hlt : n2 < a2) : Met l yL_add wsL_add ({ frames := 3, cells := 0, slots := 0, locals := 66 }) (jh_P D vwCl (jT cI cL cQ) cL cQ [.ref h0, .int 0, .int x, .int y, .ref ou] [(h0, .inr (5, [.ref tl, .ref tr, .ref cu, .ref bk, .int pr])), (tr, .inr (4, [.int (nI a2), .ref rk, .ref rv, .ref ro, .ref rp, .ref rl, .ref rf, .int (nI n2), .int (nI pl2)])), (rk, .inl (cI, a2, .inl hk)), (rv, .inl (cI, a2, .inl hv)), (ou, .inl (cL, 1, .inr (.inl fo)))] sz) (va_Qi (fun (r : Int32) (u : va_W) => r = 0 ∧ u = [(h0, .inr (5, [.ref tl, .ref tr, .ref cu, .ref bk, .int 0])), (tr, .inr (4, [.int (nI a2), .ref rk, .ref rv, .ref ro, .ref rp, .ref rl, .ref rf, .int (nI (n2 + 1)), .int (nI pl2)])), (rk, .inl (cI, a2, .inl (upd hk n2 x))), (rv, .inl (cI, a2, .inl (upd hv n2 y))), (ou, .inl (cL, 1, .inr (.inl (vp_updL fo (0 : Int32).toNatClampNeg ((nI n2).toInt64)))))]) (jw_B D vwCl (va_A [(h0, .inr (5, [.ref tl, .ref tr, .ref cu, .ref bk, .int pr])), (tr, .inr (4, [.int (nI a2), .ref rk, .ref rv, .ref ro, .ref rp, .ref rl, .ref rf, .int (nI n2), .int (nI pl2)])), (rk, .inl (cI, a2, .inl hk)), (rv, .inl (cI, a2, .inl hv)), (ou, .inl (cL, 1, .inr (.inl fo)))] sz) (fun u : va_W => u)) (va_A [(h0, .inr (5, [.ref tl, .ref tr, .ref cu, .ref bk, .int pr])), (tr, .inr (4, [.int (nI a2), .ref rk, .ref rv, .ref ro, .ref rp, .ref rl, .ref rf, .int (nI n2), .int (nI pl2)])), (rk, .inl (cI, a2, .inl hk)), (rv, .inl (cI, a2, .inl hv)), (ou, .inl (cL, 1, .inr (.inl fo)))] sz)) 0 0 (va_A [(h0, .inr (5, [.ref tl, .ref tr, .ref cu, .ref bk, .int pr])), (tr, .inr (4, [.int (nI a2), .ref rk, .ref rv, .ref ro, .ref rp, .ref rl, .ref rf, .int (nI n2), .int (nI pl2)])), (rk, .inl (cI, a2, .inl hk)), (rv, .inl (cI, a2, .inl hv)), (ou, .inl (cL, 1, .inr (.inl fo)))] sz) := by
  refine va_MetW (hh := [(0, 12, 15, 13)]) (cc := cL_add) (maxL := 6) (ret := (some .int)) (by decide) rfl ?_
  intro p e s m args below meth c s₁ B hml hv
  obtain ⟨rfl, hsz, hP, hK, hN, hD0, hZ⟩ := hv
  have hx := B.exec
  have hb := B.bytes
  have hr := B.returns
  have hts := atoms_spec (ws := wsL_add) B.pre
  have hown : s.vm.findClass RL = some m.cls := findClass_of_methodNamed B.named
  have hlocks := B.notSynchronized
  subst hsz
  have hD := hD0.self (sz := s.heap.size)
  generalize hAe : va_A [(h0, .inr (5, [.ref tl, .ref tr, .ref cu, .ref bk, .int pr])), (tr, .inr (4, [.int (nI a2), .ref rk, .ref rv, .ref ro, .ref rp, .ref rl, .ref rf, .int (nI n2), .int (nI pl2)])), (rk, .inl (cI, a2, .inl hk)), (rv, .inl (cI, a2, .inl hv)), (ou, .inl (cL, 1, .inr (.inl fo)))] s.heap.size = A at hD ⊢
  have hA : ∀ q : Nat, s.heap.size ≤ q → A q := fun q h => by rw [← hAe]; exact Or.inr h
  have hS : va_S A s.heap s.heap [] := va_S.rf
  have hl := lv_entry ([.ref h0, .int 0, .int x, .int y, .ref ou]) (n := 6) (Nat.le_of_ble_eq_true rfl)
  rw [lg_entry_eq]
  generalize (lg_sl ([.ref h0, .int 0, .int x, .int y, .ref ou]) ++ List.replicate (6 - (lg_sl ([.ref h0, .int 0, .int x, .int y, .ref ou])).length) Slot.unset).toArray = ls at hl ⊢
  have hl : lv_has ls 6 [(0, .ref h0), (1, .int 0), (2, .int x), (3, .int y), (4, .ref ou)] := hl
  refine lv_aload hx hb dL_add_0 (lv_at hl 4 rfl) ?_
  refine lv_iconst (v := 0) hx hb dL_add_2 (by decide) ?_
  refine lv_aload_n hx hb dL_add_3 rfl (lv_at hl 0 rfl) ?_
  refine lv_iload_n hx hb dL_add_4 rfl (lv_at hl 1 rfl) ?_
  refine lv_iload_n hx hb dL_add_5 rfl (lv_at hl 2 rfl) ?_
  refine lv_iload_n hx hb dL_add_6 rfl (lv_at hl 3 rfl) ?_
  refine jw_i (wr := [(ou, .inl (cL, 1, .inr (.inl fo)))]) (va_runV (As := [.int 0, .int x, .int y]) (rest := [.int 0, .ref ou]) ⟨hx, hb, hml, hown, hts⟩ (gJ_add_0 l D cI cL cQ h0 tl tr cu bk a2 n2 pl2 rk rv ro rp rl rf hk hv pr x y _ (by first | assumption | decide | omega) (by first | assumption | decide | omega)) (cwV 3 hts gL_add_X5_add rfl rfl rfl (by decide +kernel) ⟨Nat.le_of_ble_eq_true rfl, Nat.le_of_ble_eq_true rfl⟩) (jw_V hK hN hP hD [0, 1, 2, 3] (by decide) rfl 5 0 rfl rfl rfl) rfl rfl hl.1 rfl (lv_room (Nat.le_of_ble_eq_true rfl)) dL_add_7 ⟨Nat.le_of_ble_eq_true rfl, Nat.le_of_ble_eq_true rfl⟩) hP hD hS hA [0, 1, 2, 3] [4] rfl rfl (by decide) (by decide) (fun r u H locs f_1 hP hD hS => ?_)
  obtain ⟨rfl, rfl⟩ := f_1
  have hP : va_P D vwCl [(ou, .inl (cL, 1, .inr (.inl fo))), (h0, .inr (5, [.ref tl, .ref tr, .ref cu, .ref bk, .int 0])), (tr, .inr (4, [.int (nI a2), .ref rk, .ref rv, .ref ro, .ref rp, .ref rl, .ref rf, .int (nI (n2 + 1)), .int (nI pl2)])), (rk, .inl (cI, a2, .inl (upd hk n2 x))), (rv, .inl (cI, a2, .inl (upd hv n2 y)))] H := hP
  have hD : va_D A [(ou, .inl (cL, 1, .inr (.inl fo))), (h0, .inr (5, [.ref tl, .ref tr, .ref cu, .ref bk, .int 0])), (tr, .inr (4, [.int (nI a2), .ref rk, .ref rv, .ref ro, .ref rp, .ref rl, .ref rf, .int (nI (n2 + 1)), .int (nI pl2)])), (rk, .inl (cI, a2, .inl (upd hk n2 x))), (rv, .inl (cI, a2, .inl (upd hv n2 y)))] := hD
  refine lv_i2l (v := (nI n2).toInt64) hx hb dL_add_10 (by first | rfl | decide) ?_
  refine va_last hx hb hK hP hD hS 0 1 rfl rfl (by unfold vp_in; decide) dL_add_11 (fun H locs hP hD hS => ?_)
  have hP : va_P D vwCl [(ou, .inl (cL, 1, .inr (.inl (vp_updL fo (0 : Int32).toNatClampNeg ((nI n2).toInt64))))), (h0, .inr (5, [.ref tl, .ref tr, .ref cu, .ref bk, .int 0])), (tr, .inr (4, [.int (nI a2), .ref rk, .ref rv, .ref ro, .ref rp, .ref rl, .ref rf, .int (nI (n2 + 1)), .int (nI pl2)])), (rk, .inl (cI, a2, .inl (upd hk n2 x))), (rv, .inl (cI, a2, .inl (upd hv n2 y)))] H := hP
  have hD : va_D A [(ou, .inl (cL, 1, .inr (.inl (vp_updL fo (0 : Int32).toNatClampNeg ((nI n2).toInt64))))), (h0, .inr (5, [.ref tl, .ref tr, .ref cu, .ref bk, .int 0])), (tr, .inr (4, [.int (nI a2), .ref rk, .ref rv, .ref ro, .ref rp, .ref rl, .ref rf, .int (nI (n2 + 1)), .int (nI pl2)])), (rk, .inl (cI, a2, .inl (upd hk n2 x))), (rv, .inl (cI, a2, .inl (upd hv n2 y)))] := hD
  refine lv_goto (tgt := 19) hx hb dL_add_12 (by decide) ?_
  refine lv_iconst (v := 0) hx hb dL_add_19 (by decide) ?_
  have hP := hP.sub (ws' := [(h0, .inr (5, [.ref tl, .ref tr, .ref cu, .ref bk, .int 0])), (tr, .inr (4, [.int (nI a2), .ref rk, .ref rv, .ref ro, .ref rp, .ref rl, .ref rf, .int (nI (n2 + 1)), .int (nI pl2)])), (rk, .inl (cI, a2, .inl (upd hk n2 x))), (rv, .inl (cI, a2, .inl (upd hv n2 y))), (ou, .inl (cL, 1, .inr (.inl (vp_updL fo (0 : Int32).toNatClampNeg ((nI n2).toInt64)))))]) [1, 2, 3, 4, 0] rfl
  have hD := hD.sub (ws' := [(h0, .inr (5, [.ref tl, .ref tr, .ref cu, .ref bk, .int 0])), (tr, .inr (4, [.int (nI a2), .ref rk, .ref rv, .ref ro, .ref rp, .ref rl, .ref rf, .int (nI (n2 + 1)), .int (nI pl2)])), (rk, .inl (cI, a2, .inl (upd hk n2 x))), (rv, .inl (cI, a2, .inl (upd hv n2 y))), (ou, .inl (cL, 1, .inr (.inl (vp_updL fo (0 : Int32).toNatClampNeg ((nI n2).toInt64)))))]) [1, 2, 3, 4, 0] (by decide) rfl
  refine W.widen (k := 0) (n := 0) (by omega) (by omega) ?_
  exact W.iret (v := 0) hx hb hr (fun t ht hW => ⟨⟨0, [(h0, .inr (5, [.ref tl, .ref tr, .ref cu, .ref bk, .int 0])), (tr, .inr (4, [.int (nI a2), .ref rk, .ref rv, .ref ro, .ref rp, .ref rl, .ref rf, .int (nI (n2 + 1)), .int (nI pl2)])), (rk, .inl (cI, a2, .inl (upd hk n2 x))), (rv, .inl (cI, a2, .inl (upd hv n2 y))), (ou, .inl (cL, 1, .inr (.inl (vp_updL fo (0 : Int32).toNatClampNeg ((nI n2).toInt64)))))], rfl, (⟨rfl, rfl⟩), by rw [ht]; exact hP, hD⟩, hS.F ht⟩) hS.2.2 dL_add_20
set_option maxHeartbeats 1000000 in
set_option maxRecDepth 100000 in
theorem kL_add_1t (l : Launch) (hnt : l.stackTraces = false) (D : va_G) (cI cL cQ : ClassId) (h0 : Nat) (tl : Nat) (tr : Nat) (cu : Nat) (bk : Nat) (a : Nat) (n : Nat) (pl : Nat) (lk : Nat) (lv : Nat) (lo : Nat) (lp : Nat) (ll : Nat) (lf : Nat) (pr : Int32) (x : Int32) (y : Int32) (ou : Nat) (fo : Nat → Int64) (sz : Nat) (ha : a ≤ 400) (hlt : n = a) : Met l yL_add wsL_add ({ frames := 8, cells := 1, slots := 6, locals := 126 }) (jh_P D vwCl (jT cI cL cQ) cL cQ [.ref h0, .int 1, .int x, .int y, .ref ou] [(h0, .inr (5, [.ref tl, .ref tr, .ref cu, .ref bk, .int pr])), (tl, .inr (4, [.int (nI a), .ref lk, .ref lv, .ref lo, .ref lp, .ref ll, .ref lf, .int (nI n), .int (nI pl)])), (ou, .inl (cL, 1, .inr (.inl fo)))] sz) (va_Qi (fun (r : Int32) (u : va_W) => r = 1 ∧ u = [(h0, .inr (5, [.ref tl, .ref tr, .ref cu, .ref bk, .int pr])), (tl, .inr (4, [.int (nI a), .ref lk, .ref lv, .ref lo, .ref lp, .ref ll, .ref lf, .int (nI n), .int (nI pl)])), (ou, .inl (cL, 1, .inr (.inl fo)))]) (jw_B D vwCl (va_A [(h0, .inr (5, [.ref tl, .ref tr, .ref cu, .ref bk, .int pr])), (tl, .inr (4, [.int (nI a), .ref lk, .ref lv, .ref lo, .ref lp, .ref ll, .ref lf, .int (nI n), .int (nI pl)])), (ou, .inl (cL, 1, .inr (.inl fo)))] sz) (fun u : va_W => u)) (va_A [(h0, .inr (5, [.ref tl, .ref tr, .ref cu, .ref bk, .int pr])), (tl, .inr (4, [.int (nI a), .ref lk, .ref lv, .ref lo, .ref lp, .ref ll, .ref lf, .int (nI n), .int (nI pl)])), (ou, .inl (cL, 1, .inr (.inl fo)))] sz)) 1 6 (va_A [(h0, .inr (5, [.ref tl, .ref tr, .ref cu, .ref bk, .int pr])), (tl, .inr (4, [.int (nI a), .ref lk, .ref lv, .ref lo, .ref lp, .ref ll, .ref lf, .int (nI n), .int (nI pl)])), (ou, .inl (cL, 1, .inr (.inl fo)))] sz) := by
  refine va_MetW (hh := [(0, 12, 15, 13)]) (cc := cL_add) (maxL := 6) (ret := (some .int)) (by decide) rfl ?_
  intro p e s m args below meth c s₁ B hml hv
  obtain ⟨rfl, hsz, hP, hK, hN, hD0, hZ⟩ := hv
  have hx := B.exec
  have hb := B.bytes
  have hr := B.returns
  have hts := atoms_spec (ws := wsL_add) B.pre
  have hown : s.vm.findClass RL = some m.cls := findClass_of_methodNamed B.named
  have hlocks := B.notSynchronized
  subst hsz
  have hD := hD0.self (sz := s.heap.size)
  generalize hAe : va_A [(h0, .inr (5, [.ref tl, .ref tr, .ref cu, .ref bk, .int pr])), (tl, .inr (4, [.int (nI a), .ref lk, .ref lv, .ref lo, .ref lp, .ref ll, .ref lf, .int (nI n), .int (nI pl)])), (ou, .inl (cL, 1, .inr (.inl fo)))] s.heap.size = A at hD ⊢
  have hA : ∀ q : Nat, s.heap.size ≤ q → A q := fun q h => by rw [← hAe]; exact Or.inr h
  have hS : va_S A s.heap s.heap [] := va_S.rf
  have hl := lv_entry ([.ref h0, .int 1, .int x, .int y, .ref ou]) (n := 6) (Nat.le_of_ble_eq_true rfl)
  rw [lg_entry_eq]
  generalize (lg_sl ([.ref h0, .int 1, .int x, .int y, .ref ou]) ++ List.replicate (6 - (lg_sl ([.ref h0, .int 1, .int x, .int y, .ref ou])).length) Slot.unset).toArray = ls at hl ⊢
  have hl : lv_has ls 6 [(0, .ref h0), (1, .int 1), (2, .int x), (3, .int y), (4, .ref ou)] := hl
  refine lv_aload hx hb dL_add_0 (lv_at hl 4 rfl) ?_
  refine lv_iconst (v := 0) hx hb dL_add_2 (by decide) ?_
  refine lv_aload_n hx hb dL_add_3 rfl (lv_at hl 0 rfl) ?_
  refine lv_iload_n hx hb dL_add_4 rfl (lv_at hl 1 rfl) ?_
  refine lv_iload_n hx hb dL_add_5 rfl (lv_at hl 2 rfl) ?_
  refine lv_iload_n hx hb dL_add_6 rfl (lv_at hl 3 rfl) ?_
  refine jx_thr (vx_runV (As := [.int 1, .int x, .int y]) (rest := [.int 0, .ref ou]) ⟨hx, hb, hml, hown, hts⟩ (gJ_add_1t l hnt D cI cL cQ h0 tl tr cu bk a n pl lk lv lo lp ll lf pr x y (by first | assumption | decide | omega) (by first | assumption | decide | omega)) (cwV 3 hts gL_add_X5_add rfl rfl rfl (by decide +kernel) ⟨Nat.le_of_ble_eq_true rfl, Nat.le_of_ble_eq_true rfl⟩) (jt_V hK hN hZ hP [0, 1] rfl 5 0 rfl rfl rfl) rfl rfl hl.1 rfl (lv_room (Nat.le_of_ble_eq_true rfl)) dL_add_7 ⟨Nat.le_of_ble_eq_true rfl, Nat.le_of_ble_eq_true rfl⟩) (fun ce q9 H1 hz hk hce hcv hcl => ?_)
  have hP : va_P D vwCl [(h0, .inr (5, [.ref tl, .ref tr, .ref cu, .ref bk, .int pr])), (tl, .inr (4, [.int (nI a), .ref lk, .ref lv, .ref lo, .ref lp, .ref ll, .ref lf, .int (nI n), .int (nI pl)])), (ou, .inl (cL, 1, .inr (.inl fo)))] H1 := hP.kept (fun k x hx => hk x.1 (hP k x hx).lt)
  have hS : va_S A s.heap H1 [] := ⟨hz, fun q h1 _ => hk q h1, fun _ h => nomatch h⟩
  generalize H1 = H at hP hS hce ⊢
  have htab : c.exceptionTable.toList = [⟨0, 12, 15, 13⟩] := vx_table (x := yL_add) B (hts _ List.mem_cons_self)
  refine jc_first (name := "") hown ⟨0, 12, 15, 13⟩ [] htab (by decide) (by decide) (hts (.classLink RL 13 "java/lang/IllegalStateException") (by decide +kernel)) hce hcv hcl ?_
  refine W.eq (g2 := F0 m 15 ls [.ref q9]) rfl ?_
  refine W.widen (k := 1) (n := 6) (by omega) (by omega) ?_
  refine lv_astore (lv' := [(5, .ref q9), (0, .ref h0), (1, .int 1), (2, .int x), (3, .int y), (4, .ref ou)]) hx hb dL_add_15 hl (by decide) rfl (fun ls hl => ?_)
  refine lv_iconst (v := 1) hx hb dL_add_17 (by decide) ?_
  refine W.widen (k := 1) (n := 6) (by omega) (by omega) ?_
  exact W.iret (v := 1) hx hb hr (fun t ht hW => ⟨⟨1, [(h0, .inr (5, [.ref tl, .ref tr, .ref cu, .ref bk, .int pr])), (tl, .inr (4, [.int (nI a), .ref lk, .ref lv, .ref lo, .ref lp, .ref ll, .ref lf, .int (nI n), .int (nI pl)])), (ou, .inl (cL, 1, .inr (.inl fo)))], rfl, (by exact ⟨rfl, rfl⟩), by rw [ht]; exact hP, hD⟩, hS.F ht⟩) hS.2.2 dL_add_18
set_option maxHeartbeats 1000000 in
set_option maxRecDepth 100000 in
theorem kL_add_0t (l : Launch) (hnt : l.stackTraces = false) (D : va_G) (cI cL cQ : ClassId) (h0 : Nat) (tl : Nat) (tr : Nat) (cu : Nat) (bk : Nat) (a2 : Nat) (n2 : Nat) (pl2 : Nat) (rk : Nat) (rv : Nat) (ro : Nat) (rp : Nat) (rl : Nat) (rf : Nat) (pr : Int32) (x : Int32) (y : Int32) (ou : Nat) (fo : Nat → Int64) (sz : Nat) (ha : a2 ≤ 400) (hlt : n2 = a2) : Met l yL_add wsL_add ({ frames := 8, cells := 1, slots := 6, locals := 126 }) (jh_P D vwCl (jT cI cL cQ) cL cQ [.ref h0, .int 0, .int x, .int y, .ref ou] [(h0, .inr (5, [.ref tl, .ref tr, .ref cu, .ref bk, .int pr])), (tr, .inr (4, [.int (nI a2), .ref rk, .ref rv, .ref ro, .ref rp, .ref rl, .ref rf, .int (nI n2), .int (nI pl2)])), (ou, .inl (cL, 1, .inr (.inl fo)))] sz) (va_Qi (fun (r : Int32) (u : va_W) => r = 1 ∧ u = [(h0, .inr (5, [.ref tl, .ref tr, .ref cu, .ref bk, .int pr])), (tr, .inr (4, [.int (nI a2), .ref rk, .ref rv, .ref ro, .ref rp, .ref rl, .ref rf, .int (nI n2), .int (nI pl2)])), (ou, .inl (cL, 1, .inr (.inl fo)))]) (jw_B D vwCl (va_A [(h0, .inr (5, [.ref tl, .ref tr, .ref cu, .ref bk, .int pr])), (tr, .inr (4, [.int (nI a2), .ref rk, .ref rv, .ref ro, .ref rp, .ref rl, .ref rf, .int (nI n2), .int (nI pl2)])), (ou, .inl (cL, 1, .inr (.inl fo)))] sz) (fun u : va_W => u)) (va_A [(h0, .inr (5, [.ref tl, .ref tr, .ref cu, .ref bk, .int pr])), (tr, .inr (4, [.int (nI a2), .ref rk, .ref rv, .ref ro, .ref rp, .ref rl, .ref rf, .int (nI n2), .int (nI pl2)])), (ou, .inl (cL, 1, .inr (.inl fo)))] sz)) 1 6 (va_A [(h0, .inr (5, [.ref tl, .ref tr, .ref cu, .ref bk, .int pr])), (tr, .inr (4, [.int (nI a2), .ref rk, .ref rv, .ref ro, .ref rp, .ref rl, .ref rf, .int (nI n2), .int (nI pl2)])), (ou, .inl (cL, 1, .inr (.inl fo)))] sz) := by
  refine va_MetW (hh := [(0, 12, 15, 13)]) (cc := cL_add) (maxL := 6) (ret := (some .int)) (by decide) rfl ?_
  intro p e s m args below meth c s₁ B hml hv
  obtain ⟨rfl, hsz, hP, hK, hN, hD0, hZ⟩ := hv
  have hx := B.exec
  have hb := B.bytes
  have hr := B.returns
  have hts := atoms_spec (ws := wsL_add) B.pre
  have hown : s.vm.findClass RL = some m.cls := findClass_of_methodNamed B.named
  have hlocks := B.notSynchronized
  subst hsz
  have hD := hD0.self (sz := s.heap.size)
  generalize hAe : va_A [(h0, .inr (5, [.ref tl, .ref tr, .ref cu, .ref bk, .int pr])), (tr, .inr (4, [.int (nI a2), .ref rk, .ref rv, .ref ro, .ref rp, .ref rl, .ref rf, .int (nI n2), .int (nI pl2)])), (ou, .inl (cL, 1, .inr (.inl fo)))] s.heap.size = A at hD ⊢
  have hA : ∀ q : Nat, s.heap.size ≤ q → A q := fun q h => by rw [← hAe]; exact Or.inr h
  have hS : va_S A s.heap s.heap [] := va_S.rf
  have hl := lv_entry ([.ref h0, .int 0, .int x, .int y, .ref ou]) (n := 6) (Nat.le_of_ble_eq_true rfl)
  rw [lg_entry_eq]
  generalize (lg_sl ([.ref h0, .int 0, .int x, .int y, .ref ou]) ++ List.replicate (6 - (lg_sl ([.ref h0, .int 0, .int x, .int y, .ref ou])).length) Slot.unset).toArray = ls at hl ⊢
  have hl : lv_has ls 6 [(0, .ref h0), (1, .int 0), (2, .int x), (3, .int y), (4, .ref ou)] := hl
  refine lv_aload hx hb dL_add_0 (lv_at hl 4 rfl) ?_
  refine lv_iconst (v := 0) hx hb dL_add_2 (by decide) ?_
  refine lv_aload_n hx hb dL_add_3 rfl (lv_at hl 0 rfl) ?_
  refine lv_iload_n hx hb dL_add_4 rfl (lv_at hl 1 rfl) ?_
  refine lv_iload_n hx hb dL_add_5 rfl (lv_at hl 2 rfl) ?_
  refine lv_iload_n hx hb dL_add_6 rfl (lv_at hl 3 rfl) ?_
  refine jx_thr (vx_runV (As := [.int 0, .int x, .int y]) (rest := [.int 0, .ref ou]) ⟨hx, hb, hml, hown, hts⟩ (gJ_add_0t l hnt D cI cL cQ h0 tl tr cu bk a2 n2 pl2 rk rv ro rp rl rf pr x y (by first | assumption | decide | omega) (by first | assumption | decide | omega)) (cwV 3 hts gL_add_X5_add rfl rfl rfl (by decide +kernel) ⟨Nat.le_of_ble_eq_true rfl, Nat.le_of_ble_eq_true rfl⟩) (jt_V hK hN hZ hP [0, 1] rfl 5 0 rfl rfl rfl) rfl rfl hl.1 rfl (lv_room (Nat.le_of_ble_eq_true rfl)) dL_add_7 ⟨Nat.le_of_ble_eq_true rfl, Nat.le_of_ble_eq_true rfl⟩) (fun ce q9 H1 hz hk hce hcv hcl => ?_)
  have hP : va_P D vwCl [(h0, .inr (5, [.ref tl, .ref tr, .ref cu, .ref bk, .int pr])), (tr, .inr (4, [.int (nI a2), .ref rk, .ref rv, .ref ro, .ref rp, .ref rl, .ref rf, .int (nI n2), .int (nI pl2)])), (ou, .inl (cL, 1, .inr (.inl fo)))] H1 := hP.kept (fun k x hx => hk x.1 (hP k x hx).lt)
  have hS : va_S A s.heap H1 [] := ⟨hz, fun q h1 _ => hk q h1, fun _ h => nomatch h⟩
  generalize H1 = H at hP hS hce ⊢
  have htab : c.exceptionTable.toList = [⟨0, 12, 15, 13⟩] := vx_table (x := yL_add) B (hts _ List.mem_cons_self)
  refine jc_first (name := "") hown ⟨0, 12, 15, 13⟩ [] htab (by decide) (by decide) (hts (.classLink RL 13 "java/lang/IllegalStateException") (by decide +kernel)) hce hcv hcl ?_
  refine W.eq (g2 := F0 m 15 ls [.ref q9]) rfl ?_
  refine W.widen (k := 1) (n := 6) (by omega) (by omega) ?_
  refine lv_astore (lv' := [(5, .ref q9), (0, .ref h0), (1, .int 0), (2, .int x), (3, .int y), (4, .ref ou)]) hx hb dL_add_15 hl (by decide) rfl (fun ls hl => ?_)
  refine lv_iconst (v := 1) hx hb dL_add_17 (by decide) ?_
  refine W.widen (k := 1) (n := 6) (by omega) (by omega) ?_
  exact W.iret (v := 1) hx hb hr (fun t ht hW => ⟨⟨1, [(h0, .inr (5, [.ref tl, .ref tr, .ref cu, .ref bk, .int pr])), (tr, .inr (4, [.int (nI a2), .ref rk, .ref rv, .ref ro, .ref rp, .ref rl, .ref rf, .int (nI n2), .int (nI pl2)])), (ou, .inl (cL, 1, .inr (.inl fo)))], rfl, (by exact ⟨rfl, rfl⟩), by rw [ht]; exact hP, hD⟩, hS.F ht⟩) hS.2.2 dL_add_18
set_option maxHeartbeats 1000000 in
set_option maxRecDepth 100000 in
theorem kL_kind (l : Launch) (hnt : l.stackTraces = false) (D : va_G) (cI cL cQ : ClassId) (h0 : Nat) (tl : Nat) (tr : Nat) (cu : Nat) (bk : Nat) (he : Nat) (ma : Nat) (hm : Int32) (kd : Int32) (cc0 : Int64) (p0 : Int32) (p1 : Int32) (p2 : Int32) (p3 : Int32) (p4 : Int32) (p5 : Int32) (p6 : Int32) (pr : Int32) (x : Int32) (sz : Nat) (h1 : ¬ x < 0) (h2 : ¬ 4 ≤ x) : Met l yL_kind wsL_kind ({ frames := 3, cells := 0, slots := 0, locals := 64 }) (jh_P D vwCl (jT cI cL cQ) cL cQ [.ref h0, .int x] [(h0, .inr (5, [.ref tl, .ref tr, .ref cu, .ref bk, .int pr])), (cu, .inr (0, [.ref tl, .ref tr, .ref he, .ref ma, .int hm, .int kd, .long cc0])), (he, .inr (2, [.int p0, .int p1, .int p2, .int p3, .int p4, .int p5, .int p6]))] sz) (va_Qi (fun (r : Int32) (u : va_W) => r = 0 ∧ u = [(h0, .inr (5, [.ref tl, .ref tr, .ref cu, .ref bk, .int pr])), (cu, .inr (0, [.ref tl, .ref tr, .ref he, .ref ma, .int 0, .int x, .long 0])), (he, .inr (2, [.int 0, .int 0, .int 0, .int 0, .int (-1), .int (-1), .int 0]))]) (jw_B D vwCl (va_A [(h0, .inr (5, [.ref tl, .ref tr, .ref cu, .ref bk, .int pr])), (cu, .inr (0, [.ref tl, .ref tr, .ref he, .ref ma, .int hm, .int kd, .long cc0])), (he, .inr (2, [.int p0, .int p1, .int p2, .int p3, .int p4, .int p5, .int p6]))] sz) (fun u : va_W => u)) (va_A [(h0, .inr (5, [.ref tl, .ref tr, .ref cu, .ref bk, .int pr])), (cu, .inr (0, [.ref tl, .ref tr, .ref he, .ref ma, .int hm, .int kd, .long cc0])), (he, .inr (2, [.int p0, .int p1, .int p2, .int p3, .int p4, .int p5, .int p6]))] sz)) 0 0 (va_A [(h0, .inr (5, [.ref tl, .ref tr, .ref cu, .ref bk, .int pr])), (cu, .inr (0, [.ref tl, .ref tr, .ref he, .ref ma, .int hm, .int kd, .long cc0])), (he, .inr (2, [.int p0, .int p1, .int p2, .int p3, .int p4, .int p5, .int p6]))] sz) := by
  refine va_MetW (hh := [(0, 5, 8, 19)]) (cc := cL_kind) (maxL := 3) (ret := (some .int)) (by decide) rfl ?_
  intro p e s m args below meth c s₁ B hml hv
  obtain ⟨rfl, hsz, hP, hK, hN, hD0, hZ⟩ := hv
  have hx := B.exec
  have hb := B.bytes
  have hr := B.returns
  have hts := atoms_spec (ws := wsL_kind) B.pre
  have hown : s.vm.findClass RL = some m.cls := findClass_of_methodNamed B.named
  have hlocks := B.notSynchronized
  subst hsz
  have hD := hD0.self (sz := s.heap.size)
  generalize hAe : va_A [(h0, .inr (5, [.ref tl, .ref tr, .ref cu, .ref bk, .int pr])), (cu, .inr (0, [.ref tl, .ref tr, .ref he, .ref ma, .int hm, .int kd, .long cc0])), (he, .inr (2, [.int p0, .int p1, .int p2, .int p3, .int p4, .int p5, .int p6]))] s.heap.size = A at hD ⊢
  have hA : ∀ q : Nat, s.heap.size ≤ q → A q := fun q h => by rw [← hAe]; exact Or.inr h
  have hS : va_S A s.heap s.heap [] := va_S.rf
  have hl := lv_entry ([.ref h0, .int x]) (n := 3) (Nat.le_of_ble_eq_true rfl)
  rw [lg_entry_eq]
  generalize (lg_sl ([.ref h0, .int x]) ++ List.replicate (3 - (lg_sl ([.ref h0, .int x])).length) Slot.unset).toArray = ls at hl ⊢
  have hl : lv_has ls 3 [(0, .ref h0), (1, .int x)] := hl
  refine lv_aload_n hx hb dL_kind_0 rfl (lv_at hl 0 rfl) ?_
  refine lv_iload_n hx hb dL_kind_1 rfl (lv_at hl 1 rfl) ?_
  refine jw_v (wr := []) (va_runV (As := [.int x]) (rest := []) ⟨hx, hb, hml, hown, hts⟩ (gJ_kind l D cI cL cQ h0 tl tr cu bk he ma hm kd cc0 p0 p1 p2 p3 p4 p5 p6 pr x _ (by first | assumption | decide | omega) (by first | assumption | decide | omega)) (cwV 1 hts gL_kind_X5_kind rfl rfl rfl (by decide +kernel) ⟨Nat.le_of_ble_eq_true rfl, Nat.le_of_ble_eq_true rfl⟩) (jw_V hK hN hP hD [0, 1, 2] (by decide) rfl 5 0 rfl rfl rfl) rfl rfl hl.1 rfl (lv_room (Nat.le_of_ble_eq_true rfl)) dL_kind_2 ⟨Nat.le_of_ble_eq_true rfl, Nat.le_of_ble_eq_true rfl⟩) hP hD hS hA [0, 1, 2] [] rfl rfl (by decide) (by decide) (fun u H locs f_1 hP hD hS => ?_)
  obtain rfl := f_1
  have hP : va_P D vwCl [(h0, .inr (5, [.ref tl, .ref tr, .ref cu, .ref bk, .int pr])), (cu, .inr (0, [.ref tl, .ref tr, .ref he, .ref ma, .int 0, .int x, .long 0])), (he, .inr (2, [.int 0, .int 0, .int 0, .int 0, .int (-1), .int (-1), .int 0]))] H := hP
  have hD : va_D A [(h0, .inr (5, [.ref tl, .ref tr, .ref cu, .ref bk, .int pr])), (cu, .inr (0, [.ref tl, .ref tr, .ref he, .ref ma, .int 0, .int x, .long 0])), (he, .inr (2, [.int 0, .int 0, .int 0, .int 0, .int (-1), .int (-1), .int 0]))] := hD
  refine lv_goto (tgt := 11) hx hb dL_kind_5 (by decide) ?_
  refine lv_iconst (v := 0) hx hb dL_kind_11 (by decide) ?_
  refine W.widen (k := 0) (n := 0) (by omega) (by omega) ?_
  exact W.iret (v := 0) hx hb hr (fun t ht hW => ⟨⟨0, [(h0, .inr (5, [.ref tl, .ref tr, .ref cu, .ref bk, .int pr])), (cu, .inr (0, [.ref tl, .ref tr, .ref he, .ref ma, .int 0, .int x, .long 0])), (he, .inr (2, [.int 0, .int 0, .int 0, .int 0, .int (-1), .int (-1), .int 0]))], rfl, (⟨rfl, rfl⟩), by rw [ht]; exact hP, hD⟩, hS.F ht⟩) hS.2.2 dL_kind_12
set_option maxHeartbeats 1000000 in
set_option maxRecDepth 100000 in
theorem kL_kind_t (l : Launch) (hnt : l.stackTraces = false) (D : va_G) (cI cL cQ : ClassId) (h0 : Nat) (tl : Nat) (tr : Nat) (cu : Nat) (bk : Nat) (pr : Int32) (x : Int32) (sz : Nat) (h1 : x < 0 ∨ 4 ≤ x) : Met l yL_kind wsL_kind ({ frames := 8, cells := 1, slots := 6, locals := 123 }) (jh_P D vwCl (jT cI cL cQ) cL cQ [.ref h0, .int x] [(h0, .inr (5, [.ref tl, .ref tr, .ref cu, .ref bk, .int pr]))] sz) (va_Qi (fun (r : Int32) (u : va_W) => r = 1 ∧ u = [(h0, .inr (5, [.ref tl, .ref tr, .ref cu, .ref bk, .int pr]))]) (jw_B D vwCl (va_A [(h0, .inr (5, [.ref tl, .ref tr, .ref cu, .ref bk, .int pr]))] sz) (fun u : va_W => u)) (va_A [(h0, .inr (5, [.ref tl, .ref tr, .ref cu, .ref bk, .int pr]))] sz)) 1 6 (va_A [(h0, .inr (5, [.ref tl, .ref tr, .ref cu, .ref bk, .int pr]))] sz) := by
  refine va_MetW (hh := [(0, 5, 8, 19)]) (cc := cL_kind) (maxL := 3) (ret := (some .int)) (by decide) rfl ?_
  intro p e s m args below meth c s₁ B hml hv
  obtain ⟨rfl, hsz, hP, hK, hN, hD0, hZ⟩ := hv
  have hx := B.exec
  have hb := B.bytes
  have hr := B.returns
  have hts := atoms_spec (ws := wsL_kind) B.pre
  have hown : s.vm.findClass RL = some m.cls := findClass_of_methodNamed B.named
  have hlocks := B.notSynchronized
  subst hsz
  have hD := hD0.self (sz := s.heap.size)
  generalize hAe : va_A [(h0, .inr (5, [.ref tl, .ref tr, .ref cu, .ref bk, .int pr]))] s.heap.size = A at hD ⊢
  have hA : ∀ q : Nat, s.heap.size ≤ q → A q := fun q h => by rw [← hAe]; exact Or.inr h
  have hS : va_S A s.heap s.heap [] := va_S.rf
  have hl := lv_entry ([.ref h0, .int x]) (n := 3) (Nat.le_of_ble_eq_true rfl)
  rw [lg_entry_eq]
  generalize (lg_sl ([.ref h0, .int x]) ++ List.replicate (3 - (lg_sl ([.ref h0, .int x])).length) Slot.unset).toArray = ls at hl ⊢
  have hl : lv_has ls 3 [(0, .ref h0), (1, .int x)] := hl
  refine lv_aload_n hx hb dL_kind_0 rfl (lv_at hl 0 rfl) ?_
  refine lv_iload_n hx hb dL_kind_1 rfl (lv_at hl 1 rfl) ?_
  refine jx_thr (vx_runV (As := [.int x]) (rest := []) ⟨hx, hb, hml, hown, hts⟩ (gJ_kind_t l hnt D cI cL cQ h0 tl tr cu bk pr x (by first | assumption | decide | omega)) (cwV 1 hts gL_kind_X5_kind rfl rfl rfl (by decide +kernel) ⟨Nat.le_of_ble_eq_true rfl, Nat.le_of_ble_eq_true rfl⟩) (jt_V hK hN hZ hP [0] rfl 5 0 rfl rfl rfl) rfl rfl hl.1 rfl (lv_room (Nat.le_of_ble_eq_true rfl)) dL_kind_2 ⟨Nat.le_of_ble_eq_true rfl, Nat.le_of_ble_eq_true rfl⟩) (fun ce q9 H1 hz hk hce hcv hcl => ?_)
  have hP : va_P D vwCl [(h0, .inr (5, [.ref tl, .ref tr, .ref cu, .ref bk, .int pr]))] H1 := hP.kept (fun k x hx => hk x.1 (hP k x hx).lt)
  have hS : va_S A s.heap H1 [] := ⟨hz, fun q h1 _ => hk q h1, fun _ h => nomatch h⟩
  generalize H1 = H at hP hS hce ⊢
  have htab : c.exceptionTable.toList = [⟨0, 5, 8, 19⟩] := vx_table (x := yL_kind) B (hts _ List.mem_cons_self)
  refine jc_first (name := "") hown ⟨0, 5, 8, 19⟩ [] htab (by decide) (by decide) (hts (.classLink RL 19 "java/lang/IllegalArgumentException") (by decide +kernel)) hce hcv hcl ?_
  refine W.eq (g2 := F0 m 8 ls [.ref q9]) rfl ?_
  refine W.widen (k := 1) (n := 6) (by omega) (by omega) ?_
  refine lv_astore_n (lv' := [(2, .ref q9), (0, .ref h0), (1, .int x)]) hx hb dL_kind_8 rfl hl (by decide) rfl (fun ls hl => ?_)
  refine lv_iconst (v := 1) hx hb dL_kind_9 (by decide) ?_
  refine W.widen (k := 1) (n := 6) (by omega) (by omega) ?_
  exact W.iret (v := 1) hx hb hr (fun t ht hW => ⟨⟨1, [(h0, .inr (5, [.ref tl, .ref tr, .ref cu, .ref bk, .int pr]))], rfl, (by exact ⟨rfl, rfl⟩), by rw [ht]; exact hP, hD⟩, hS.F ht⟩) hS.2.2 dL_kind_10
set_option maxHeartbeats 1000000 in
set_option maxRecDepth 100000 in
theorem kL_next (l : Launch) (hnt : l.stackTraces = false) (D : va_G) (cI cL cQ : ClassId) (h0 : Nat) (tl : Nat) (tr : Nat) (cu : Nat) (bk : Nat) (he : Nat) (ma : Nat) (hm : Int32) (kd : Int32) (cc0 : Int64) (p0 : Int32) (p1 : Int32) (p2 : Int32) (p3 : Int32) (p4 : Int32) (p5 : Int32) (p6 : Int32) (a : Nat) (n : Nat) (pl : Nat) (a2 : Nat) (n2 : Nat) (pl2 : Nat) (lk : Nat) (lv : Nat) (lo : Nat) (lp : Nat) (ll : Nat) (lf : Nat) (rk : Nat) (rv : Nat) (ro : Nat) (rp : Nat) (rl : Nat) (rf : Nat) (gk : Nat → Int32) (go : Nat → Int32) (hk : Nat → Int32) (ho_ : Nat → Int32) (ou : Nat) (fo : Nat → Int64) (sz : Nat) (ha : a ≤ 400) (hn : n ≤ a) (hol : jord a go) (ha2 : a2 ≤ 400) (hn2 : n2 ≤ a2) (hor : jord a2 ho_) : Met l yL_next wsL_next ({ frames := 7, cells := 0, slots := 0, locals := 153 }) (jh_P D vwCl (jT cI cL cQ) cL cQ [.ref h0, .ref ou] [(h0, .inr (5, [.ref tl, .ref tr, .ref cu, .ref bk, .int 1])), (cu, .inr (0, [.ref tl, .ref tr, .ref he, .ref ma, .int hm, .int kd, .long cc0])), (he, .inr (2, [.int p0, .int p1, .int p2, .int p3, .int p4, .int p5, .int p6])), (tl, .inr (4, [.int (nI a), .ref lk, .ref lv, .ref lo, .ref lp, .ref ll, .ref lf, .int (nI n), .int (nI pl)])), (lk, .inl (cI, a, .inl gk)), (lo, .inl (cI, a, .inl go)), (tr, .inr (4, [.int (nI a2), .ref rk, .ref rv, .ref ro, .ref rp, .ref rl, .ref rf, .int (nI n2), .int (nI pl2)])), (rk, .inl (cI, a2, .inl hk)), (ro, .inl (cI, a2, .inl ho_)), (ou, .inl (cL, 1, .inr (.inl fo)))] sz) (va_Qi (fun (r : Int32) (u : va_W) => ∃ (y0 : Int32) (y1 : Int32) (y2 : Int32) (y3 : Int32) (y4 : Int32) (y5 : Int32) (y6 : Int32) (cc9 : Int64) (fo9 : Nat → Int64), r = 0 ∧ u = [(h0, .inr (5, [.ref tl, .ref tr, .ref cu, .ref bk, .int 1])), (cu, .inr (0, [.ref tl, .ref tr, .ref he, .ref ma, .int hm, .int kd, .long cc9])), (he, .inr (2, [.int y0, .int y1, .int y2, .int y3, .int y4, .int y5, .int y6])), (tl, .inr (4, [.int (nI a), .ref lk, .ref lv, .ref lo, .ref lp, .ref ll, .ref lf, .int (nI n), .int (nI pl)])), (lk, .inl (cI, a, .inl gk)), (lo, .inl (cI, a, .inl go)), (tr, .inr (4, [.int (nI a2), .ref rk, .ref rv, .ref ro, .ref rp, .ref rl, .ref rf, .int (nI n2), .int (nI pl2)])), (rk, .inl (cI, a2, .inl hk)), (ro, .inl (cI, a2, .inl ho_)), (ou, .inl (cL, 1, .inr (.inl fo9)))]) (jw_B D vwCl (va_A [(h0, .inr (5, [.ref tl, .ref tr, .ref cu, .ref bk, .int 1])), (cu, .inr (0, [.ref tl, .ref tr, .ref he, .ref ma, .int hm, .int kd, .long cc0])), (he, .inr (2, [.int p0, .int p1, .int p2, .int p3, .int p4, .int p5, .int p6])), (tl, .inr (4, [.int (nI a), .ref lk, .ref lv, .ref lo, .ref lp, .ref ll, .ref lf, .int (nI n), .int (nI pl)])), (lk, .inl (cI, a, .inl gk)), (lo, .inl (cI, a, .inl go)), (tr, .inr (4, [.int (nI a2), .ref rk, .ref rv, .ref ro, .ref rp, .ref rl, .ref rf, .int (nI n2), .int (nI pl2)])), (rk, .inl (cI, a2, .inl hk)), (ro, .inl (cI, a2, .inl ho_)), (ou, .inl (cL, 1, .inr (.inl fo)))] sz) (fun u : va_W => u)) (va_A [(h0, .inr (5, [.ref tl, .ref tr, .ref cu, .ref bk, .int 1])), (cu, .inr (0, [.ref tl, .ref tr, .ref he, .ref ma, .int hm, .int kd, .long cc0])), (he, .inr (2, [.int p0, .int p1, .int p2, .int p3, .int p4, .int p5, .int p6])), (tl, .inr (4, [.int (nI a), .ref lk, .ref lv, .ref lo, .ref lp, .ref ll, .ref lf, .int (nI n), .int (nI pl)])), (lk, .inl (cI, a, .inl gk)), (lo, .inl (cI, a, .inl go)), (tr, .inr (4, [.int (nI a2), .ref rk, .ref rv, .ref ro, .ref rp, .ref rl, .ref rf, .int (nI n2), .int (nI pl2)])), (rk, .inl (cI, a2, .inl hk)), (ro, .inl (cI, a2, .inl ho_)), (ou, .inl (cL, 1, .inr (.inl fo)))] sz)) 0 0 (va_A [(h0, .inr (5, [.ref tl, .ref tr, .ref cu, .ref bk, .int 1])), (cu, .inr (0, [.ref tl, .ref tr, .ref he, .ref ma, .int hm, .int kd, .long cc0])), (he, .inr (2, [.int p0, .int p1, .int p2, .int p3, .int p4, .int p5, .int p6])), (tl, .inr (4, [.int (nI a), .ref lk, .ref lv, .ref lo, .ref lp, .ref ll, .ref lf, .int (nI n), .int (nI pl)])), (lk, .inl (cI, a, .inl gk)), (lo, .inl (cI, a, .inl go)), (tr, .inr (4, [.int (nI a2), .ref rk, .ref rv, .ref ro, .ref rp, .ref rl, .ref rf, .int (nI n2), .int (nI pl2)])), (rk, .inl (cI, a2, .inl hk)), (ro, .inl (cI, a2, .inl ho_)), (ou, .inl (cL, 1, .inr (.inl fo)))] sz) := by
  refine va_MetW (hh := [(0, 15, 18, 13)]) (cc := cL_next) (maxL := 3) (ret := (some .int)) (by decide) rfl ?_
  intro p e s m args below meth c s₁ B hml hv
  obtain ⟨rfl, hsz, hP, hK, hN, hD0, hZ⟩ := hv
  have hx := B.exec
  have hb := B.bytes
  have hr := B.returns
  have hts := atoms_spec (ws := wsL_next) B.pre
  have hown : s.vm.findClass RL = some m.cls := findClass_of_methodNamed B.named
  have hlocks := B.notSynchronized
  subst hsz
  have hD := hD0.self (sz := s.heap.size)
  generalize hAe : va_A [(h0, .inr (5, [.ref tl, .ref tr, .ref cu, .ref bk, .int 1])), (cu, .inr (0, [.ref tl, .ref tr, .ref he, .ref ma, .int hm, .int kd, .long cc0])), (he, .inr (2, [.int p0, .int p1, .int p2, .int p3, .int p4, .int p5, .int p6])), (tl, .inr (4, [.int (nI a), .ref lk, .ref lv, .ref lo, .ref lp, .ref ll, .ref lf, .int (nI n), .int (nI pl)])), (lk, .inl (cI, a, .inl gk)), (lo, .inl (cI, a, .inl go)), (tr, .inr (4, [.int (nI a2), .ref rk, .ref rv, .ref ro, .ref rp, .ref rl, .ref rf, .int (nI n2), .int (nI pl2)])), (rk, .inl (cI, a2, .inl hk)), (ro, .inl (cI, a2, .inl ho_)), (ou, .inl (cL, 1, .inr (.inl fo)))] s.heap.size = A at hD ⊢
  have hA : ∀ q : Nat, s.heap.size ≤ q → A q := fun q h => by rw [← hAe]; exact Or.inr h
  have hS : va_S A s.heap s.heap [] := va_S.rf
  have hl := lv_entry ([.ref h0, .ref ou]) (n := 3) (Nat.le_of_ble_eq_true rfl)
  rw [lg_entry_eq]
  generalize (lg_sl ([.ref h0, .ref ou]) ++ List.replicate (3 - (lg_sl ([.ref h0, .ref ou])).length) Slot.unset).toArray = ls at hl ⊢
  have hl : lv_has ls 3 [(0, .ref h0), (1, .ref ou)] := hl
  refine lv_aload_n hx hb dL_next_0 rfl (lv_at hl 1 rfl) ?_
  refine lv_iconst (v := 0) hx hb dL_next_1 (by decide) ?_
  refine lv_aload_n hx hb dL_next_2 rfl (lv_at hl 0 rfl) ?_
  refine jw_i (wr := [(ou, .inl (cL, 1, .inr (.inl fo)))]) (va_runV (As := []) (rest := [.int 0, .ref ou]) ⟨hx, hb, hml, hown, hts⟩ (gJ_next l D cI cL cQ h0 tl tr cu bk he ma hm kd cc0 p0 p1 p2 p3 p4 p5 p6 a n pl a2 n2 pl2 lk lv lo lp ll lf rk rv ro rp rl rf gk go hk ho_ _ (by first | assumption | decide | omega) (by first | assumption | decide | omega) (by first | assumption | decide | omega) (by first | assumption | decide | omega) (by first | assumption | decide | omega) (by first | assumption | decide | omega)) (cwV 0 hts gL_next_X5_next rfl rfl rfl (by decide +kernel) ⟨Nat.le_of_ble_eq_true rfl, Nat.le_of_ble_eq_true rfl⟩) (jw_V hK hN hP hD [0, 1, 2, 3, 4, 5, 6, 7, 8] (by decide) rfl 5 0 rfl rfl rfl) rfl rfl hl.1 rfl (lv_room (Nat.le_of_ble_eq_true rfl)) dL_next_3 ⟨Nat.le_of_ble_eq_true rfl, Nat.le_of_ble_eq_true rfl⟩) hP hD hS hA [0, 1, 2, 3, 4, 5, 6, 7, 8] [9] rfl rfl (by decide) (by decide) (fun r u H locs f_1 hP hD hS => ?_)
  rcases f_1 with ⟨y0, y1, y2, y3, y4, y5, y6, cc9, rfl, rfl⟩ | ⟨y0, y1, y2, y3, y4, y5, y6, cc9, rfl, rfl⟩
  · have hP : va_P D vwCl [(ou, .inl (cL, 1, .inr (.inl fo))), (h0, .inr (5, [.ref tl, .ref tr, .ref cu, .ref bk, .int 1])), (cu, .inr (0, [.ref tl, .ref tr, .ref he, .ref ma, .int hm, .int kd, .long cc9])), (he, .inr (2, [.int y0, .int y1, .int y2, .int y3, .int y4, .int y5, .int y6])), (tl, .inr (4, [.int (nI a), .ref lk, .ref lv, .ref lo, .ref lp, .ref ll, .ref lf, .int (nI n), .int (nI pl)])), (lk, .inl (cI, a, .inl gk)), (lo, .inl (cI, a, .inl go)), (tr, .inr (4, [.int (nI a2), .ref rk, .ref rv, .ref ro, .ref rp, .ref rl, .ref rf, .int (nI n2), .int (nI pl2)])), (rk, .inl (cI, a2, .inl hk)), (ro, .inl (cI, a2, .inl ho_))] H := hP
    have hD : va_D A [(ou, .inl (cL, 1, .inr (.inl fo))), (h0, .inr (5, [.ref tl, .ref tr, .ref cu, .ref bk, .int 1])), (cu, .inr (0, [.ref tl, .ref tr, .ref he, .ref ma, .int hm, .int kd, .long cc9])), (he, .inr (2, [.int y0, .int y1, .int y2, .int y3, .int y4, .int y5, .int y6])), (tl, .inr (4, [.int (nI a), .ref lk, .ref lv, .ref lo, .ref lp, .ref ll, .ref lf, .int (nI n), .int (nI pl)])), (lk, .inl (cI, a, .inl gk)), (lo, .inl (cI, a, .inl go)), (tr, .inr (4, [.int (nI a2), .ref rk, .ref rv, .ref ro, .ref rp, .ref rl, .ref rf, .int (nI n2), .int (nI pl2)])), (rk, .inl (cI, a2, .inl hk)), (ro, .inl (cI, a2, .inl ho_))] := hD
    refine lv_if_eq (tgt := 13) hx hb dL_next_6 (by decide) (fun c_2 => absurd c_2 (by decide)) (fun c_2 => ?_)
    refine lv_lconst (v := 1) hx hb dL_next_9 (by decide) ?_
    refine lv_goto (tgt := 14) hx hb dL_next_10 (by decide) ?_
    refine va_last hx hb hK hP hD hS 0 1 rfl rfl (by unfold vp_in; decide) dL_next_14 (fun H locs hP hD hS => ?_)
    have hP : va_P D vwCl [(ou, .inl (cL, 1, .inr (.inl (vp_updL fo (0 : Int32).toNatClampNeg 1)))), (h0, .inr (5, [.ref tl, .ref tr, .ref cu, .ref bk, .int 1])), (cu, .inr (0, [.ref tl, .ref tr, .ref he, .ref ma, .int hm, .int kd, .long cc9])), (he, .inr (2, [.int y0, .int y1, .int y2, .int y3, .int y4, .int y5, .int y6])), (tl, .inr (4, [.int (nI a), .ref lk, .ref lv, .ref lo, .ref lp, .ref ll, .ref lf, .int (nI n), .int (nI pl)])), (lk, .inl (cI, a, .inl gk)), (lo, .inl (cI, a, .inl go)), (tr, .inr (4, [.int (nI a2), .ref rk, .ref rv, .ref ro, .ref rp, .ref rl, .ref rf, .int (nI n2), .int (nI pl2)])), (rk, .inl (cI, a2, .inl hk)), (ro, .inl (cI, a2, .inl ho_))] H := hP
    have hD : va_D A [(ou, .inl (cL, 1, .inr (.inl (vp_updL fo (0 : Int32).toNatClampNeg 1)))), (h0, .inr (5, [.ref tl, .ref tr, .ref cu, .ref bk, .int 1])), (cu, .inr (0, [.ref tl, .ref tr, .ref he, .ref ma, .int hm, .int kd, .long cc9])), (he, .inr (2, [.int y0, .int y1, .int y2, .int y3, .int y4, .int y5, .int y6])), (tl, .inr (4, [.int (nI a), .ref lk, .ref lv, .ref lo, .ref lp, .ref ll, .ref lf, .int (nI n), .int (nI pl)])), (lk, .inl (cI, a, .inl gk)), (lo, .inl (cI, a, .inl go)), (tr, .inr (4, [.int (nI a2), .ref rk, .ref rv, .ref ro, .ref rp, .ref rl, .ref rf, .int (nI n2), .int (nI pl2)])), (rk, .inl (cI, a2, .inl hk)), (ro, .inl (cI, a2, .inl ho_))] := hD
    refine lv_goto (tgt := 21) hx hb dL_next_15 (by decide) ?_
    refine lv_iconst (v := 0) hx hb dL_next_21 (by decide) ?_
    have hP := hP.sub (ws' := [(h0, .inr (5, [.ref tl, .ref tr, .ref cu, .ref bk, .int 1])), (cu, .inr (0, [.ref tl, .ref tr, .ref he, .ref ma, .int hm, .int kd, .long cc9])), (he, .inr (2, [.int y0, .int y1, .int y2, .int y3, .int y4, .int y5, .int y6])), (tl, .inr (4, [.int (nI a), .ref lk, .ref lv, .ref lo, .ref lp, .ref ll, .ref lf, .int (nI n), .int (nI pl)])), (lk, .inl (cI, a, .inl gk)), (lo, .inl (cI, a, .inl go)), (tr, .inr (4, [.int (nI a2), .ref rk, .ref rv, .ref ro, .ref rp, .ref rl, .ref rf, .int (nI n2), .int (nI pl2)])), (rk, .inl (cI, a2, .inl hk)), (ro, .inl (cI, a2, .inl ho_)), (ou, .inl (cL, 1, .inr (.inl (vp_updL fo (0 : Int32).toNatClampNeg 1))))]) [1, 2, 3, 4, 5, 6, 7, 8, 9, 0] rfl
    have hD := hD.sub (ws' := [(h0, .inr (5, [.ref tl, .ref tr, .ref cu, .ref bk, .int 1])), (cu, .inr (0, [.ref tl, .ref tr, .ref he, .ref ma, .int hm, .int kd, .long cc9])), (he, .inr (2, [.int y0, .int y1, .int y2, .int y3, .int y4, .int y5, .int y6])), (tl, .inr (4, [.int (nI a), .ref lk, .ref lv, .ref lo, .ref lp, .ref ll, .ref lf, .int (nI n), .int (nI pl)])), (lk, .inl (cI, a, .inl gk)), (lo, .inl (cI, a, .inl go)), (tr, .inr (4, [.int (nI a2), .ref rk, .ref rv, .ref ro, .ref rp, .ref rl, .ref rf, .int (nI n2), .int (nI pl2)])), (rk, .inl (cI, a2, .inl hk)), (ro, .inl (cI, a2, .inl ho_)), (ou, .inl (cL, 1, .inr (.inl (vp_updL fo (0 : Int32).toNatClampNeg 1))))]) [1, 2, 3, 4, 5, 6, 7, 8, 9, 0] (by decide) rfl
    refine W.widen (k := 0) (n := 0) (by omega) (by omega) ?_
    exact W.iret (v := 0) hx hb hr (fun t ht hW => ⟨⟨0, [(h0, .inr (5, [.ref tl, .ref tr, .ref cu, .ref bk, .int 1])), (cu, .inr (0, [.ref tl, .ref tr, .ref he, .ref ma, .int hm, .int kd, .long cc9])), (he, .inr (2, [.int y0, .int y1, .int y2, .int y3, .int y4, .int y5, .int y6])), (tl, .inr (4, [.int (nI a), .ref lk, .ref lv, .ref lo, .ref lp, .ref ll, .ref lf, .int (nI n), .int (nI pl)])), (lk, .inl (cI, a, .inl gk)), (lo, .inl (cI, a, .inl go)), (tr, .inr (4, [.int (nI a2), .ref rk, .ref rv, .ref ro, .ref rp, .ref rl, .ref rf, .int (nI n2), .int (nI pl2)])), (rk, .inl (cI, a2, .inl hk)), (ro, .inl (cI, a2, .inl ho_)), (ou, .inl (cL, 1, .inr (.inl (vp_updL fo (0 : Int32).toNatClampNeg 1))))], rfl, (⟨_, _, _, _, _, _, _, _, _, rfl, rfl⟩), by rw [ht]; exact hP, hD⟩, hS.F ht⟩) hS.2.2 dL_next_22
  · have hP : va_P D vwCl [(ou, .inl (cL, 1, .inr (.inl fo))), (h0, .inr (5, [.ref tl, .ref tr, .ref cu, .ref bk, .int 1])), (cu, .inr (0, [.ref tl, .ref tr, .ref he, .ref ma, .int hm, .int kd, .long cc9])), (he, .inr (2, [.int y0, .int y1, .int y2, .int y3, .int y4, .int y5, .int y6])), (tl, .inr (4, [.int (nI a), .ref lk, .ref lv, .ref lo, .ref lp, .ref ll, .ref lf, .int (nI n), .int (nI pl)])), (lk, .inl (cI, a, .inl gk)), (lo, .inl (cI, a, .inl go)), (tr, .inr (4, [.int (nI a2), .ref rk, .ref rv, .ref ro, .ref rp, .ref rl, .ref rf, .int (nI n2), .int (nI pl2)])), (rk, .inl (cI, a2, .inl hk)), (ro, .inl (cI, a2, .inl ho_))] H := hP
    have hD : va_D A [(ou, .inl (cL, 1, .inr (.inl fo))), (h0, .inr (5, [.ref tl, .ref tr, .ref cu, .ref bk, .int 1])), (cu, .inr (0, [.ref tl, .ref tr, .ref he, .ref ma, .int hm, .int kd, .long cc9])), (he, .inr (2, [.int y0, .int y1, .int y2, .int y3, .int y4, .int y5, .int y6])), (tl, .inr (4, [.int (nI a), .ref lk, .ref lv, .ref lo, .ref lp, .ref ll, .ref lf, .int (nI n), .int (nI pl)])), (lk, .inl (cI, a, .inl gk)), (lo, .inl (cI, a, .inl go)), (tr, .inr (4, [.int (nI a2), .ref rk, .ref rv, .ref ro, .ref rp, .ref rl, .ref rf, .int (nI n2), .int (nI pl2)])), (rk, .inl (cI, a2, .inl hk)), (ro, .inl (cI, a2, .inl ho_))] := hD
    refine lv_if_eq (tgt := 13) hx hb dL_next_6 (by decide) (fun c_3 => ?_) (fun c_3 => absurd c_3 (by decide))
    refine lv_lconst (v := 0) hx hb dL_next_13 (by decide) ?_
    refine va_last hx hb hK hP hD hS 0 1 rfl rfl (by unfold vp_in; decide) dL_next_14 (fun H locs hP hD hS => ?_)
    have hP : va_P D vwCl [(ou, .inl (cL, 1, .inr (.inl (vp_updL fo (0 : Int32).toNatClampNeg 0)))), (h0, .inr (5, [.ref tl, .ref tr, .ref cu, .ref bk, .int 1])), (cu, .inr (0, [.ref tl, .ref tr, .ref he, .ref ma, .int hm, .int kd, .long cc9])), (he, .inr (2, [.int y0, .int y1, .int y2, .int y3, .int y4, .int y5, .int y6])), (tl, .inr (4, [.int (nI a), .ref lk, .ref lv, .ref lo, .ref lp, .ref ll, .ref lf, .int (nI n), .int (nI pl)])), (lk, .inl (cI, a, .inl gk)), (lo, .inl (cI, a, .inl go)), (tr, .inr (4, [.int (nI a2), .ref rk, .ref rv, .ref ro, .ref rp, .ref rl, .ref rf, .int (nI n2), .int (nI pl2)])), (rk, .inl (cI, a2, .inl hk)), (ro, .inl (cI, a2, .inl ho_))] H := hP
    have hD : va_D A [(ou, .inl (cL, 1, .inr (.inl (vp_updL fo (0 : Int32).toNatClampNeg 0)))), (h0, .inr (5, [.ref tl, .ref tr, .ref cu, .ref bk, .int 1])), (cu, .inr (0, [.ref tl, .ref tr, .ref he, .ref ma, .int hm, .int kd, .long cc9])), (he, .inr (2, [.int y0, .int y1, .int y2, .int y3, .int y4, .int y5, .int y6])), (tl, .inr (4, [.int (nI a), .ref lk, .ref lv, .ref lo, .ref lp, .ref ll, .ref lf, .int (nI n), .int (nI pl)])), (lk, .inl (cI, a, .inl gk)), (lo, .inl (cI, a, .inl go)), (tr, .inr (4, [.int (nI a2), .ref rk, .ref rv, .ref ro, .ref rp, .ref rl, .ref rf, .int (nI n2), .int (nI pl2)])), (rk, .inl (cI, a2, .inl hk)), (ro, .inl (cI, a2, .inl ho_))] := hD
    refine lv_goto (tgt := 21) hx hb dL_next_15 (by decide) ?_
    refine lv_iconst (v := 0) hx hb dL_next_21 (by decide) ?_
    have hP := hP.sub (ws' := [(h0, .inr (5, [.ref tl, .ref tr, .ref cu, .ref bk, .int 1])), (cu, .inr (0, [.ref tl, .ref tr, .ref he, .ref ma, .int hm, .int kd, .long cc9])), (he, .inr (2, [.int y0, .int y1, .int y2, .int y3, .int y4, .int y5, .int y6])), (tl, .inr (4, [.int (nI a), .ref lk, .ref lv, .ref lo, .ref lp, .ref ll, .ref lf, .int (nI n), .int (nI pl)])), (lk, .inl (cI, a, .inl gk)), (lo, .inl (cI, a, .inl go)), (tr, .inr (4, [.int (nI a2), .ref rk, .ref rv, .ref ro, .ref rp, .ref rl, .ref rf, .int (nI n2), .int (nI pl2)])), (rk, .inl (cI, a2, .inl hk)), (ro, .inl (cI, a2, .inl ho_)), (ou, .inl (cL, 1, .inr (.inl (vp_updL fo (0 : Int32).toNatClampNeg 0))))]) [1, 2, 3, 4, 5, 6, 7, 8, 9, 0] rfl
    have hD := hD.sub (ws' := [(h0, .inr (5, [.ref tl, .ref tr, .ref cu, .ref bk, .int 1])), (cu, .inr (0, [.ref tl, .ref tr, .ref he, .ref ma, .int hm, .int kd, .long cc9])), (he, .inr (2, [.int y0, .int y1, .int y2, .int y3, .int y4, .int y5, .int y6])), (tl, .inr (4, [.int (nI a), .ref lk, .ref lv, .ref lo, .ref lp, .ref ll, .ref lf, .int (nI n), .int (nI pl)])), (lk, .inl (cI, a, .inl gk)), (lo, .inl (cI, a, .inl go)), (tr, .inr (4, [.int (nI a2), .ref rk, .ref rv, .ref ro, .ref rp, .ref rl, .ref rf, .int (nI n2), .int (nI pl2)])), (rk, .inl (cI, a2, .inl hk)), (ro, .inl (cI, a2, .inl ho_)), (ou, .inl (cL, 1, .inr (.inl (vp_updL fo (0 : Int32).toNatClampNeg 0))))]) [1, 2, 3, 4, 5, 6, 7, 8, 9, 0] (by decide) rfl
    refine W.widen (k := 0) (n := 0) (by omega) (by omega) ?_
    exact W.iret (v := 0) hx hb hr (fun t ht hW => ⟨⟨0, [(h0, .inr (5, [.ref tl, .ref tr, .ref cu, .ref bk, .int 1])), (cu, .inr (0, [.ref tl, .ref tr, .ref he, .ref ma, .int hm, .int kd, .long cc9])), (he, .inr (2, [.int y0, .int y1, .int y2, .int y3, .int y4, .int y5, .int y6])), (tl, .inr (4, [.int (nI a), .ref lk, .ref lv, .ref lo, .ref lp, .ref ll, .ref lf, .int (nI n), .int (nI pl)])), (lk, .inl (cI, a, .inl gk)), (lo, .inl (cI, a, .inl go)), (tr, .inr (4, [.int (nI a2), .ref rk, .ref rv, .ref ro, .ref rp, .ref rl, .ref rf, .int (nI n2), .int (nI pl2)])), (rk, .inl (cI, a2, .inl hk)), (ro, .inl (cI, a2, .inl ho_)), (ou, .inl (cL, 1, .inr (.inl (vp_updL fo (0 : Int32).toNatClampNeg 0))))], rfl, (⟨_, _, _, _, _, _, _, _, _, rfl, rfl⟩), by rw [ht]; exact hP, hD⟩, hS.F ht⟩) hS.2.2 dL_next_22
set_option maxHeartbeats 1000000 in
set_option maxRecDepth 100000 in
theorem kL_next_t (l : Launch) (hnt : l.stackTraces = false) (D : va_G) (cI cL cQ : ClassId) (h0 : Nat) (tl : Nat) (tr : Nat) (cu : Nat) (bk : Nat) (ou : Nat) (fo : Nat → Int64) (sz : Nat) : Met l yL_next wsL_next ({ frames := 8, cells := 1, slots := 6, locals := 122 }) (jh_P D vwCl (jT cI cL cQ) cL cQ [.ref h0, .ref ou] [(h0, .inr (5, [.ref tl, .ref tr, .ref cu, .ref bk, .int 0])), (ou, .inl (cL, 1, .inr (.inl fo)))] sz) (va_Qi (fun (r : Int32) (u : va_W) => r = 1 ∧ u = [(h0, .inr (5, [.ref tl, .ref tr, .ref cu, .ref bk, .int 0])), (ou, .inl (cL, 1, .inr (.inl fo)))]) (jw_B D vwCl (va_A [(h0, .inr (5, [.ref tl, .ref tr, .ref cu, .ref bk, .int 0])), (ou, .inl (cL, 1, .inr (.inl fo)))] sz) (fun u : va_W => u)) (va_A [(h0, .inr (5, [.ref tl, .ref tr, .ref cu, .ref bk, .int 0])), (ou, .inl (cL, 1, .inr (.inl fo)))] sz)) 1 6 (va_A [(h0, .inr (5, [.ref tl, .ref tr, .ref cu, .ref bk, .int 0])), (ou, .inl (cL, 1, .inr (.inl fo)))] sz) := by
  refine va_MetW (hh := [(0, 15, 18, 13)]) (cc := cL_next) (maxL := 3) (ret := (some .int)) (by decide) rfl ?_
  intro p e s m args below meth c s₁ B hml hv
  obtain ⟨rfl, hsz, hP, hK, hN, hD0, hZ⟩ := hv
  have hx := B.exec
  have hb := B.bytes
  have hr := B.returns
  have hts := atoms_spec (ws := wsL_next) B.pre
  have hown : s.vm.findClass RL = some m.cls := findClass_of_methodNamed B.named
  have hlocks := B.notSynchronized
  subst hsz
  have hD := hD0.self (sz := s.heap.size)
  generalize hAe : va_A [(h0, .inr (5, [.ref tl, .ref tr, .ref cu, .ref bk, .int 0])), (ou, .inl (cL, 1, .inr (.inl fo)))] s.heap.size = A at hD ⊢
  have hA : ∀ q : Nat, s.heap.size ≤ q → A q := fun q h => by rw [← hAe]; exact Or.inr h
  have hS : va_S A s.heap s.heap [] := va_S.rf
  have hl := lv_entry ([.ref h0, .ref ou]) (n := 3) (Nat.le_of_ble_eq_true rfl)
  rw [lg_entry_eq]
  generalize (lg_sl ([.ref h0, .ref ou]) ++ List.replicate (3 - (lg_sl ([.ref h0, .ref ou])).length) Slot.unset).toArray = ls at hl ⊢
  have hl : lv_has ls 3 [(0, .ref h0), (1, .ref ou)] := hl
  refine lv_aload_n hx hb dL_next_0 rfl (lv_at hl 1 rfl) ?_
  refine lv_iconst (v := 0) hx hb dL_next_1 (by decide) ?_
  refine lv_aload_n hx hb dL_next_2 rfl (lv_at hl 0 rfl) ?_
  refine jx_thr (vx_runV (As := []) (rest := [.int 0, .ref ou]) ⟨hx, hb, hml, hown, hts⟩ (gJ_next_t l hnt D cI cL cQ h0 tl tr cu bk) (cwV 0 hts gL_next_X5_next rfl rfl rfl (by decide +kernel) ⟨Nat.le_of_ble_eq_true rfl, Nat.le_of_ble_eq_true rfl⟩) (jt_V hK hN hZ hP [0] rfl 5 0 rfl rfl rfl) rfl rfl hl.1 rfl (lv_room (Nat.le_of_ble_eq_true rfl)) dL_next_3 ⟨Nat.le_of_ble_eq_true rfl, Nat.le_of_ble_eq_true rfl⟩) (fun ce q9 H1 hz hk hce hcv hcl => ?_)
  have hP : va_P D vwCl [(h0, .inr (5, [.ref tl, .ref tr, .ref cu, .ref bk, .int 0])), (ou, .inl (cL, 1, .inr (.inl fo)))] H1 := hP.kept (fun k x hx => hk x.1 (hP k x hx).lt)
  have hS : va_S A s.heap H1 [] := ⟨hz, fun q h1 _ => hk q h1, fun _ h => nomatch h⟩
  generalize H1 = H at hP hS hce ⊢
  have htab : c.exceptionTable.toList = [⟨0, 15, 18, 13⟩] := vx_table (x := yL_next) B (hts _ List.mem_cons_self)
  refine jc_first (name := "") hown ⟨0, 15, 18, 13⟩ [] htab (by decide) (by decide) (hts (.classLink RL 13 "java/lang/IllegalStateException") (by decide +kernel)) hce hcv hcl ?_
  refine W.eq (g2 := F0 m 18 ls [.ref q9]) rfl ?_
  refine W.widen (k := 1) (n := 6) (by omega) (by omega) ?_
  refine lv_astore_n (lv' := [(2, .ref q9), (0, .ref h0), (1, .ref ou)]) hx hb dL_next_18 rfl hl (by decide) rfl (fun ls hl => ?_)
  refine lv_iconst (v := 1) hx hb dL_next_19 (by decide) ?_
  refine W.widen (k := 1) (n := 6) (by omega) (by omega) ?_
  exact W.iret (v := 1) hx hb hr (fun t ht hW => ⟨⟨1, [(h0, .inr (5, [.ref tl, .ref tr, .ref cu, .ref bk, .int 0])), (ou, .inl (cL, 1, .inr (.inl fo)))], rfl, (by exact ⟨rfl, rfl⟩), by rw [ht]; exact hP, hD⟩, hS.F ht⟩) hS.2.2 dL_next_20
set_option maxHeartbeats 1000000 in
set_option maxRecDepth 100000 in
theorem kL_mark (l : Launch) (hnt : l.stackTraces = false) (D : va_G) (cI cL cQ : ClassId) (h0 : Nat) (tl : Nat) (tr : Nat) (cu : Nat) (bk : Nat) (he : Nat) (ma : Nat) (hm : Int32) (kd : Int32) (cc0 : Int64) (p0 : Int32) (p1 : Int32) (p2 : Int32) (p3 : Int32) (p4 : Int32) (p5 : Int32) (p6 : Int32) (q0 : Int32) (q1 : Int32) (q2 : Int32) (q3 : Int32) (q4 : Int32) (q5 : Int32) (q6 : Int32) (ou : Nat) (fo : Nat → Int64) (sz : Nat) : Met l yL_mark wsL_mark ({ frames := 3, cells := 0, slots := 0, locals := 61 }) (jh_P D vwCl (jT cI cL cQ) cL cQ [.ref h0, .ref ou] [(h0, .inr (5, [.ref tl, .ref tr, .ref cu, .ref bk, .int 1])), (cu, .inr (0, [.ref tl, .ref tr, .ref he, .ref ma, .int hm, .int kd, .long cc0])), (he, .inr (2, [.int p0, .int p1, .int p2, .int p3, .int p4, .int p5, .int p6])), (ma, .inr (2, [.int q0, .int q1, .int q2, .int q3, .int q4, .int q5, .int q6])), (ou, .inl (cL, 1, .inr (.inl fo)))] sz) (va_Qi (fun (r : Int32) (u : va_W) => ∃ (fo9 : Nat → Int64), r = 0 ∧ u = [(h0, .inr (5, [.ref tl, .ref tr, .ref cu, .ref bk, .int 1])), (cu, .inr (0, [.ref tl, .ref tr, .ref he, .ref ma, .int 1, .int kd, .long cc0])), (he, .inr (2, [.int p0, .int p1, .int p2, .int p3, .int p4, .int p5, .int p6])), (ma, .inr (2, [.int p0, .int p1, .int p2, .int p3, .int p4, .int p5, .int p6])), (ou, .inl (cL, 1, .inr (.inl fo9)))]) (jw_B D vwCl (va_A [(h0, .inr (5, [.ref tl, .ref tr, .ref cu, .ref bk, .int 1])), (cu, .inr (0, [.ref tl, .ref tr, .ref he, .ref ma, .int hm, .int kd, .long cc0])), (he, .inr (2, [.int p0, .int p1, .int p2, .int p3, .int p4, .int p5, .int p6])), (ma, .inr (2, [.int q0, .int q1, .int q2, .int q3, .int q4, .int q5, .int q6])), (ou, .inl (cL, 1, .inr (.inl fo)))] sz) (fun u : va_W => u)) (va_A [(h0, .inr (5, [.ref tl, .ref tr, .ref cu, .ref bk, .int 1])), (cu, .inr (0, [.ref tl, .ref tr, .ref he, .ref ma, .int hm, .int kd, .long cc0])), (he, .inr (2, [.int p0, .int p1, .int p2, .int p3, .int p4, .int p5, .int p6])), (ma, .inr (2, [.int q0, .int q1, .int q2, .int q3, .int q4, .int q5, .int q6])), (ou, .inl (cL, 1, .inr (.inl fo)))] sz)) 0 0 (va_A [(h0, .inr (5, [.ref tl, .ref tr, .ref cu, .ref bk, .int 1])), (cu, .inr (0, [.ref tl, .ref tr, .ref he, .ref ma, .int hm, .int kd, .long cc0])), (he, .inr (2, [.int p0, .int p1, .int p2, .int p3, .int p4, .int p5, .int p6])), (ma, .inr (2, [.int q0, .int q1, .int q2, .int q3, .int q4, .int q5, .int q6])), (ou, .inl (cL, 1, .inr (.inl fo)))] sz) := by
  refine va_MetW (hh := [(0, 8, 11, 13)]) (cc := cL_mark) (maxL := 3) (ret := (some .int)) (by decide) rfl ?_
  intro p e s m args below meth c s₁ B hml hv
  obtain ⟨rfl, hsz, hP, hK, hN, hD0, hZ⟩ := hv
  have hx := B.exec
  have hb := B.bytes
  have hr := B.returns
  have hts := atoms_spec (ws := wsL_mark) B.pre
  have hown : s.vm.findClass RL = some m.cls := findClass_of_methodNamed B.named
  have hlocks := B.notSynchronized
  subst hsz
  have hD := hD0.self (sz := s.heap.size)
  generalize hAe : va_A [(h0, .inr (5, [.ref tl, .ref tr, .ref cu, .ref bk, .int 1])), (cu, .inr (0, [.ref tl, .ref tr, .ref he, .ref ma, .int hm, .int kd, .long cc0])), (he, .inr (2, [.int p0, .int p1, .int p2, .int p3, .int p4, .int p5, .int p6])), (ma, .inr (2, [.int q0, .int q1, .int q2, .int q3, .int q4, .int q5, .int q6])), (ou, .inl (cL, 1, .inr (.inl fo)))] s.heap.size = A at hD ⊢
  have hA : ∀ q : Nat, s.heap.size ≤ q → A q := fun q h => by rw [← hAe]; exact Or.inr h
  have hS : va_S A s.heap s.heap [] := va_S.rf
  have hl := lv_entry ([.ref h0, .ref ou]) (n := 3) (Nat.le_of_ble_eq_true rfl)
  rw [lg_entry_eq]
  generalize (lg_sl ([.ref h0, .ref ou]) ++ List.replicate (3 - (lg_sl ([.ref h0, .ref ou])).length) Slot.unset).toArray = ls at hl ⊢
  have hl : lv_has ls 3 [(0, .ref h0), (1, .ref ou)] := hl
  refine lv_aload_n hx hb dL_mark_0 rfl (lv_at hl 1 rfl) ?_
  refine lv_iconst (v := 0) hx hb dL_mark_1 (by decide) ?_
  refine lv_aload_n hx hb dL_mark_2 rfl (lv_at hl 0 rfl) ?_
  refine jw_i (wr := [(ou, .inl (cL, 1, .inr (.inl fo)))]) (va_runV (As := []) (rest := [.int 0, .ref ou]) ⟨hx, hb, hml, hown, hts⟩ (gJ_mark l D cI cL cQ h0 tl tr cu bk he ma hm kd cc0 p0 p1 p2 p3 p4 p5 p6 q0 q1 q2 q3 q4 q5 q6 _) (cwV 0 hts gL_mark_X5_mark rfl rfl rfl (by decide +kernel) ⟨Nat.le_of_ble_eq_true rfl, Nat.le_of_ble_eq_true rfl⟩) (jw_V hK hN hP hD [0, 1, 2, 3] (by decide) rfl 5 0 rfl rfl rfl) rfl rfl hl.1 rfl (lv_room (Nat.le_of_ble_eq_true rfl)) dL_mark_3 ⟨Nat.le_of_ble_eq_true rfl, Nat.le_of_ble_eq_true rfl⟩) hP hD hS hA [0, 1, 2, 3] [4] rfl rfl (by decide) (by decide) (fun r u H locs f_1 hP hD hS => ?_)
  obtain ⟨er_2, rfl⟩ := f_1
  subst r
  have hP : va_P D vwCl [(ou, .inl (cL, 1, .inr (.inl fo))), (h0, .inr (5, [.ref tl, .ref tr, .ref cu, .ref bk, .int 1])), (cu, .inr (0, [.ref tl, .ref tr, .ref he, .ref ma, .int 1, .int kd, .long cc0])), (he, .inr (2, [.int p0, .int p1, .int p2, .int p3, .int p4, .int p5, .int p6])), (ma, .inr (2, [.int p0, .int p1, .int p2, .int p3, .int p4, .int p5, .int p6]))] H := hP
  have hD : va_D A [(ou, .inl (cL, 1, .inr (.inl fo))), (h0, .inr (5, [.ref tl, .ref tr, .ref cu, .ref bk, .int 1])), (cu, .inr (0, [.ref tl, .ref tr, .ref he, .ref ma, .int 1, .int kd, .long cc0])), (he, .inr (2, [.int p0, .int p1, .int p2, .int p3, .int p4, .int p5, .int p6])), (ma, .inr (2, [.int p0, .int p1, .int p2, .int p3, .int p4, .int p5, .int p6]))] := hD
  refine lv_i2l (v := p6.toInt64) hx hb dL_mark_6 (by first | rfl | decide) ?_
  refine va_last hx hb hK hP hD hS 0 1 rfl rfl (by unfold vp_in; decide) dL_mark_7 (fun H locs hP hD hS => ?_)
  have hP : va_P D vwCl [(ou, .inl (cL, 1, .inr (.inl (vp_updL fo (0 : Int32).toNatClampNeg p6.toInt64)))), (h0, .inr (5, [.ref tl, .ref tr, .ref cu, .ref bk, .int 1])), (cu, .inr (0, [.ref tl, .ref tr, .ref he, .ref ma, .int 1, .int kd, .long cc0])), (he, .inr (2, [.int p0, .int p1, .int p2, .int p3, .int p4, .int p5, .int p6])), (ma, .inr (2, [.int p0, .int p1, .int p2, .int p3, .int p4, .int p5, .int p6]))] H := hP
  have hD : va_D A [(ou, .inl (cL, 1, .inr (.inl (vp_updL fo (0 : Int32).toNatClampNeg p6.toInt64)))), (h0, .inr (5, [.ref tl, .ref tr, .ref cu, .ref bk, .int 1])), (cu, .inr (0, [.ref tl, .ref tr, .ref he, .ref ma, .int 1, .int kd, .long cc0])), (he, .inr (2, [.int p0, .int p1, .int p2, .int p3, .int p4, .int p5, .int p6])), (ma, .inr (2, [.int p0, .int p1, .int p2, .int p3, .int p4, .int p5, .int p6]))] := hD
  refine lv_goto (tgt := 14) hx hb dL_mark_8 (by decide) ?_
  refine lv_iconst (v := 0) hx hb dL_mark_14 (by decide) ?_
  have hP := hP.sub (ws' := [(h0, .inr (5, [.ref tl, .ref tr, .ref cu, .ref bk, .int 1])), (cu, .inr (0, [.ref tl, .ref tr, .ref he, .ref ma, .int 1, .int kd, .long cc0])), (he, .inr (2, [.int p0, .int p1, .int p2, .int p3, .int p4, .int p5, .int p6])), (ma, .inr (2, [.int p0, .int p1, .int p2, .int p3, .int p4, .int p5, .int p6])), (ou, .inl (cL, 1, .inr (.inl (vp_updL fo (0 : Int32).toNatClampNeg p6.toInt64))))]) [1, 2, 3, 4, 0] rfl
  have hD := hD.sub (ws' := [(h0, .inr (5, [.ref tl, .ref tr, .ref cu, .ref bk, .int 1])), (cu, .inr (0, [.ref tl, .ref tr, .ref he, .ref ma, .int 1, .int kd, .long cc0])), (he, .inr (2, [.int p0, .int p1, .int p2, .int p3, .int p4, .int p5, .int p6])), (ma, .inr (2, [.int p0, .int p1, .int p2, .int p3, .int p4, .int p5, .int p6])), (ou, .inl (cL, 1, .inr (.inl (vp_updL fo (0 : Int32).toNatClampNeg p6.toInt64))))]) [1, 2, 3, 4, 0] (by decide) rfl
  refine W.widen (k := 0) (n := 0) (by omega) (by omega) ?_
  exact W.iret (v := 0) hx hb hr (fun t ht hW => ⟨⟨0, [(h0, .inr (5, [.ref tl, .ref tr, .ref cu, .ref bk, .int 1])), (cu, .inr (0, [.ref tl, .ref tr, .ref he, .ref ma, .int 1, .int kd, .long cc0])), (he, .inr (2, [.int p0, .int p1, .int p2, .int p3, .int p4, .int p5, .int p6])), (ma, .inr (2, [.int p0, .int p1, .int p2, .int p3, .int p4, .int p5, .int p6])), (ou, .inl (cL, 1, .inr (.inl (vp_updL fo (0 : Int32).toNatClampNeg p6.toInt64))))], rfl, (⟨_, rfl, rfl⟩), by rw [ht]; exact hP, hD⟩, hS.F ht⟩) hS.2.2 dL_mark_15
set_option maxHeartbeats 1000000 in
set_option maxRecDepth 100000 in
theorem kL_mark_t (l : Launch) (hnt : l.stackTraces = false) (D : va_G) (cI cL cQ : ClassId) (h0 : Nat) (tl : Nat) (tr : Nat) (cu : Nat) (bk : Nat) (ou : Nat) (fo : Nat → Int64) (sz : Nat) : Met l yL_mark wsL_mark ({ frames := 8, cells := 1, slots := 6, locals := 122 }) (jh_P D vwCl (jT cI cL cQ) cL cQ [.ref h0, .ref ou] [(h0, .inr (5, [.ref tl, .ref tr, .ref cu, .ref bk, .int 0])), (ou, .inl (cL, 1, .inr (.inl fo)))] sz) (va_Qi (fun (r : Int32) (u : va_W) => r = 1 ∧ u = [(h0, .inr (5, [.ref tl, .ref tr, .ref cu, .ref bk, .int 0])), (ou, .inl (cL, 1, .inr (.inl fo)))]) (jw_B D vwCl (va_A [(h0, .inr (5, [.ref tl, .ref tr, .ref cu, .ref bk, .int 0])), (ou, .inl (cL, 1, .inr (.inl fo)))] sz) (fun u : va_W => u)) (va_A [(h0, .inr (5, [.ref tl, .ref tr, .ref cu, .ref bk, .int 0])), (ou, .inl (cL, 1, .inr (.inl fo)))] sz)) 1 6 (va_A [(h0, .inr (5, [.ref tl, .ref tr, .ref cu, .ref bk, .int 0])), (ou, .inl (cL, 1, .inr (.inl fo)))] sz) := by
  refine va_MetW (hh := [(0, 8, 11, 13)]) (cc := cL_mark) (maxL := 3) (ret := (some .int)) (by decide) rfl ?_
  intro p e s m args below meth c s₁ B hml hv
  obtain ⟨rfl, hsz, hP, hK, hN, hD0, hZ⟩ := hv
  have hx := B.exec
  have hb := B.bytes
  have hr := B.returns
  have hts := atoms_spec (ws := wsL_mark) B.pre
  have hown : s.vm.findClass RL = some m.cls := findClass_of_methodNamed B.named
  have hlocks := B.notSynchronized
  subst hsz
  have hD := hD0.self (sz := s.heap.size)
  generalize hAe : va_A [(h0, .inr (5, [.ref tl, .ref tr, .ref cu, .ref bk, .int 0])), (ou, .inl (cL, 1, .inr (.inl fo)))] s.heap.size = A at hD ⊢
  have hA : ∀ q : Nat, s.heap.size ≤ q → A q := fun q h => by rw [← hAe]; exact Or.inr h
  have hS : va_S A s.heap s.heap [] := va_S.rf
  have hl := lv_entry ([.ref h0, .ref ou]) (n := 3) (Nat.le_of_ble_eq_true rfl)
  rw [lg_entry_eq]
  generalize (lg_sl ([.ref h0, .ref ou]) ++ List.replicate (3 - (lg_sl ([.ref h0, .ref ou])).length) Slot.unset).toArray = ls at hl ⊢
  have hl : lv_has ls 3 [(0, .ref h0), (1, .ref ou)] := hl
  refine lv_aload_n hx hb dL_mark_0 rfl (lv_at hl 1 rfl) ?_
  refine lv_iconst (v := 0) hx hb dL_mark_1 (by decide) ?_
  refine lv_aload_n hx hb dL_mark_2 rfl (lv_at hl 0 rfl) ?_
  refine jx_thr (vx_runV (As := []) (rest := [.int 0, .ref ou]) ⟨hx, hb, hml, hown, hts⟩ (gJ_mark_t l hnt D cI cL cQ h0 tl tr cu bk) (cwV 0 hts gL_mark_X5_mark rfl rfl rfl (by decide +kernel) ⟨Nat.le_of_ble_eq_true rfl, Nat.le_of_ble_eq_true rfl⟩) (jt_V hK hN hZ hP [0] rfl 5 0 rfl rfl rfl) rfl rfl hl.1 rfl (lv_room (Nat.le_of_ble_eq_true rfl)) dL_mark_3 ⟨Nat.le_of_ble_eq_true rfl, Nat.le_of_ble_eq_true rfl⟩) (fun ce q9 H1 hz hk hce hcv hcl => ?_)
  have hP : va_P D vwCl [(h0, .inr (5, [.ref tl, .ref tr, .ref cu, .ref bk, .int 0])), (ou, .inl (cL, 1, .inr (.inl fo)))] H1 := hP.kept (fun k x hx => hk x.1 (hP k x hx).lt)
  have hS : va_S A s.heap H1 [] := ⟨hz, fun q h1 _ => hk q h1, fun _ h => nomatch h⟩
  generalize H1 = H at hP hS hce ⊢
  have htab : c.exceptionTable.toList = [⟨0, 8, 11, 13⟩] := vx_table (x := yL_mark) B (hts _ List.mem_cons_self)
  refine jc_first (name := "") hown ⟨0, 8, 11, 13⟩ [] htab (by decide) (by decide) (hts (.classLink RL 13 "java/lang/IllegalStateException") (by decide +kernel)) hce hcv hcl ?_
  refine W.eq (g2 := F0 m 11 ls [.ref q9]) rfl ?_
  refine W.widen (k := 1) (n := 6) (by omega) (by omega) ?_
  refine lv_astore_n (lv' := [(2, .ref q9), (0, .ref h0), (1, .ref ou)]) hx hb dL_mark_11 rfl hl (by decide) rfl (fun ls hl => ?_)
  refine lv_iconst (v := 1) hx hb dL_mark_12 (by decide) ?_
  refine W.widen (k := 1) (n := 6) (by omega) (by omega) ?_
  exact W.iret (v := 1) hx hb hr (fun t ht hW => ⟨⟨1, [(h0, .inr (5, [.ref tl, .ref tr, .ref cu, .ref bk, .int 0])), (ou, .inl (cL, 1, .inr (.inl fo)))], rfl, (by exact ⟨rfl, rfl⟩), by rw [ht]; exact hP, hD⟩, hS.F ht⟩) hS.2.2 dL_mark_13
set_option maxHeartbeats 1000000 in
set_option maxRecDepth 100000 in
theorem kL_back (l : Launch) (hnt : l.stackTraces = false) (D : va_G) (cI cL cQ : ClassId) (h0 : Nat) (tl : Nat) (tr : Nat) (cu : Nat) (bk : Nat) (he : Nat) (ma : Nat) (kd : Int32) (cc0 : Int64) (p0 : Int32) (p1 : Int32) (p2 : Int32) (p3 : Int32) (p4 : Int32) (p5 : Int32) (p6 : Int32) (q0 : Int32) (q1 : Int32) (q2 : Int32) (q3 : Int32) (q4 : Int32) (q5 : Int32) (q6 : Int32) (ou : Nat) (fo : Nat → Int64) (sz : Nat) : Met l yL_back wsL_back ({ frames := 3, cells := 0, slots := 0, locals := 61 }) (jh_P D vwCl (jT cI cL cQ) cL cQ [.ref h0, .ref ou] [(h0, .inr (5, [.ref tl, .ref tr, .ref cu, .ref bk, .int 1])), (cu, .inr (0, [.ref tl, .ref tr, .ref he, .ref ma, .int 1, .int kd, .long cc0])), (he, .inr (2, [.int p0, .int p1, .int p2, .int p3, .int p4, .int p5, .int p6])), (ma, .inr (2, [.int q0, .int q1, .int q2, .int q3, .int q4, .int q5, .int q6])), (ou, .inl (cL, 1, .inr (.inl fo)))] sz) (va_Qi (fun (r : Int32) (u : va_W) => ∃ (fo9 : Nat → Int64), r = 0 ∧ u = [(h0, .inr (5, [.ref tl, .ref tr, .ref cu, .ref bk, .int 1])), (cu, .inr (0, [.ref tl, .ref tr, .ref he, .ref ma, .int 1, .int kd, .long cc0])), (he, .inr (2, [.int q0, .int q1, .int q2, .int q3, .int q4, .int q5, .int q6])), (ma, .inr (2, [.int q0, .int q1, .int q2, .int q3, .int q4, .int q5, .int q6])), (ou, .inl (cL, 1, .inr (.inl fo9)))]) (jw_B D vwCl (va_A [(h0, .inr (5, [.ref tl, .ref tr, .ref cu, .ref bk, .int 1])), (cu, .inr (0, [.ref tl, .ref tr, .ref he, .ref ma, .int 1, .int kd, .long cc0])), (he, .inr (2, [.int p0, .int p1, .int p2, .int p3, .int p4, .int p5, .int p6])), (ma, .inr (2, [.int q0, .int q1, .int q2, .int q3, .int q4, .int q5, .int q6])), (ou, .inl (cL, 1, .inr (.inl fo)))] sz) (fun u : va_W => u)) (va_A [(h0, .inr (5, [.ref tl, .ref tr, .ref cu, .ref bk, .int 1])), (cu, .inr (0, [.ref tl, .ref tr, .ref he, .ref ma, .int 1, .int kd, .long cc0])), (he, .inr (2, [.int p0, .int p1, .int p2, .int p3, .int p4, .int p5, .int p6])), (ma, .inr (2, [.int q0, .int q1, .int q2, .int q3, .int q4, .int q5, .int q6])), (ou, .inl (cL, 1, .inr (.inl fo)))] sz)) 0 0 (va_A [(h0, .inr (5, [.ref tl, .ref tr, .ref cu, .ref bk, .int 1])), (cu, .inr (0, [.ref tl, .ref tr, .ref he, .ref ma, .int 1, .int kd, .long cc0])), (he, .inr (2, [.int p0, .int p1, .int p2, .int p3, .int p4, .int p5, .int p6])), (ma, .inr (2, [.int q0, .int q1, .int q2, .int q3, .int q4, .int q5, .int q6])), (ou, .inl (cL, 1, .inr (.inl fo)))] sz) := by
  refine va_MetW (hh := [(0, 8, 11, 13)]) (cc := cL_back) (maxL := 3) (ret := (some .int)) (by decide) rfl ?_
  intro p e s m args below meth c s₁ B hml hv
  obtain ⟨rfl, hsz, hP, hK, hN, hD0, hZ⟩ := hv
  have hx := B.exec
  have hb := B.bytes
  have hr := B.returns
  have hts := atoms_spec (ws := wsL_back) B.pre
  have hown : s.vm.findClass RL = some m.cls := findClass_of_methodNamed B.named
  have hlocks := B.notSynchronized
  subst hsz
  have hD := hD0.self (sz := s.heap.size)
  generalize hAe : va_A [(h0, .inr (5, [.ref tl, .ref tr, .ref cu, .ref bk, .int 1])), (cu, .inr (0, [.ref tl, .ref tr, .ref he, .ref ma, .int 1, .int kd, .long cc0])), (he, .inr (2, [.int p0, .int p1, .int p2, .int p3, .int p4, .int p5, .int p6])), (ma, .inr (2, [.int q0, .int q1, .int q2, .int q3, .int q4, .int q5, .int q6])), (ou, .inl (cL, 1, .inr (.inl fo)))] s.heap.size = A at hD ⊢
  have hA : ∀ q : Nat, s.heap.size ≤ q → A q := fun q h => by rw [← hAe]; exact Or.inr h
  have hS : va_S A s.heap s.heap [] := va_S.rf
  have hl := lv_entry ([.ref h0, .ref ou]) (n := 3) (Nat.le_of_ble_eq_true rfl)
  rw [lg_entry_eq]
  generalize (lg_sl ([.ref h0, .ref ou]) ++ List.replicate (3 - (lg_sl ([.ref h0, .ref ou])).length) Slot.unset).toArray = ls at hl ⊢
  have hl : lv_has ls 3 [(0, .ref h0), (1, .ref ou)] := hl
  refine lv_aload_n hx hb dL_back_0 rfl (lv_at hl 1 rfl) ?_
  refine lv_iconst (v := 0) hx hb dL_back_1 (by decide) ?_
  refine lv_aload_n hx hb dL_back_2 rfl (lv_at hl 0 rfl) ?_
  refine jw_i (wr := [(ou, .inl (cL, 1, .inr (.inl fo)))]) (va_runV (As := []) (rest := [.int 0, .ref ou]) ⟨hx, hb, hml, hown, hts⟩ (gJ_back l D cI cL cQ h0 tl tr cu bk he ma kd cc0 p0 p1 p2 p3 p4 p5 p6 q0 q1 q2 q3 q4 q5 q6 _) (cwV 0 hts gL_back_X5_back rfl rfl rfl (by decide +kernel) ⟨Nat.le_of_ble_eq_true rfl, Nat.le_of_ble_eq_true rfl⟩) (jw_V hK hN hP hD [0, 1, 2, 3] (by decide) rfl 5 0 rfl rfl rfl) rfl rfl hl.1 rfl (lv_room (Nat.le_of_ble_eq_true rfl)) dL_back_3 ⟨Nat.le_of_ble_eq_true rfl, Nat.le_of_ble_eq_true rfl⟩) hP hD hS hA [0, 1, 2, 3] [4] rfl rfl (by decide) (by decide) (fun r u H locs f_1 hP hD hS => ?_)
  obtain ⟨er_2, rfl⟩ := f_1
  subst r
  have hP : va_P D vwCl [(ou, .inl (cL, 1, .inr (.inl fo))), (h0, .inr (5, [.ref tl, .ref tr, .ref cu, .ref bk, .int 1])), (cu, .inr (0, [.ref tl, .ref tr, .ref he, .ref ma, .int 1, .int kd, .long cc0])), (he, .inr (2, [.int q0, .int q1, .int q2, .int q3, .int q4, .int q5, .int q6])), (ma, .inr (2, [.int q0, .int q1, .int q2, .int q3, .int q4, .int q5, .int q6]))] H := hP
  have hD : va_D A [(ou, .inl (cL, 1, .inr (.inl fo))), (h0, .inr (5, [.ref tl, .ref tr, .ref cu, .ref bk, .int 1])), (cu, .inr (0, [.ref tl, .ref tr, .ref he, .ref ma, .int 1, .int kd, .long cc0])), (he, .inr (2, [.int q0, .int q1, .int q2, .int q3, .int q4, .int q5, .int q6])), (ma, .inr (2, [.int q0, .int q1, .int q2, .int q3, .int q4, .int q5, .int q6]))] := hD
  refine lv_i2l (v := q6.toInt64) hx hb dL_back_6 (by first | rfl | decide) ?_
  refine va_last hx hb hK hP hD hS 0 1 rfl rfl (by unfold vp_in; decide) dL_back_7 (fun H locs hP hD hS => ?_)
  have hP : va_P D vwCl [(ou, .inl (cL, 1, .inr (.inl (vp_updL fo (0 : Int32).toNatClampNeg q6.toInt64)))), (h0, .inr (5, [.ref tl, .ref tr, .ref cu, .ref bk, .int 1])), (cu, .inr (0, [.ref tl, .ref tr, .ref he, .ref ma, .int 1, .int kd, .long cc0])), (he, .inr (2, [.int q0, .int q1, .int q2, .int q3, .int q4, .int q5, .int q6])), (ma, .inr (2, [.int q0, .int q1, .int q2, .int q3, .int q4, .int q5, .int q6]))] H := hP
  have hD : va_D A [(ou, .inl (cL, 1, .inr (.inl (vp_updL fo (0 : Int32).toNatClampNeg q6.toInt64)))), (h0, .inr (5, [.ref tl, .ref tr, .ref cu, .ref bk, .int 1])), (cu, .inr (0, [.ref tl, .ref tr, .ref he, .ref ma, .int 1, .int kd, .long cc0])), (he, .inr (2, [.int q0, .int q1, .int q2, .int q3, .int q4, .int q5, .int q6])), (ma, .inr (2, [.int q0, .int q1, .int q2, .int q3, .int q4, .int q5, .int q6]))] := hD
  refine lv_goto (tgt := 14) hx hb dL_back_8 (by decide) ?_
  refine lv_iconst (v := 0) hx hb dL_back_14 (by decide) ?_
  have hP := hP.sub (ws' := [(h0, .inr (5, [.ref tl, .ref tr, .ref cu, .ref bk, .int 1])), (cu, .inr (0, [.ref tl, .ref tr, .ref he, .ref ma, .int 1, .int kd, .long cc0])), (he, .inr (2, [.int q0, .int q1, .int q2, .int q3, .int q4, .int q5, .int q6])), (ma, .inr (2, [.int q0, .int q1, .int q2, .int q3, .int q4, .int q5, .int q6])), (ou, .inl (cL, 1, .inr (.inl (vp_updL fo (0 : Int32).toNatClampNeg q6.toInt64))))]) [1, 2, 3, 4, 0] rfl
  have hD := hD.sub (ws' := [(h0, .inr (5, [.ref tl, .ref tr, .ref cu, .ref bk, .int 1])), (cu, .inr (0, [.ref tl, .ref tr, .ref he, .ref ma, .int 1, .int kd, .long cc0])), (he, .inr (2, [.int q0, .int q1, .int q2, .int q3, .int q4, .int q5, .int q6])), (ma, .inr (2, [.int q0, .int q1, .int q2, .int q3, .int q4, .int q5, .int q6])), (ou, .inl (cL, 1, .inr (.inl (vp_updL fo (0 : Int32).toNatClampNeg q6.toInt64))))]) [1, 2, 3, 4, 0] (by decide) rfl
  refine W.widen (k := 0) (n := 0) (by omega) (by omega) ?_
  exact W.iret (v := 0) hx hb hr (fun t ht hW => ⟨⟨0, [(h0, .inr (5, [.ref tl, .ref tr, .ref cu, .ref bk, .int 1])), (cu, .inr (0, [.ref tl, .ref tr, .ref he, .ref ma, .int 1, .int kd, .long cc0])), (he, .inr (2, [.int q0, .int q1, .int q2, .int q3, .int q4, .int q5, .int q6])), (ma, .inr (2, [.int q0, .int q1, .int q2, .int q3, .int q4, .int q5, .int q6])), (ou, .inl (cL, 1, .inr (.inl (vp_updL fo (0 : Int32).toNatClampNeg q6.toInt64))))], rfl, (⟨_, rfl, rfl⟩), by rw [ht]; exact hP, hD⟩, hS.F ht⟩) hS.2.2 dL_back_15
set_option maxHeartbeats 1000000 in
set_option maxRecDepth 100000 in
theorem kL_back_t (l : Launch) (hnt : l.stackTraces = false) (D : va_G) (cI cL cQ : ClassId) (h0 : Nat) (tl : Nat) (tr : Nat) (cu : Nat) (bk : Nat) (ou : Nat) (fo : Nat → Int64) (sz : Nat) : Met l yL_back wsL_back ({ frames := 8, cells := 1, slots := 6, locals := 122 }) (jh_P D vwCl (jT cI cL cQ) cL cQ [.ref h0, .ref ou] [(h0, .inr (5, [.ref tl, .ref tr, .ref cu, .ref bk, .int 0])), (ou, .inl (cL, 1, .inr (.inl fo)))] sz) (va_Qi (fun (r : Int32) (u : va_W) => r = 1 ∧ u = [(h0, .inr (5, [.ref tl, .ref tr, .ref cu, .ref bk, .int 0])), (ou, .inl (cL, 1, .inr (.inl fo)))]) (jw_B D vwCl (va_A [(h0, .inr (5, [.ref tl, .ref tr, .ref cu, .ref bk, .int 0])), (ou, .inl (cL, 1, .inr (.inl fo)))] sz) (fun u : va_W => u)) (va_A [(h0, .inr (5, [.ref tl, .ref tr, .ref cu, .ref bk, .int 0])), (ou, .inl (cL, 1, .inr (.inl fo)))] sz)) 1 6 (va_A [(h0, .inr (5, [.ref tl, .ref tr, .ref cu, .ref bk, .int 0])), (ou, .inl (cL, 1, .inr (.inl fo)))] sz) := by
  refine va_MetW (hh := [(0, 8, 11, 13)]) (cc := cL_back) (maxL := 3) (ret := (some .int)) (by decide) rfl ?_
  intro p e s m args below meth c s₁ B hml hv
  obtain ⟨rfl, hsz, hP, hK, hN, hD0, hZ⟩ := hv
  have hx := B.exec
  have hb := B.bytes
  have hr := B.returns
  have hts := atoms_spec (ws := wsL_back) B.pre
  have hown : s.vm.findClass RL = some m.cls := findClass_of_methodNamed B.named
  have hlocks := B.notSynchronized
  subst hsz
  have hD := hD0.self (sz := s.heap.size)
  generalize hAe : va_A [(h0, .inr (5, [.ref tl, .ref tr, .ref cu, .ref bk, .int 0])), (ou, .inl (cL, 1, .inr (.inl fo)))] s.heap.size = A at hD ⊢
  have hA : ∀ q : Nat, s.heap.size ≤ q → A q := fun q h => by rw [← hAe]; exact Or.inr h
  have hS : va_S A s.heap s.heap [] := va_S.rf
  have hl := lv_entry ([.ref h0, .ref ou]) (n := 3) (Nat.le_of_ble_eq_true rfl)
  rw [lg_entry_eq]
  generalize (lg_sl ([.ref h0, .ref ou]) ++ List.replicate (3 - (lg_sl ([.ref h0, .ref ou])).length) Slot.unset).toArray = ls at hl ⊢
  have hl : lv_has ls 3 [(0, .ref h0), (1, .ref ou)] := hl
  refine lv_aload_n hx hb dL_back_0 rfl (lv_at hl 1 rfl) ?_
  refine lv_iconst (v := 0) hx hb dL_back_1 (by decide) ?_
  refine lv_aload_n hx hb dL_back_2 rfl (lv_at hl 0 rfl) ?_
  refine jx_thr (vx_runV (As := []) (rest := [.int 0, .ref ou]) ⟨hx, hb, hml, hown, hts⟩ (gJ_back_t l hnt D cI cL cQ h0 tl tr cu bk) (cwV 0 hts gL_back_X5_back rfl rfl rfl (by decide +kernel) ⟨Nat.le_of_ble_eq_true rfl, Nat.le_of_ble_eq_true rfl⟩) (jt_V hK hN hZ hP [0] rfl 5 0 rfl rfl rfl) rfl rfl hl.1 rfl (lv_room (Nat.le_of_ble_eq_true rfl)) dL_back_3 ⟨Nat.le_of_ble_eq_true rfl, Nat.le_of_ble_eq_true rfl⟩) (fun ce q9 H1 hz hk hce hcv hcl => ?_)
  have hP : va_P D vwCl [(h0, .inr (5, [.ref tl, .ref tr, .ref cu, .ref bk, .int 0])), (ou, .inl (cL, 1, .inr (.inl fo)))] H1 := hP.kept (fun k x hx => hk x.1 (hP k x hx).lt)
  have hS : va_S A s.heap H1 [] := ⟨hz, fun q h1 _ => hk q h1, fun _ h => nomatch h⟩
  generalize H1 = H at hP hS hce ⊢
  have htab : c.exceptionTable.toList = [⟨0, 8, 11, 13⟩] := vx_table (x := yL_back) B (hts _ List.mem_cons_self)
  refine jc_first (name := "") hown ⟨0, 8, 11, 13⟩ [] htab (by decide) (by decide) (hts (.classLink RL 13 "java/lang/IllegalStateException") (by decide +kernel)) hce hcv hcl ?_
  refine W.eq (g2 := F0 m 11 ls [.ref q9]) rfl ?_
  refine W.widen (k := 1) (n := 6) (by omega) (by omega) ?_
  refine lv_astore_n (lv' := [(2, .ref q9), (0, .ref h0), (1, .ref ou)]) hx hb dL_back_11 rfl hl (by decide) rfl (fun ls hl => ?_)
  refine lv_iconst (v := 1) hx hb dL_back_12 (by decide) ?_
  refine W.widen (k := 1) (n := 6) (by omega) (by omega) ?_
  exact W.iret (v := 1) hx hb hr (fun t ht hW => ⟨⟨1, [(h0, .inr (5, [.ref tl, .ref tr, .ref cu, .ref bk, .int 0])), (ou, .inl (cL, 1, .inr (.inl fo)))], rfl, (by exact ⟨rfl, rfl⟩), by rw [ht]; exact hP, hD⟩, hS.F ht⟩) hS.2.2 dL_back_13
set_option maxHeartbeats 1000000 in
set_option maxRecDepth 100000 in
theorem kL_seek (l : Launch) (hnt : l.stackTraces = false) (D : va_G) (cI cL cQ : ClassId) (h0 : Nat) (tl : Nat) (tr : Nat) (cu : Nat) (bk : Nat) (he : Nat) (ma : Nat) (hm : Int32) (kd : Int32) (cc0 : Int64) (p0 : Int32) (p1 : Int32) (p2 : Int32) (p3 : Int32) (p4 : Int32) (p5 : Int32) (p6 : Int32) (a : Nat) (n : Nat) (pl : Nat) (a2 : Nat) (n2 : Nat) (pl2 : Nat) (lk : Nat) (lv : Nat) (lo : Nat) (lp : Nat) (ll : Nat) (lf : Nat) (rk : Nat) (rv : Nat) (ro : Nat) (rp : Nat) (rl : Nat) (rf : Nat) (gk : Nat → Int32) (go : Nat → Int32) (gp : Nat → Int32) (gl : Nat → Int32) (hk : Nat → Int32) (ho_ : Nat → Int32) (hl_ : Nat → Int32) (x : Int32) (ou : Nat) (fo : Nat → Int64) (sz : Nat) (ha : a ≤ 400) (hn : n ≤ a) (hol : jord a go) (ha2 : a2 ≤ 400) (hn2 : n2 ≤ a2) (hor : jord a2 ho_) : Met l yL_seek wsL_seek ({ frames := 6, cells := 0, slots := 0, locals := 135 }) (jh_P D vwCl (jT cI cL cQ) cL cQ [.ref h0, .int x, .ref ou] [(h0, .inr (5, [.ref tl, .ref tr, .ref cu, .ref bk, .int 1])), (cu, .inr (0, [.ref tl, .ref tr, .ref he, .ref ma, .int hm, .int kd, .long cc0])), (he, .inr (2, [.int p0, .int p1, .int p2, .int p3, .int p4, .int p5, .int p6])), (tl, .inr (4, [.int (nI a), .ref lk, .ref lv, .ref lo, .ref lp, .ref ll, .ref lf, .int (nI n), .int (nI pl)])), (lk, .inl (cI, a, .inl gk)), (lo, .inl (cI, a, .inl go)), (lp, .inl (cI, a + 1, .inl gp)), (ll, .inl (cI, a + 1, .inl gl)), (tr, .inr (4, [.int (nI a2), .ref rk, .ref rv, .ref ro, .ref rp, .ref rl, .ref rf, .int (nI n2), .int (nI pl2)])), (rk, .inl (cI, a2, .inl hk)), (ro, .inl (cI, a2, .inl ho_)), (rl, .inl (cI, a2 + 1, .inl hl_)), (ou, .inl (cL, 1, .inr (.inl fo)))] sz) (va_Qi (fun (r : Int32) (u : va_W) => ∃ (y0 : Int32) (y1 : Int32) (y2 : Int32) (y3 : Int32) (y4 : Int32) (y5 : Int32) (y6 : Int32) (cc9 : Int64) (fo9 : Nat → Int64), r = 0 ∧ u = [(h0, .inr (5, [.ref tl, .ref tr, .ref cu, .ref bk, .int 1])), (cu, .inr (0, [.ref tl, .ref tr, .ref he, .ref ma, .int hm, .int kd, .long cc9])), (he, .inr (2, [.int y0, .int y1, .int y2, .int y3, .int y4, .int y5, .int y6])), (tl, .inr (4, [.int (nI a), .ref lk, .ref lv, .ref lo, .ref lp, .ref ll, .ref lf, .int (nI n), .int (nI pl)])), (lk, .inl (cI, a, .inl gk)), (lo, .inl (cI, a, .inl go)), (lp, .inl (cI, a + 1, .inl gp)), (ll, .inl (cI, a + 1, .inl gl)), (tr, .inr (4, [.int (nI a2), .ref rk, .ref rv, .ref ro, .ref rp, .ref rl, .ref rf, .int (nI n2), .int (nI pl2)])), (rk, .inl (cI, a2, .inl hk)), (ro, .inl (cI, a2, .inl ho_)), (rl, .inl (cI, a2 + 1, .inl hl_)), (ou, .inl (cL, 1, .inr (.inl fo9)))]) (jw_B D vwCl (va_A [(h0, .inr (5, [.ref tl, .ref tr, .ref cu, .ref bk, .int 1])), (cu, .inr (0, [.ref tl, .ref tr, .ref he, .ref ma, .int hm, .int kd, .long cc0])), (he, .inr (2, [.int p0, .int p1, .int p2, .int p3, .int p4, .int p5, .int p6])), (tl, .inr (4, [.int (nI a), .ref lk, .ref lv, .ref lo, .ref lp, .ref ll, .ref lf, .int (nI n), .int (nI pl)])), (lk, .inl (cI, a, .inl gk)), (lo, .inl (cI, a, .inl go)), (lp, .inl (cI, a + 1, .inl gp)), (ll, .inl (cI, a + 1, .inl gl)), (tr, .inr (4, [.int (nI a2), .ref rk, .ref rv, .ref ro, .ref rp, .ref rl, .ref rf, .int (nI n2), .int (nI pl2)])), (rk, .inl (cI, a2, .inl hk)), (ro, .inl (cI, a2, .inl ho_)), (rl, .inl (cI, a2 + 1, .inl hl_)), (ou, .inl (cL, 1, .inr (.inl fo)))] sz) (fun u : va_W => u)) (va_A [(h0, .inr (5, [.ref tl, .ref tr, .ref cu, .ref bk, .int 1])), (cu, .inr (0, [.ref tl, .ref tr, .ref he, .ref ma, .int hm, .int kd, .long cc0])), (he, .inr (2, [.int p0, .int p1, .int p2, .int p3, .int p4, .int p5, .int p6])), (tl, .inr (4, [.int (nI a), .ref lk, .ref lv, .ref lo, .ref lp, .ref ll, .ref lf, .int (nI n), .int (nI pl)])), (lk, .inl (cI, a, .inl gk)), (lo, .inl (cI, a, .inl go)), (lp, .inl (cI, a + 1, .inl gp)), (ll, .inl (cI, a + 1, .inl gl)), (tr, .inr (4, [.int (nI a2), .ref rk, .ref rv, .ref ro, .ref rp, .ref rl, .ref rf, .int (nI n2), .int (nI pl2)])), (rk, .inl (cI, a2, .inl hk)), (ro, .inl (cI, a2, .inl ho_)), (rl, .inl (cI, a2 + 1, .inl hl_)), (ou, .inl (cL, 1, .inr (.inl fo)))] sz)) 0 0 (va_A [(h0, .inr (5, [.ref tl, .ref tr, .ref cu, .ref bk, .int 1])), (cu, .inr (0, [.ref tl, .ref tr, .ref he, .ref ma, .int hm, .int kd, .long cc0])), (he, .inr (2, [.int p0, .int p1, .int p2, .int p3, .int p4, .int p5, .int p6])), (tl, .inr (4, [.int (nI a), .ref lk, .ref lv, .ref lo, .ref lp, .ref ll, .ref lf, .int (nI n), .int (nI pl)])), (lk, .inl (cI, a, .inl gk)), (lo, .inl (cI, a, .inl go)), (lp, .inl (cI, a + 1, .inl gp)), (ll, .inl (cI, a + 1, .inl gl)), (tr, .inr (4, [.int (nI a2), .ref rk, .ref rv, .ref ro, .ref rp, .ref rl, .ref rf, .int (nI n2), .int (nI pl2)])), (rk, .inl (cI, a2, .inl hk)), (ro, .inl (cI, a2, .inl ho_)), (rl, .inl (cI, a2 + 1, .inl hl_)), (ou, .inl (cL, 1, .inr (.inl fo)))] sz) := by
  refine va_MetW (hh := [(0, 16, 19, 13)]) (cc := cL_seek) (maxL := 4) (ret := (some .int)) (by decide) rfl ?_
  intro p e s m args below meth c s₁ B hml hv
  obtain ⟨rfl, hsz, hP, hK, hN, hD0, hZ⟩ := hv
  have hx := B.exec
  have hb := B.bytes
  have hr := B.returns
  have hts := atoms_spec (ws := wsL_seek) B.pre
  have hown : s.vm.findClass RL = some m.cls := findClass_of_methodNamed B.named
  have hlocks := B.notSynchronized
  subst hsz
  have hD := hD0.self (sz := s.heap.size)
  generalize hAe : va_A [(h0, .inr (5, [.ref tl, .ref tr, .ref cu, .ref bk, .int 1])), (cu, .inr (0, [.ref tl, .ref tr, .ref he, .ref ma, .int hm, .int kd, .long cc0])), (he, .inr (2, [.int p0, .int p1, .int p2, .int p3, .int p4, .int p5, .int p6])), (tl, .inr (4, [.int (nI a), .ref lk, .ref lv, .ref lo, .ref lp, .ref ll, .ref lf, .int (nI n), .int (nI pl)])), (lk, .inl (cI, a, .inl gk)), (lo, .inl (cI, a, .inl go)), (lp, .inl (cI, a + 1, .inl gp)), (ll, .inl (cI, a + 1, .inl gl)), (tr, .inr (4, [.int (nI a2), .ref rk, .ref rv, .ref ro, .ref rp, .ref rl, .ref rf, .int (nI n2), .int (nI pl2)])), (rk, .inl (cI, a2, .inl hk)), (ro, .inl (cI, a2, .inl ho_)), (rl, .inl (cI, a2 + 1, .inl hl_)), (ou, .inl (cL, 1, .inr (.inl fo)))] s.heap.size = A at hD ⊢
  have hA : ∀ q : Nat, s.heap.size ≤ q → A q := fun q h => by rw [← hAe]; exact Or.inr h
  have hS : va_S A s.heap s.heap [] := va_S.rf
  have hl := lv_entry ([.ref h0, .int x, .ref ou]) (n := 4) (Nat.le_of_ble_eq_true rfl)
  rw [lg_entry_eq]
  generalize (lg_sl ([.ref h0, .int x, .ref ou]) ++ List.replicate (4 - (lg_sl ([.ref h0, .int x, .ref ou])).length) Slot.unset).toArray = ls at hl ⊢
  have hl : lv_has ls 4 [(0, .ref h0), (1, .int x), (2, .ref ou)] := hl
  refine lv_aload_n hx hb dL_seek_0 rfl (lv_at hl 2 rfl) ?_
  refine lv_iconst (v := 0) hx hb dL_seek_1 (by decide) ?_
  refine lv_aload_n hx hb dL_seek_2 rfl (lv_at hl 0 rfl) ?_
  refine lv_iload_n hx hb dL_seek_3 rfl (lv_at hl 1 rfl) ?_
  refine jw_i (wr := [(ou, .inl (cL, 1, .inr (.inl fo)))]) (va_runV (As := [.int x]) (rest := [.int 0, .ref ou]) ⟨hx, hb, hml, hown, hts⟩ (gJ_seek l D cI cL cQ h0 tl tr cu bk he ma hm kd cc0 p0 p1 p2 p3 p4 p5 p6 a n pl a2 n2 pl2 lk lv lo lp ll lf rk rv ro rp rl rf gk go gp gl hk ho_ hl_ x _ (by first | assumption | decide | omega) (by first | assumption | decide | omega) (by first | assumption | decide | omega) (by first | assumption | decide | omega) (by first | assumption | decide | omega) (by first | assumption | decide | omega)) (cwV 1 hts gL_seek_X5_seek rfl rfl rfl (by decide +kernel) ⟨Nat.le_of_ble_eq_true rfl, Nat.le_of_ble_eq_true rfl⟩) (jw_V hK hN hP hD [0, 1, 2, 3, 4, 5, 6, 7, 8, 9, 10, 11] (by decide) rfl 5 0 rfl rfl rfl) rfl rfl hl.1 rfl (lv_room (Nat.le_of_ble_eq_true rfl)) dL_seek_4 ⟨Nat.le_of_ble_eq_true rfl, Nat.le_of_ble_eq_true rfl⟩) hP hD hS hA [0, 1, 2, 3, 4, 5, 6, 7, 8, 9, 10, 11] [12] rfl rfl (by decide) (by decide) (fun r u H locs f_1 hP hD hS => ?_)
  rcases f_1 with ⟨y0, y1, y2, y3, y4, y5, y6, cc9, rfl, rfl⟩ | ⟨y0, y1, y2, y3, y4, y5, y6, cc9, rfl, rfl⟩
  · have hP : va_P D vwCl [(ou, .inl (cL, 1, .inr (.inl fo))), (h0, .inr (5, [.ref tl, .ref tr, .ref cu, .ref bk, .int 1])), (cu, .inr (0, [.ref tl, .ref tr, .ref he, .ref ma, .int hm, .int kd, .long cc9])), (he, .inr (2, [.int y0, .int y1, .int y2, .int y3, .int y4, .int y5, .int y6])), (tl, .inr (4, [.int (nI a), .ref lk, .ref lv, .ref lo, .ref lp, .ref ll, .ref lf, .int (nI n), .int (nI pl)])), (lk, .inl (cI, a, .inl gk)), (lo, .inl (cI, a, .inl go)), (lp, .inl (cI, a + 1, .inl gp)), (ll, .inl (cI, a + 1, .inl gl)), (tr, .inr (4, [.int (nI a2), .ref rk, .ref rv, .ref ro, .ref rp, .ref rl, .ref rf, .int (nI n2), .int (nI pl2)])), (rk, .inl (cI, a2, .inl hk)), (ro, .inl (cI, a2, .inl ho_)), (rl, .inl (cI, a2 + 1, .inl hl_))] H := hP
    have hD : va_D A [(ou, .inl (cL, 1, .inr (.inl fo))), (h0, .inr (5, [.ref tl, .ref tr, .ref cu, .ref bk, .int 1])), (cu, .inr (0, [.ref tl, .ref tr, .ref he, .ref ma, .int hm, .int kd, .long cc9])), (he, .inr (2, [.int y0, .int y1, .int y2, .int y3, .int y4, .int y5, .int y6])), (tl, .inr (4, [.int (nI a), .ref lk, .ref lv, .ref lo, .ref lp, .ref ll, .ref lf, .int (nI n), .int (nI pl)])), (lk, .inl (cI, a, .inl gk)), (lo, .inl (cI, a, .inl go)), (lp, .inl (cI, a + 1, .inl gp)), (ll, .inl (cI, a + 1, .inl gl)), (tr, .inr (4, [.int (nI a2), .ref rk, .ref rv, .ref ro, .ref rp, .ref rl, .ref rf, .int (nI n2), .int (nI pl2)])), (rk, .inl (cI, a2, .inl hk)), (ro, .inl (cI, a2, .inl ho_)), (rl, .inl (cI, a2 + 1, .inl hl_))] := hD
    refine lv_if_eq (tgt := 14) hx hb dL_seek_7 (by decide) (fun c_2 => absurd c_2 (by decide)) (fun c_2 => ?_)
    refine lv_lconst (v := 1) hx hb dL_seek_10 (by decide) ?_
    refine lv_goto (tgt := 15) hx hb dL_seek_11 (by decide) ?_
    refine va_last hx hb hK hP hD hS 0 1 rfl rfl (by unfold vp_in; decide) dL_seek_15 (fun H locs hP hD hS => ?_)
    have hP : va_P D vwCl [(ou, .inl (cL, 1, .inr (.inl (vp_updL fo (0 : Int32).toNatClampNeg 1)))), (h0, .inr (5, [.ref tl, .ref tr, .ref cu, .ref bk, .int 1])), (cu, .inr (0, [.ref tl, .ref tr, .ref he, .ref ma, .int hm, .int kd, .long cc9])), (he, .inr (2, [.int y0, .int y1, .int y2, .int y3, .int y4, .int y5, .int y6])), (tl, .inr (4, [.int (nI a), .ref lk, .ref lv, .ref lo, .ref lp, .ref ll, .ref lf, .int (nI n), .int (nI pl)])), (lk, .inl (cI, a, .inl gk)), (lo, .inl (cI, a, .inl go)), (lp, .inl (cI, a + 1, .inl gp)), (ll, .inl (cI, a + 1, .inl gl)), (tr, .inr (4, [.int (nI a2), .ref rk, .ref rv, .ref ro, .ref rp, .ref rl, .ref rf, .int (nI n2), .int (nI pl2)])), (rk, .inl (cI, a2, .inl hk)), (ro, .inl (cI, a2, .inl ho_)), (rl, .inl (cI, a2 + 1, .inl hl_))] H := hP
    have hD : va_D A [(ou, .inl (cL, 1, .inr (.inl (vp_updL fo (0 : Int32).toNatClampNeg 1)))), (h0, .inr (5, [.ref tl, .ref tr, .ref cu, .ref bk, .int 1])), (cu, .inr (0, [.ref tl, .ref tr, .ref he, .ref ma, .int hm, .int kd, .long cc9])), (he, .inr (2, [.int y0, .int y1, .int y2, .int y3, .int y4, .int y5, .int y6])), (tl, .inr (4, [.int (nI a), .ref lk, .ref lv, .ref lo, .ref lp, .ref ll, .ref lf, .int (nI n), .int (nI pl)])), (lk, .inl (cI, a, .inl gk)), (lo, .inl (cI, a, .inl go)), (lp, .inl (cI, a + 1, .inl gp)), (ll, .inl (cI, a + 1, .inl gl)), (tr, .inr (4, [.int (nI a2), .ref rk, .ref rv, .ref ro, .ref rp, .ref rl, .ref rf, .int (nI n2), .int (nI pl2)])), (rk, .inl (cI, a2, .inl hk)), (ro, .inl (cI, a2, .inl ho_)), (rl, .inl (cI, a2 + 1, .inl hl_))] := hD
    refine lv_goto (tgt := 22) hx hb dL_seek_16 (by decide) ?_
    refine lv_iconst (v := 0) hx hb dL_seek_22 (by decide) ?_
    have hP := hP.sub (ws' := [(h0, .inr (5, [.ref tl, .ref tr, .ref cu, .ref bk, .int 1])), (cu, .inr (0, [.ref tl, .ref tr, .ref he, .ref ma, .int hm, .int kd, .long cc9])), (he, .inr (2, [.int y0, .int y1, .int y2, .int y3, .int y4, .int y5, .int y6])), (tl, .inr (4, [.int (nI a), .ref lk, .ref lv, .ref lo, .ref lp, .ref ll, .ref lf, .int (nI n), .int (nI pl)])), (lk, .inl (cI, a, .inl gk)), (lo, .inl (cI, a, .inl go)), (lp, .inl (cI, a + 1, .inl gp)), (ll, .inl (cI, a + 1, .inl gl)), (tr, .inr (4, [.int (nI a2), .ref rk, .ref rv, .ref ro, .ref rp, .ref rl, .ref rf, .int (nI n2), .int (nI pl2)])), (rk, .inl (cI, a2, .inl hk)), (ro, .inl (cI, a2, .inl ho_)), (rl, .inl (cI, a2 + 1, .inl hl_)), (ou, .inl (cL, 1, .inr (.inl (vp_updL fo (0 : Int32).toNatClampNeg 1))))]) [1, 2, 3, 4, 5, 6, 7, 8, 9, 10, 11, 12, 0] rfl
    have hD := hD.sub (ws' := [(h0, .inr (5, [.ref tl, .ref tr, .ref cu, .ref bk, .int 1])), (cu, .inr (0, [.ref tl, .ref tr, .ref he, .ref ma, .int hm, .int kd, .long cc9])), (he, .inr (2, [.int y0, .int y1, .int y2, .int y3, .int y4, .int y5, .int y6])), (tl, .inr (4, [.int (nI a), .ref lk, .ref lv, .ref lo, .ref lp, .ref ll, .ref lf, .int (nI n), .int (nI pl)])), (lk, .inl (cI, a, .inl gk)), (lo, .inl (cI, a, .inl go)), (lp, .inl (cI, a + 1, .inl gp)), (ll, .inl (cI, a + 1, .inl gl)), (tr, .inr (4, [.int (nI a2), .ref rk, .ref rv, .ref ro, .ref rp, .ref rl, .ref rf, .int (nI n2), .int (nI pl2)])), (rk, .inl (cI, a2, .inl hk)), (ro, .inl (cI, a2, .inl ho_)), (rl, .inl (cI, a2 + 1, .inl hl_)), (ou, .inl (cL, 1, .inr (.inl (vp_updL fo (0 : Int32).toNatClampNeg 1))))]) [1, 2, 3, 4, 5, 6, 7, 8, 9, 10, 11, 12, 0] (by decide) rfl
    refine W.widen (k := 0) (n := 0) (by omega) (by omega) ?_
    exact W.iret (v := 0) hx hb hr (fun t ht hW => ⟨⟨0, [(h0, .inr (5, [.ref tl, .ref tr, .ref cu, .ref bk, .int 1])), (cu, .inr (0, [.ref tl, .ref tr, .ref he, .ref ma, .int hm, .int kd, .long cc9])), (he, .inr (2, [.int y0, .int y1, .int y2, .int y3, .int y4, .int y5, .int y6])), (tl, .inr (4, [.int (nI a), .ref lk, .ref lv, .ref lo, .ref lp, .ref ll, .ref lf, .int (nI n), .int (nI pl)])), (lk, .inl (cI, a, .inl gk)), (lo, .inl (cI, a, .inl go)), (lp, .inl (cI, a + 1, .inl gp)), (ll, .inl (cI, a + 1, .inl gl)), (tr, .inr (4, [.int (nI a2), .ref rk, .ref rv, .ref ro, .ref rp, .ref rl, .ref rf, .int (nI n2), .int (nI pl2)])), (rk, .inl (cI, a2, .inl hk)), (ro, .inl (cI, a2, .inl ho_)), (rl, .inl (cI, a2 + 1, .inl hl_)), (ou, .inl (cL, 1, .inr (.inl (vp_updL fo (0 : Int32).toNatClampNeg 1))))], rfl, (⟨_, _, _, _, _, _, _, _, _, rfl, rfl⟩), by rw [ht]; exact hP, hD⟩, hS.F ht⟩) hS.2.2 dL_seek_23
  · have hP : va_P D vwCl [(ou, .inl (cL, 1, .inr (.inl fo))), (h0, .inr (5, [.ref tl, .ref tr, .ref cu, .ref bk, .int 1])), (cu, .inr (0, [.ref tl, .ref tr, .ref he, .ref ma, .int hm, .int kd, .long cc9])), (he, .inr (2, [.int y0, .int y1, .int y2, .int y3, .int y4, .int y5, .int y6])), (tl, .inr (4, [.int (nI a), .ref lk, .ref lv, .ref lo, .ref lp, .ref ll, .ref lf, .int (nI n), .int (nI pl)])), (lk, .inl (cI, a, .inl gk)), (lo, .inl (cI, a, .inl go)), (lp, .inl (cI, a + 1, .inl gp)), (ll, .inl (cI, a + 1, .inl gl)), (tr, .inr (4, [.int (nI a2), .ref rk, .ref rv, .ref ro, .ref rp, .ref rl, .ref rf, .int (nI n2), .int (nI pl2)])), (rk, .inl (cI, a2, .inl hk)), (ro, .inl (cI, a2, .inl ho_)), (rl, .inl (cI, a2 + 1, .inl hl_))] H := hP
    have hD : va_D A [(ou, .inl (cL, 1, .inr (.inl fo))), (h0, .inr (5, [.ref tl, .ref tr, .ref cu, .ref bk, .int 1])), (cu, .inr (0, [.ref tl, .ref tr, .ref he, .ref ma, .int hm, .int kd, .long cc9])), (he, .inr (2, [.int y0, .int y1, .int y2, .int y3, .int y4, .int y5, .int y6])), (tl, .inr (4, [.int (nI a), .ref lk, .ref lv, .ref lo, .ref lp, .ref ll, .ref lf, .int (nI n), .int (nI pl)])), (lk, .inl (cI, a, .inl gk)), (lo, .inl (cI, a, .inl go)), (lp, .inl (cI, a + 1, .inl gp)), (ll, .inl (cI, a + 1, .inl gl)), (tr, .inr (4, [.int (nI a2), .ref rk, .ref rv, .ref ro, .ref rp, .ref rl, .ref rf, .int (nI n2), .int (nI pl2)])), (rk, .inl (cI, a2, .inl hk)), (ro, .inl (cI, a2, .inl ho_)), (rl, .inl (cI, a2 + 1, .inl hl_))] := hD
    refine lv_if_eq (tgt := 14) hx hb dL_seek_7 (by decide) (fun c_3 => ?_) (fun c_3 => absurd c_3 (by decide))
    refine lv_lconst (v := 0) hx hb dL_seek_14 (by decide) ?_
    refine va_last hx hb hK hP hD hS 0 1 rfl rfl (by unfold vp_in; decide) dL_seek_15 (fun H locs hP hD hS => ?_)
    have hP : va_P D vwCl [(ou, .inl (cL, 1, .inr (.inl (vp_updL fo (0 : Int32).toNatClampNeg 0)))), (h0, .inr (5, [.ref tl, .ref tr, .ref cu, .ref bk, .int 1])), (cu, .inr (0, [.ref tl, .ref tr, .ref he, .ref ma, .int hm, .int kd, .long cc9])), (he, .inr (2, [.int y0, .int y1, .int y2, .int y3, .int y4, .int y5, .int y6])), (tl, .inr (4, [.int (nI a), .ref lk, .ref lv, .ref lo, .ref lp, .ref ll, .ref lf, .int (nI n), .int (nI pl)])), (lk, .inl (cI, a, .inl gk)), (lo, .inl (cI, a, .inl go)), (lp, .inl (cI, a + 1, .inl gp)), (ll, .inl (cI, a + 1, .inl gl)), (tr, .inr (4, [.int (nI a2), .ref rk, .ref rv, .ref ro, .ref rp, .ref rl, .ref rf, .int (nI n2), .int (nI pl2)])), (rk, .inl (cI, a2, .inl hk)), (ro, .inl (cI, a2, .inl ho_)), (rl, .inl (cI, a2 + 1, .inl hl_))] H := hP
    have hD : va_D A [(ou, .inl (cL, 1, .inr (.inl (vp_updL fo (0 : Int32).toNatClampNeg 0)))), (h0, .inr (5, [.ref tl, .ref tr, .ref cu, .ref bk, .int 1])), (cu, .inr (0, [.ref tl, .ref tr, .ref he, .ref ma, .int hm, .int kd, .long cc9])), (he, .inr (2, [.int y0, .int y1, .int y2, .int y3, .int y4, .int y5, .int y6])), (tl, .inr (4, [.int (nI a), .ref lk, .ref lv, .ref lo, .ref lp, .ref ll, .ref lf, .int (nI n), .int (nI pl)])), (lk, .inl (cI, a, .inl gk)), (lo, .inl (cI, a, .inl go)), (lp, .inl (cI, a + 1, .inl gp)), (ll, .inl (cI, a + 1, .inl gl)), (tr, .inr (4, [.int (nI a2), .ref rk, .ref rv, .ref ro, .ref rp, .ref rl, .ref rf, .int (nI n2), .int (nI pl2)])), (rk, .inl (cI, a2, .inl hk)), (ro, .inl (cI, a2, .inl ho_)), (rl, .inl (cI, a2 + 1, .inl hl_))] := hD
    refine lv_goto (tgt := 22) hx hb dL_seek_16 (by decide) ?_
    refine lv_iconst (v := 0) hx hb dL_seek_22 (by decide) ?_
    have hP := hP.sub (ws' := [(h0, .inr (5, [.ref tl, .ref tr, .ref cu, .ref bk, .int 1])), (cu, .inr (0, [.ref tl, .ref tr, .ref he, .ref ma, .int hm, .int kd, .long cc9])), (he, .inr (2, [.int y0, .int y1, .int y2, .int y3, .int y4, .int y5, .int y6])), (tl, .inr (4, [.int (nI a), .ref lk, .ref lv, .ref lo, .ref lp, .ref ll, .ref lf, .int (nI n), .int (nI pl)])), (lk, .inl (cI, a, .inl gk)), (lo, .inl (cI, a, .inl go)), (lp, .inl (cI, a + 1, .inl gp)), (ll, .inl (cI, a + 1, .inl gl)), (tr, .inr (4, [.int (nI a2), .ref rk, .ref rv, .ref ro, .ref rp, .ref rl, .ref rf, .int (nI n2), .int (nI pl2)])), (rk, .inl (cI, a2, .inl hk)), (ro, .inl (cI, a2, .inl ho_)), (rl, .inl (cI, a2 + 1, .inl hl_)), (ou, .inl (cL, 1, .inr (.inl (vp_updL fo (0 : Int32).toNatClampNeg 0))))]) [1, 2, 3, 4, 5, 6, 7, 8, 9, 10, 11, 12, 0] rfl
    have hD := hD.sub (ws' := [(h0, .inr (5, [.ref tl, .ref tr, .ref cu, .ref bk, .int 1])), (cu, .inr (0, [.ref tl, .ref tr, .ref he, .ref ma, .int hm, .int kd, .long cc9])), (he, .inr (2, [.int y0, .int y1, .int y2, .int y3, .int y4, .int y5, .int y6])), (tl, .inr (4, [.int (nI a), .ref lk, .ref lv, .ref lo, .ref lp, .ref ll, .ref lf, .int (nI n), .int (nI pl)])), (lk, .inl (cI, a, .inl gk)), (lo, .inl (cI, a, .inl go)), (lp, .inl (cI, a + 1, .inl gp)), (ll, .inl (cI, a + 1, .inl gl)), (tr, .inr (4, [.int (nI a2), .ref rk, .ref rv, .ref ro, .ref rp, .ref rl, .ref rf, .int (nI n2), .int (nI pl2)])), (rk, .inl (cI, a2, .inl hk)), (ro, .inl (cI, a2, .inl ho_)), (rl, .inl (cI, a2 + 1, .inl hl_)), (ou, .inl (cL, 1, .inr (.inl (vp_updL fo (0 : Int32).toNatClampNeg 0))))]) [1, 2, 3, 4, 5, 6, 7, 8, 9, 10, 11, 12, 0] (by decide) rfl
    refine W.widen (k := 0) (n := 0) (by omega) (by omega) ?_
    exact W.iret (v := 0) hx hb hr (fun t ht hW => ⟨⟨0, [(h0, .inr (5, [.ref tl, .ref tr, .ref cu, .ref bk, .int 1])), (cu, .inr (0, [.ref tl, .ref tr, .ref he, .ref ma, .int hm, .int kd, .long cc9])), (he, .inr (2, [.int y0, .int y1, .int y2, .int y3, .int y4, .int y5, .int y6])), (tl, .inr (4, [.int (nI a), .ref lk, .ref lv, .ref lo, .ref lp, .ref ll, .ref lf, .int (nI n), .int (nI pl)])), (lk, .inl (cI, a, .inl gk)), (lo, .inl (cI, a, .inl go)), (lp, .inl (cI, a + 1, .inl gp)), (ll, .inl (cI, a + 1, .inl gl)), (tr, .inr (4, [.int (nI a2), .ref rk, .ref rv, .ref ro, .ref rp, .ref rl, .ref rf, .int (nI n2), .int (nI pl2)])), (rk, .inl (cI, a2, .inl hk)), (ro, .inl (cI, a2, .inl ho_)), (rl, .inl (cI, a2 + 1, .inl hl_)), (ou, .inl (cL, 1, .inr (.inl (vp_updL fo (0 : Int32).toNatClampNeg 0))))], rfl, (⟨_, _, _, _, _, _, _, _, _, rfl, rfl⟩), by rw [ht]; exact hP, hD⟩, hS.F ht⟩) hS.2.2 dL_seek_23
set_option maxHeartbeats 1000000 in
set_option maxRecDepth 100000 in
theorem kL_seek_t (l : Launch) (hnt : l.stackTraces = false) (D : va_G) (cI cL cQ : ClassId) (h0 : Nat) (tl : Nat) (tr : Nat) (cu : Nat) (bk : Nat) (x : Int32) (ou : Nat) (fo : Nat → Int64) (sz : Nat) : Met l yL_seek wsL_seek ({ frames := 8, cells := 1, slots := 6, locals := 123 }) (jh_P D vwCl (jT cI cL cQ) cL cQ [.ref h0, .int x, .ref ou] [(h0, .inr (5, [.ref tl, .ref tr, .ref cu, .ref bk, .int 0])), (ou, .inl (cL, 1, .inr (.inl fo)))] sz) (va_Qi (fun (r : Int32) (u : va_W) => r = 1 ∧ u = [(h0, .inr (5, [.ref tl, .ref tr, .ref cu, .ref bk, .int 0])), (ou, .inl (cL, 1, .inr (.inl fo)))]) (jw_B D vwCl (va_A [(h0, .inr (5, [.ref tl, .ref tr, .ref cu, .ref bk, .int 0])), (ou, .inl (cL, 1, .inr (.inl fo)))] sz) (fun u : va_W => u)) (va_A [(h0, .inr (5, [.ref tl, .ref tr, .ref cu, .ref bk, .int 0])), (ou, .inl (cL, 1, .inr (.inl fo)))] sz)) 1 6 (va_A [(h0, .inr (5, [.ref tl, .ref tr, .ref cu, .ref bk, .int 0])), (ou, .inl (cL, 1, .inr (.inl fo)))] sz) := by
  refine va_MetW (hh := [(0, 16, 19, 13)]) (cc := cL_seek) (maxL := 4) (ret := (some .int)) (by decide) rfl ?_
  intro p e s m args below meth c s₁ B hml hv
  obtain ⟨rfl, hsz, hP, hK, hN, hD0, hZ⟩ := hv
  have hx := B.exec
  have hb := B.bytes
  have hr := B.returns
  have hts := atoms_spec (ws := wsL_seek) B.pre
  have hown : s.vm.findClass RL = some m.cls := findClass_of_methodNamed B.named
  have hlocks := B.notSynchronized
  subst hsz
  have hD := hD0.self (sz := s.heap.size)
  generalize hAe : va_A [(h0, .inr (5, [.ref tl, .ref tr, .ref cu, .ref bk, .int 0])), (ou, .inl (cL, 1, .inr (.inl fo)))] s.heap.size = A at hD ⊢
  have hA : ∀ q : Nat, s.heap.size ≤ q → A q := fun q h => by rw [← hAe]; exact Or.inr h
  have hS : va_S A s.heap s.heap [] := va_S.rf
  have hl := lv_entry ([.ref h0, .int x, .ref ou]) (n := 4) (Nat.le_of_ble_eq_true rfl)
  rw [lg_entry_eq]
  generalize (lg_sl ([.ref h0, .int x, .ref ou]) ++ List.replicate (4 - (lg_sl ([.ref h0, .int x, .ref ou])).length) Slot.unset).toArray = ls at hl ⊢
  have hl : lv_has ls 4 [(0, .ref h0), (1, .int x), (2, .ref ou)] := hl
  refine lv_aload_n hx hb dL_seek_0 rfl (lv_at hl 2 rfl) ?_
  refine lv_iconst (v := 0) hx hb dL_seek_1 (by decide) ?_
  refine lv_aload_n hx hb dL_seek_2 rfl (lv_at hl 0 rfl) ?_
  refine lv_iload_n hx hb dL_seek_3 rfl (lv_at hl 1 rfl) ?_
  refine jx_thr (vx_runV (As := [.int x]) (rest := [.int 0, .ref ou]) ⟨hx, hb, hml, hown, hts⟩ (gJ_seek_t l hnt D cI cL cQ h0 tl tr cu bk x) (cwV 1 hts gL_seek_X5_seek rfl rfl rfl (by decide +kernel) ⟨Nat.le_of_ble_eq_true rfl, Nat.le_of_ble_eq_true rfl⟩) (jt_V hK hN hZ hP [0] rfl 5 0 rfl rfl rfl) rfl rfl hl.1 rfl (lv_room (Nat.le_of_ble_eq_true rfl)) dL_seek_4 ⟨Nat.le_of_ble_eq_true rfl, Nat.le_of_ble_eq_true rfl⟩) (fun ce q9 H1 hz hk hce hcv hcl => ?_)
  have hP : va_P D vwCl [(h0, .inr (5, [.ref tl, .ref tr, .ref cu, .ref bk, .int 0])), (ou, .inl (cL, 1, .inr (.inl fo)))] H1 := hP.kept (fun k x hx => hk x.1 (hP k x hx).lt)
  have hS : va_S A s.heap H1 [] := ⟨hz, fun q h1 _ => hk q h1, fun _ h => nomatch h⟩
  generalize H1 = H at hP hS hce ⊢
  have htab : c.exceptionTable.toList = [⟨0, 16, 19, 13⟩] := vx_table (x := yL_seek) B (hts _ List.mem_cons_self)
  refine jc_first (name := "") hown ⟨0, 16, 19, 13⟩ [] htab (by decide) (by decide) (hts (.classLink RL 13 "java/lang/IllegalStateException") (by decide +kernel)) hce hcv hcl ?_
  refine W.eq (g2 := F0 m 19 ls [.ref q9]) rfl ?_
  refine W.widen (k := 1) (n := 6) (by omega) (by omega) ?_
  refine lv_astore_n (lv' := [(3, .ref q9), (0, .ref h0), (1, .int x), (2, .ref ou)]) hx hb dL_seek_19 rfl hl (by decide) rfl (fun ls hl => ?_)
  refine lv_iconst (v := 1) hx hb dL_seek_20 (by decide) ?_
  refine W.widen (k := 1) (n := 6) (by omega) (by omega) ?_
  exact W.iret (v := 1) hx hb hr (fun t ht hW => ⟨⟨1, [(h0, .inr (5, [.ref tl, .ref tr, .ref cu, .ref bk, .int 0])), (ou, .inl (cL, 1, .inr (.inl fo)))], rfl, (by exact ⟨rfl, rfl⟩), by rw [ht]; exact hP, hD⟩, hS.F ht⟩) hS.2.2 dL_seek_21
set_option maxHeartbeats 1000000 in
set_option maxRecDepth 100000 in
theorem kL_back_t1 (l : Launch) (hnt : l.stackTraces = false) (D : va_G) (cI cL cQ : ClassId) (h0 : Nat) (tl : Nat) (tr : Nat) (cu : Nat) (bk : Nat) (he : Nat) (ma : Nat) (kd : Int32) (cc0 : Int64) (ou : Nat) (fo : Nat → Int64) (sz : Nat) : Met l yL_back wsL_back ({ frames := 8, cells := 1, slots := 6, locals := 122 }) (jh_P D vwCl (jT cI cL cQ) cL cQ [.ref h0, .ref ou] [(h0, .inr (5, [.ref tl, .ref tr, .ref cu, .ref bk, .int 1])), (cu, .inr (0, [.ref tl, .ref tr, .ref he, .ref ma, .int 0, .int kd, .long cc0])), (ou, .inl (cL, 1, .inr (.inl fo)))] sz) (va_Qi (fun (r : Int32) (u : va_W) => r = 1 ∧ u = [(h0, .inr (5, [.ref tl, .ref tr, .ref cu, .ref bk, .int 1])), (cu, .inr (0, [.ref tl, .ref tr, .ref he, .ref ma, .int 0, .int kd, .long cc0])), (ou, .inl (cL, 1, .inr (.inl fo)))]) (jw_B D vwCl (va_A [(h0, .inr (5, [.ref tl, .ref tr, .ref cu, .ref bk, .int 1])), (cu, .inr (0, [.ref tl, .ref tr, .ref he, .ref ma, .int 0, .int kd, .long cc0])), (ou, .inl (cL, 1, .inr (.inl fo)))] sz) (fun u : va_W => u)) (va_A [(h0, .inr (5, [.ref tl, .ref tr, .ref cu, .ref bk, .int 1])), (cu, .inr (0, [.ref tl, .ref tr, .ref he, .ref ma, .int 0, .int kd, .long cc0])), (ou, .inl (cL, 1, .inr (.inl fo)))] sz)) 1 6 (va_A [(h0, .inr (5, [.ref tl, .ref tr, .ref cu, .ref bk, .int 1])), (cu, .inr (0, [.ref tl, .ref tr, .ref he, .ref ma, .int 0, .int kd, .long cc0])), (ou, .inl (cL, 1, .inr (.inl fo)))] sz) := by
  refine va_MetW (hh := [(0, 8, 11, 13)]) (cc := cL_back) (maxL := 3) (ret := (some .int)) (by decide) rfl ?_
  intro p e s m args below meth c s₁ B hml hv
  obtain ⟨rfl, hsz, hP, hK, hN, hD0, hZ⟩ := hv
  have hx := B.exec
  have hb := B.bytes
  have hr := B.returns
  have hts := atoms_spec (ws := wsL_back) B.pre
  have hown : s.vm.findClass RL = some m.cls := findClass_of_methodNamed B.named
  have hlocks := B.notSynchronized
  subst hsz
  have hD := hD0.self (sz := s.heap.size)
  generalize hAe : va_A [(h0, .inr (5, [.ref tl, .ref tr, .ref cu, .ref bk, .int 1])), (cu, .inr (0, [.ref tl, .ref tr, .ref he, .ref ma, .int 0, .int kd, .long cc0])), (ou, .inl (cL, 1, .inr (.inl fo)))] s.heap.size = A at hD ⊢
  have hA : ∀ q : Nat, s.heap.size ≤ q → A q := fun q h => by rw [← hAe]; exact Or.inr h
  have hS : va_S A s.heap s.heap [] := va_S.rf
  have hl := lv_entry ([.ref h0, .ref ou]) (n := 3) (Nat.le_of_ble_eq_true rfl)
  rw [lg_entry_eq]
  generalize (lg_sl ([.ref h0, .ref ou]) ++ List.replicate (3 - (lg_sl ([.ref h0, .ref ou])).length) Slot.unset).toArray = ls at hl ⊢
  have hl : lv_has ls 3 [(0, .ref h0), (1, .ref ou)] := hl
  refine lv_aload_n hx hb dL_back_0 rfl (lv_at hl 1 rfl) ?_
  refine lv_iconst (v := 0) hx hb dL_back_1 (by decide) ?_
  refine lv_aload_n hx hb dL_back_2 rfl (lv_at hl 0 rfl) ?_
  refine jx_thr (vx_runV (As := []) (rest := [.int 0, .ref ou]) ⟨hx, hb, hml, hown, hts⟩ (gJ_back_t1 l hnt D cI cL cQ h0 tl tr cu bk he ma kd cc0) (cwV 0 hts gL_back_X5_back rfl rfl rfl (by decide +kernel) ⟨Nat.le_of_ble_eq_true rfl, Nat.le_of_ble_eq_true rfl⟩) (jt_V hK hN hZ hP [0, 1] rfl 5 0 rfl rfl rfl) rfl rfl hl.1 rfl (lv_room (Nat.le_of_ble_eq_true rfl)) dL_back_3 ⟨Nat.le_of_ble_eq_true rfl, Nat.le_of_ble_eq_true rfl⟩) (fun ce q9 H1 hz hk hce hcv hcl => ?_)
  have hP : va_P D vwCl [(h0, .inr (5, [.ref tl, .ref tr, .ref cu, .ref bk, .int 1])), (cu, .inr (0, [.ref tl, .ref tr, .ref he, .ref ma, .int 0, .int kd, .long cc0])), (ou, .inl (cL, 1, .inr (.inl fo)))] H1 := hP.kept (fun k x hx => hk x.1 (hP k x hx).lt)
  have hS : va_S A s.heap H1 [] := ⟨hz, fun q h1 _ => hk q h1, fun _ h => nomatch h⟩
  generalize H1 = H at hP hS hce ⊢
  have htab : c.exceptionTable.toList = [⟨0, 8, 11, 13⟩] := vx_table (x := yL_back) B (hts _ List.mem_cons_self)
  refine jc_first (name := "") hown ⟨0, 8, 11, 13⟩ [] htab (by decide) (by decide) (hts (.classLink RL 13 "java/lang/IllegalStateException") (by decide +kernel)) hce hcv hcl ?_
  refine W.eq (g2 := F0 m 11 ls [.ref q9]) rfl ?_
  refine W.widen (k := 1) (n := 6) (by omega) (by omega) ?_
  refine lv_astore_n (lv' := [(2, .ref q9), (0, .ref h0), (1, .ref ou)]) hx hb dL_back_11 rfl hl (by decide) rfl (fun ls hl => ?_)
  refine lv_iconst (v := 1) hx hb dL_back_12 (by decide) ?_
  refine W.widen (k := 1) (n := 6) (by omega) (by omega) ?_
  exact W.iret (v := 1) hx hb hr (fun t ht hW => ⟨⟨1, [(h0, .inr (5, [.ref tl, .ref tr, .ref cu, .ref bk, .int 1])), (cu, .inr (0, [.ref tl, .ref tr, .ref he, .ref ma, .int 0, .int kd, .long cc0])), (ou, .inl (cL, 1, .inr (.inl fo)))], rfl, (by exact ⟨rfl, rfl⟩), by rw [ht]; exact hP, hD⟩, hS.F ht⟩) hS.2.2 dL_back_13
set_option maxHeartbeats 1000000 in
set_option maxRecDepth 100000 in
theorem kL_rewind (l : Launch) (hnt : l.stackTraces = false) (D : va_G) (cI cL cQ : ClassId) (h0 : Nat) (tl : Nat) (tr : Nat) (cu : Nat) (bk : Nat) (he : Nat) (ma : Nat) (hm : Int32) (kd : Int32) (cc0 : Int64) (p0 : Int32) (p1 : Int32) (p2 : Int32) (p3 : Int32) (p4 : Int32) (p5 : Int32) (p6 : Int32) (sz : Nat) : Met l yL_rewind wsL_rewind ({ frames := 3, cells := 0, slots := 0, locals := 63 }) (jh_P D vwCl (jT cI cL cQ) cL cQ [.ref h0] [(h0, .inr (5, [.ref tl, .ref tr, .ref cu, .ref bk, .int 1])), (cu, .inr (0, [.ref tl, .ref tr, .ref he, .ref ma, .int hm, .int kd, .long cc0])), (he, .inr (2, [.int p0, .int p1, .int p2, .int p3, .int p4, .int p5, .int p6]))] sz) (va_Qi (fun (r : Int32) (u : va_W) => r = 0 ∧ u = [(h0, .inr (5, [.ref tl, .ref tr, .ref cu, .ref bk, .int 1])), (cu, .inr (0, [.ref tl, .ref tr, .ref he, .ref ma, .int hm, .int kd, .long 0])), (he, .inr (2, [.int 0, .int 0, .int 0, .int 0, .int (-1), .int (-1), .int 0]))]) (jw_B D vwCl (va_A [(h0, .inr (5, [.ref tl, .ref tr, .ref cu, .ref bk, .int 1])), (cu, .inr (0, [.ref tl, .ref tr, .ref he, .ref ma, .int hm, .int kd, .long cc0])), (he, .inr (2, [.int p0, .int p1, .int p2, .int p3, .int p4, .int p5, .int p6]))] sz) (fun u : va_W => u)) (va_A [(h0, .inr (5, [.ref tl, .ref tr, .ref cu, .ref bk, .int 1])), (cu, .inr (0, [.ref tl, .ref tr, .ref he, .ref ma, .int hm, .int kd, .long cc0])), (he, .inr (2, [.int p0, .int p1, .int p2, .int p3, .int p4, .int p5, .int p6]))] sz)) 0 0 (va_A [(h0, .inr (5, [.ref tl, .ref tr, .ref cu, .ref bk, .int 1])), (cu, .inr (0, [.ref tl, .ref tr, .ref he, .ref ma, .int hm, .int kd, .long cc0])), (he, .inr (2, [.int p0, .int p1, .int p2, .int p3, .int p4, .int p5, .int p6]))] sz) := by
  refine va_MetW (hh := [(0, 4, 7, 13)]) (cc := cL_rewind) (maxL := 2) (ret := (some .int)) (by decide) rfl ?_
  intro p e s m args below meth c s₁ B hml hv
  obtain ⟨rfl, hsz, hP, hK, hN, hD0, hZ⟩ := hv
  have hx := B.exec
  have hb := B.bytes
  have hr := B.returns
  have hts := atoms_spec (ws := wsL_rewind) B.pre
  have hown : s.vm.findClass RL = some m.cls := findClass_of_methodNamed B.named
  have hlocks := B.notSynchronized
  subst hsz
  have hD := hD0.self (sz := s.heap.size)
  generalize hAe : va_A [(h0, .inr (5, [.ref tl, .ref tr, .ref cu, .ref bk, .int 1])), (cu, .inr (0, [.ref tl, .ref tr, .ref he, .ref ma, .int hm, .int kd, .long cc0])), (he, .inr (2, [.int p0, .int p1, .int p2, .int p3, .int p4, .int p5, .int p6]))] s.heap.size = A at hD ⊢
  have hA : ∀ q : Nat, s.heap.size ≤ q → A q := fun q h => by rw [← hAe]; exact Or.inr h
  have hS : va_S A s.heap s.heap [] := va_S.rf
  have hl := lv_entry ([.ref h0]) (n := 2) (Nat.le_of_ble_eq_true rfl)
  rw [lg_entry_eq]
  generalize (lg_sl ([.ref h0]) ++ List.replicate (2 - (lg_sl ([.ref h0])).length) Slot.unset).toArray = ls at hl ⊢
  have hl : lv_has ls 2 [(0, .ref h0)] := hl
  refine lv_aload_n hx hb dL_rewind_0 rfl (lv_at hl 0 rfl) ?_
  refine jw_v (wr := []) (va_runV (As := []) (rest := []) ⟨hx, hb, hml, hown, hts⟩ (gJ_rewind l D cI cL cQ h0 tl tr cu bk he ma hm kd cc0 p0 p1 p2 p3 p4 p5 p6 _) (cwV 0 hts gL_rewind_X5_rewind rfl rfl rfl (by decide +kernel) ⟨Nat.le_of_ble_eq_true rfl, Nat.le_of_ble_eq_true rfl⟩) (jw_V hK hN hP hD [0, 1, 2] (by decide) rfl 5 0 rfl rfl rfl) rfl rfl hl.1 rfl (lv_room (Nat.le_of_ble_eq_true rfl)) dL_rewind_1 ⟨Nat.le_of_ble_eq_true rfl, Nat.le_of_ble_eq_true rfl⟩) hP hD hS hA [0, 1, 2] [] rfl rfl (by decide) (by decide) (fun u H locs f_1 hP hD hS => ?_)
  obtain rfl := f_1
  have hP : va_P D vwCl [(h0, .inr (5, [.ref tl, .ref tr, .ref cu, .ref bk, .int 1])), (cu, .inr (0, [.ref tl, .ref tr, .ref he, .ref ma, .int hm, .int kd, .long 0])), (he, .inr (2, [.int 0, .int 0, .int 0, .int 0, .int (-1), .int (-1), .int 0]))] H := hP
  have hD : va_D A [(h0, .inr (5, [.ref tl, .ref tr, .ref cu, .ref bk, .int 1])), (cu, .inr (0, [.ref tl, .ref tr, .ref he, .ref ma, .int hm, .int kd, .long 0])), (he, .inr (2, [.int 0, .int 0, .int 0, .int 0, .int (-1), .int (-1), .int 0]))] := hD
  refine lv_goto (tgt := 10) hx hb dL_rewind_4 (by decide) ?_
  refine lv_iconst (v := 0) hx hb dL_rewind_10 (by decide) ?_
  refine W.widen (k := 0) (n := 0) (by omega) (by omega) ?_
  exact W.iret (v := 0) hx hb hr (fun t ht hW => ⟨⟨0, [(h0, .inr (5, [.ref tl, .ref tr, .ref cu, .ref bk, .int 1])), (cu, .inr (0, [.ref tl, .ref tr, .ref he, .ref ma, .int hm, .int kd, .long 0])), (he, .inr (2, [.int 0, .int 0, .int 0, .int 0, .int (-1), .int (-1), .int 0]))], rfl, (⟨rfl, rfl⟩), by rw [ht]; exact hP, hD⟩, hS.F ht⟩) hS.2.2 dL_rewind_11
set_option maxHeartbeats 1000000 in
set_option maxRecDepth 100000 in
theorem kL_rewind_t (l : Launch) (hnt : l.stackTraces = false) (D : va_G) (cI cL cQ : ClassId) (h0 : Nat) (tl : Nat) (tr : Nat) (cu : Nat) (bk : Nat) (sz : Nat) : Met l yL_rewind wsL_rewind ({ frames := 8, cells := 1, slots := 6, locals := 122 }) (jh_P D vwCl (jT cI cL cQ) cL cQ [.ref h0] [(h0, .inr (5, [.ref tl, .ref tr, .ref cu, .ref bk, .int 0]))] sz) (va_Qi (fun (r : Int32) (u : va_W) => r = 1 ∧ u = [(h0, .inr (5, [.ref tl, .ref tr, .ref cu, .ref bk, .int 0]))]) (jw_B D vwCl (va_A [(h0, .inr (5, [.ref tl, .ref tr, .ref cu, .ref bk, .int 0]))] sz) (fun u : va_W => u)) (va_A [(h0, .inr (5, [.ref tl, .ref tr, .ref cu, .ref bk, .int 0]))] sz)) 1 6 (va_A [(h0, .inr (5, [.ref tl, .ref tr, .ref cu, .ref bk, .int 0]))] sz) := by
  refine va_MetW (hh := [(0, 4, 7, 13)]) (cc := cL_rewind) (maxL := 2) (ret := (some .int)) (by decide) rfl ?_
  intro p e s m args below meth c s₁ B hml hv
  obtain ⟨rfl, hsz, hP, hK, hN, hD0, hZ⟩ := hv
  have hx := B.exec
  have hb := B.bytes
  have hr := B.returns
  have hts := atoms_spec (ws := wsL_rewind) B.pre
  have hown : s.vm.findClass RL = some m.cls := findClass_of_methodNamed B.named
  have hlocks := B.notSynchronized
  subst hsz
  have hD := hD0.self (sz := s.heap.size)
  generalize hAe : va_A [(h0, .inr (5, [.ref tl, .ref tr, .ref cu, .ref bk, .int 0]))] s.heap.size = A at hD ⊢
  have hA : ∀ q : Nat, s.heap.size ≤ q → A q := fun q h => by rw [← hAe]; exact Or.inr h
  have hS : va_S A s.heap s.heap [] := va_S.rf
  have hl := lv_entry ([.ref h0]) (n := 2) (Nat.le_of_ble_eq_true rfl)
  rw [lg_entry_eq]
  generalize (lg_sl ([.ref h0]) ++ List.replicate (2 - (lg_sl ([.ref h0])).length) Slot.unset).toArray = ls at hl ⊢
  have hl : lv_has ls 2 [(0, .ref h0)] := hl
  refine lv_aload_n hx hb dL_rewind_0 rfl (lv_at hl 0 rfl) ?_
  refine jx_thr (vx_runV (As := []) (rest := []) ⟨hx, hb, hml, hown, hts⟩ (gJ_rewind_t l hnt D cI cL cQ h0 tl tr cu bk) (cwV 0 hts gL_rewind_X5_rewind rfl rfl rfl (by decide +kernel) ⟨Nat.le_of_ble_eq_true rfl, Nat.le_of_ble_eq_true rfl⟩) (jt_V hK hN hZ hP [0] rfl 5 0 rfl rfl rfl) rfl rfl hl.1 rfl (lv_room (Nat.le_of_ble_eq_true rfl)) dL_rewind_1 ⟨Nat.le_of_ble_eq_true rfl, Nat.le_of_ble_eq_true rfl⟩) (fun ce q9 H1 hz hk hce hcv hcl => ?_)
  have hP : va_P D vwCl [(h0, .inr (5, [.ref tl, .ref tr, .ref cu, .ref bk, .int 0]))] H1 := hP.kept (fun k x hx => hk x.1 (hP k x hx).lt)
  have hS : va_S A s.heap H1 [] := ⟨hz, fun q h1 _ => hk q h1, fun _ h => nomatch h⟩
  generalize H1 = H at hP hS hce ⊢
  have htab : c.exceptionTable.toList = [⟨0, 4, 7, 13⟩] := vx_table (x := yL_rewind) B (hts _ List.mem_cons_self)
  refine jc_first (name := "") hown ⟨0, 4, 7, 13⟩ [] htab (by decide) (by decide) (hts (.classLink RL 13 "java/lang/IllegalStateException") (by decide +kernel)) hce hcv hcl ?_
  refine W.eq (g2 := F0 m 7 ls [.ref q9]) rfl ?_
  refine W.widen (k := 1) (n := 6) (by omega) (by omega) ?_
  refine lv_astore_n (lv' := [(1, .ref q9), (0, .ref h0)]) hx hb dL_rewind_7 rfl hl (by decide) rfl (fun ls hl => ?_)
  refine lv_iconst (v := 1) hx hb dL_rewind_8 (by decide) ?_
  refine W.widen (k := 1) (n := 6) (by omega) (by omega) ?_
  exact W.iret (v := 1) hx hb hr (fun t ht hW => ⟨⟨1, [(h0, .inr (5, [.ref tl, .ref tr, .ref cu, .ref bk, .int 0]))], rfl, (by exact ⟨rfl, rfl⟩), by rw [ht]; exact hP, hD⟩, hS.F ht⟩) hS.2.2 dL_rewind_9
set_option maxHeartbeats 1000000 in
set_option maxRecDepth 100000 in
theorem kL_count (l : Launch) (hnt : l.stackTraces = false) (D : va_G) (cI cL cQ : ClassId) (h0 : Nat) (tl : Nat) (tr : Nat) (cu : Nat) (bk : Nat) (a : Nat) (n : Nat) (pl : Nat) (a2 : Nat) (n2 : Nat) (pl2 : Nat) (lk : Nat) (lv : Nat) (lo : Nat) (lp : Nat) (ll : Nat) (lf : Nat) (rk : Nat) (rv : Nat) (ro : Nat) (rp : Nat) (rl : Nat) (rf : Nat) (gp : Nat → Int32) (gl : Nat → Int32) (hl_ : Nat → Int32) (x : Int32) (ou : Nat) (fo : Nat → Int64) (sz : Nat) (ha : a ≤ 400) (hn : n ≤ a) (ha2 : a2 ≤ 400) (hn2 : n2 ≤ a2) (h1 : ¬ x < 0) (h2 : ¬ 4 ≤ x) : Met l yL_count wsL_count ({ frames := 3, cells := 0, slots := 0, locals := 67 }) (jh_P D vwCl (jT cI cL cQ) cL cQ [.ref h0, .int x, .ref ou] [(h0, .inr (5, [.ref tl, .ref tr, .ref cu, .ref bk, .int 1])), (tl, .inr (4, [.int (nI a), .ref lk, .ref lv, .ref lo, .ref lp, .ref ll, .ref lf, .int (nI n), .int (nI pl)])), (lp, .inl (cI, a + 1, .inl gp)), (ll, .inl (cI, a + 1, .inl gl)), (tr, .inr (4, [.int (nI a2), .ref rk, .ref rv, .ref ro, .ref rp, .ref rl, .ref rf, .int (nI n2), .int (nI pl2)])), (rl, .inl (cI, a2 + 1, .inl hl_)), (ou, .inl (cL, 1, .inr (.inl fo)))] sz) (va_Qi (fun (r : Int32) (u : va_W) => r = 0 ∧ u = [(h0, .inr (5, [.ref tl, .ref tr, .ref cu, .ref bk, .int 1])), (tl, .inr (4, [.int (nI a), .ref lk, .ref lv, .ref lo, .ref lp, .ref ll, .ref lf, .int (nI n), .int (nI pl)])), (lp, .inl (cI, a + 1, .inl gp)), (ll, .inl (cI, a + 1, .inl gl)), (tr, .inr (4, [.int (nI a2), .ref rk, .ref rv, .ref ro, .ref rp, .ref rl, .ref rf, .int (nI n2), .int (nI pl2)])), (rl, .inl (cI, a2 + 1, .inl hl_)), (ou, .inl (cL, 1, .inr (.inl (vp_updL fo (0 : Int32).toNatClampNeg ((jpb n n2 gp gl hl_ (nI n) (nI n2) x).toInt64)))))]) (jw_B D vwCl (va_A [(h0, .inr (5, [.ref tl, .ref tr, .ref cu, .ref bk, .int 1])), (tl, .inr (4, [.int (nI a), .ref lk, .ref lv, .ref lo, .ref lp, .ref ll, .ref lf, .int (nI n), .int (nI pl)])), (lp, .inl (cI, a + 1, .inl gp)), (ll, .inl (cI, a + 1, .inl gl)), (tr, .inr (4, [.int (nI a2), .ref rk, .ref rv, .ref ro, .ref rp, .ref rl, .ref rf, .int (nI n2), .int (nI pl2)])), (rl, .inl (cI, a2 + 1, .inl hl_)), (ou, .inl (cL, 1, .inr (.inl fo)))] sz) (fun u : va_W => u)) (va_A [(h0, .inr (5, [.ref tl, .ref tr, .ref cu, .ref bk, .int 1])), (tl, .inr (4, [.int (nI a), .ref lk, .ref lv, .ref lo, .ref lp, .ref ll, .ref lf, .int (nI n), .int (nI pl)])), (lp, .inl (cI, a + 1, .inl gp)), (ll, .inl (cI, a + 1, .inl gl)), (tr, .inr (4, [.int (nI a2), .ref rk, .ref rv, .ref ro, .ref rp, .ref rl, .ref rf, .int (nI n2), .int (nI pl2)])), (rl, .inl (cI, a2 + 1, .inl hl_)), (ou, .inl (cL, 1, .inr (.inl fo)))] sz)) 0 0 (va_A [(h0, .inr (5, [.ref tl, .ref tr, .ref cu, .ref bk, .int 1])), (tl, .inr (4, [.int (nI a), .ref lk, .ref lv, .ref lo, .ref lp, .ref ll, .ref lf, .int (nI n), .int (nI pl)])), (lp, .inl (cI, a + 1, .inl gp)), (ll, .inl (cI, a + 1, .inl gl)), (tr, .inr (4, [.int (nI a2), .ref rk, .ref rv, .ref ro, .ref rp, .ref rl, .ref rf, .int (nI n2), .int (nI pl2)])), (rl, .inl (cI, a2 + 1, .inl hl_)), (ou, .inl (cL, 1, .inr (.inl fo)))] sz) := by
  refine va_MetW (hh := [(0, 8, 11, 19), (0, 8, 14, 13)]) (cc := cL_count) (maxL := 4) (ret := (some .int)) (by decide) rfl ?_
  intro p e s m args below meth c s₁ B hml hv
  obtain ⟨rfl, hsz, hP, hK, hN, hD0, hZ⟩ := hv
  have hx := B.exec
  have hb := B.bytes
  have hr := B.returns
  have hts := atoms_spec (ws := wsL_count) B.pre
  have hown : s.vm.findClass RL = some m.cls := findClass_of_methodNamed B.named
  have hlocks := B.notSynchronized
  subst hsz
  have hD := hD0.self (sz := s.heap.size)
  generalize hAe : va_A [(h0, .inr (5, [.ref tl, .ref tr, .ref cu, .ref bk, .int 1])), (tl, .inr (4, [.int (nI a), .ref lk, .ref lv, .ref lo, .ref lp, .ref ll, .ref lf, .int (nI n), .int (nI pl)])), (lp, .inl (cI, a + 1, .inl gp)), (ll, .inl (cI, a + 1, .inl gl)), (tr, .inr (4, [.int (nI a2), .ref rk, .ref rv, .ref ro, .ref rp, .ref rl, .ref rf, .int (nI n2), .int (nI pl2)])), (rl, .inl (cI, a2 + 1, .inl hl_)), (ou, .inl (cL, 1, .inr (.inl fo)))] s.heap.size = A at hD ⊢
  have hA : ∀ q : Nat, s.heap.size ≤ q → A q := fun q h => by rw [← hAe]; exact Or.inr h
  have hS : va_S A s.heap s.heap [] := va_S.rf
  have hl := lv_entry ([.ref h0, .int x, .ref ou]) (n := 4) (Nat.le_of_ble_eq_true rfl)
  rw [lg_entry_eq]
  generalize (lg_sl ([.ref h0, .int x, .ref ou]) ++ List.replicate (4 - (lg_sl ([.ref h0, .int x, .ref ou])).length) Slot.unset).toArray = ls at hl ⊢
  have hl : lv_has ls 4 [(0, .ref h0), (1, .int x), (2, .ref ou)] := hl
  refine lv_aload_n hx hb dL_count_0 rfl (lv_at hl 2 rfl) ?_
  refine lv_iconst (v := 0) hx hb dL_count_1 (by decide) ?_
  refine lv_aload_n hx hb dL_count_2 rfl (lv_at hl 0 rfl) ?_
  refine lv_iload_n hx hb dL_count_3 rfl (lv_at hl 1 rfl) ?_
  refine vp_callSl (va_Run.run (va_runV (As := [.int x]) (rest := [.int 0, .ref ou]) ⟨hx, hb, hml, hown, hts⟩ (gJ_count l D cI cL cQ h0 tl tr cu bk a n pl a2 n2 pl2 lk lv lo lp ll lf rk rv ro rp rl rf gp gl hl_ x (by first | assumption | decide | omega) (by first | assumption | decide | omega) (by first | assumption | decide | omega) (by first | assumption | decide | omega) (by first | assumption | decide | omega) (by first | assumption | decide | omega)) (cwV 1 hts gL_count_X5_count rfl rfl rfl (by decide +kernel) ⟨Nat.le_of_ble_eq_true rfl, Nat.le_of_ble_eq_true rfl⟩) (jr_V hK hN hP [0, 1, 2, 3, 4, 5] rfl 5 0 rfl rfl rfl) rfl rfl hl.1 rfl (lv_room (Nat.le_of_ble_eq_true rfl)) dL_count_4 ⟨Nat.le_of_ble_eq_true rfl, Nat.le_of_ble_eq_true rfl⟩)) (fun r f_1 => ?_)
  obtain rfl := f_1
  refine va_last hx hb hK hP hD hS 6 1 rfl rfl (by unfold vp_in; decide) dL_count_7 (fun H locs hP hD hS => ?_)
  have hP : va_P D vwCl [(h0, .inr (5, [.ref tl, .ref tr, .ref cu, .ref bk, .int 1])), (tl, .inr (4, [.int (nI a), .ref lk, .ref lv, .ref lo, .ref lp, .ref ll, .ref lf, .int (nI n), .int (nI pl)])), (lp, .inl (cI, a + 1, .inl gp)), (ll, .inl (cI, a + 1, .inl gl)), (tr, .inr (4, [.int (nI a2), .ref rk, .ref rv, .ref ro, .ref rp, .ref rl, .ref rf, .int (nI n2), .int (nI pl2)])), (rl, .inl (cI, a2 + 1, .inl hl_)), (ou, .inl (cL, 1, .inr (.inl (vp_updL fo (0 : Int32).toNatClampNeg ((jpb n n2 gp gl hl_ (nI n) (nI n2) x).toInt64)))))] H := hP
  have hD : va_D A [(h0, .inr (5, [.ref tl, .ref tr, .ref cu, .ref bk, .int 1])), (tl, .inr (4, [.int (nI a), .ref lk, .ref lv, .ref lo, .ref lp, .ref ll, .ref lf, .int (nI n), .int (nI pl)])), (lp, .inl (cI, a + 1, .inl gp)), (ll, .inl (cI, a + 1, .inl gl)), (tr, .inr (4, [.int (nI a2), .ref rk, .ref rv, .ref ro, .ref rp, .ref rl, .ref rf, .int (nI n2), .int (nI pl2)])), (rl, .inl (cI, a2 + 1, .inl hl_)), (ou, .inl (cL, 1, .inr (.inl (vp_updL fo (0 : Int32).toNatClampNeg ((jpb n n2 gp gl hl_ (nI n) (nI n2) x).toInt64)))))] := hD
  refine lv_goto (tgt := 17) hx hb dL_count_8 (by decide) ?_
  refine lv_iconst (v := 0) hx hb dL_count_17 (by decide) ?_
  refine W.widen (k := 0) (n := 0) (by omega) (by omega) ?_
  exact W.iret (v := 0) hx hb hr (fun t ht hW => ⟨⟨0, [(h0, .inr (5, [.ref tl, .ref tr, .ref cu, .ref bk, .int 1])), (tl, .inr (4, [.int (nI a), .ref lk, .ref lv, .ref lo, .ref lp, .ref ll, .ref lf, .int (nI n), .int (nI pl)])), (lp, .inl (cI, a + 1, .inl gp)), (ll, .inl (cI, a + 1, .inl gl)), (tr, .inr (4, [.int (nI a2), .ref rk, .ref rv, .ref ro, .ref rp, .ref rl, .ref rf, .int (nI n2), .int (nI pl2)])), (rl, .inl (cI, a2 + 1, .inl hl_)), (ou, .inl (cL, 1, .inr (.inl (vp_updL fo (0 : Int32).toNatClampNeg ((jpb n n2 gp gl hl_ (nI n) (nI n2) x).toInt64)))))], rfl, (⟨rfl, rfl⟩), by rw [ht]; exact hP, hD⟩, hS.F ht⟩) hS.2.2 dL_count_18
set_option maxHeartbeats 1000000 in
set_option maxRecDepth 100000 in
theorem kL_count_a (l : Launch) (hnt : l.stackTraces = false) (D : va_G) (cI cL cQ : ClassId) (h0 : Nat) (tl : Nat) (tr : Nat) (cu : Nat) (bk : Nat) (pr : Int32) (x : Int32) (ou : Nat) (fo : Nat → Int64) (sz : Nat) (h1 : x < 0 ∨ 4 ≤ x) : Met l yL_count wsL_count ({ frames := 8, cells := 1, slots := 6, locals := 123 }) (jh_P D vwCl (jT cI cL cQ) cL cQ [.ref h0, .int x, .ref ou] [(h0, .inr (5, [.ref tl, .ref tr, .ref cu, .ref bk, .int pr])), (ou, .inl (cL, 1, .inr (.inl fo)))] sz) (va_Qi (fun (r : Int32) (u : va_W) => r = 1 ∧ u = [(h0, .inr (5, [.ref tl, .ref tr, .ref cu, .ref bk, .int pr])), (ou, .inl (cL, 1, .inr (.inl fo)))]) (jw_B D vwCl (va_A [(h0, .inr (5, [.ref tl, .ref tr, .ref cu, .ref bk, .int pr])), (ou, .inl (cL, 1, .inr (.inl fo)))] sz) (fun u : va_W => u)) (va_A [(h0, .inr (5, [.ref tl, .ref tr, .ref cu, .ref bk, .int pr])), (ou, .inl (cL, 1, .inr (.inl fo)))] sz)) 1 6 (va_A [(h0, .inr (5, [.ref tl, .ref tr, .ref cu, .ref bk, .int pr])), (ou, .inl (cL, 1, .inr (.inl fo)))] sz) := by
  refine va_MetW (hh := [(0, 8, 11, 19), (0, 8, 14, 13)]) (cc := cL_count) (maxL := 4) (ret := (some .int)) (by decide) rfl ?_
  intro p e s m args below meth c s₁ B hml hv
  obtain ⟨rfl, hsz, hP, hK, hN, hD0, hZ⟩ := hv
  have hx := B.exec
  have hb := B.bytes
  have hr := B.returns
  have hts := atoms_spec (ws := wsL_count) B.pre
  have hown : s.vm.findClass RL = some m.cls := findClass_of_methodNamed B.named
  have hlocks := B.notSynchronized
  subst hsz
  have hD := hD0.self (sz := s.heap.size)
  generalize hAe : va_A [(h0, .inr (5, [.ref tl, .ref tr, .ref cu, .ref bk, .int pr])), (ou, .inl (cL, 1, .inr (.inl fo)))] s.heap.size = A at hD ⊢
  have hA : ∀ q : Nat, s.heap.size ≤ q → A q := fun q h => by rw [← hAe]; exact Or.inr h
  have hS : va_S A s.heap s.heap [] := va_S.rf
  have hl := lv_entry ([.ref h0, .int x, .ref ou]) (n := 4) (Nat.le_of_ble_eq_true rfl)
  rw [lg_entry_eq]
  generalize (lg_sl ([.ref h0, .int x, .ref ou]) ++ List.replicate (4 - (lg_sl ([.ref h0, .int x, .ref ou])).length) Slot.unset).toArray = ls at hl ⊢
  have hl : lv_has ls 4 [(0, .ref h0), (1, .int x), (2, .ref ou)] := hl
  refine lv_aload_n hx hb dL_count_0 rfl (lv_at hl 2 rfl) ?_
  refine lv_iconst (v := 0) hx hb dL_count_1 (by decide) ?_
  refine lv_aload_n hx hb dL_count_2 rfl (lv_at hl 0 rfl) ?_
  refine lv_iload_n hx hb dL_count_3 rfl (lv_at hl 1 rfl) ?_
  refine jx_thr (vx_runV (As := [.int x]) (rest := [.int 0, .ref ou]) ⟨hx, hb, hml, hown, hts⟩ (gJ_count_a l hnt D cI cL cQ h0 tl tr cu bk pr x (by first | assumption | decide | omega)) (cwV 1 hts gL_count_X5_count rfl rfl rfl (by decide +kernel) ⟨Nat.le_of_ble_eq_true rfl, Nat.le_of_ble_eq_true rfl⟩) (jt_V hK hN hZ hP [0] rfl 5 0 rfl rfl rfl) rfl rfl hl.1 rfl (lv_room (Nat.le_of_ble_eq_true rfl)) dL_count_4 ⟨Nat.le_of_ble_eq_true rfl, Nat.le_of_ble_eq_true rfl⟩) (fun ce q9 H1 hz hk hce hcv hcl => ?_)
  have hP : va_P D vwCl [(h0, .inr (5, [.ref tl, .ref tr, .ref cu, .ref bk, .int pr])), (ou, .inl (cL, 1, .inr (.inl fo)))] H1 := hP.kept (fun k x hx => hk x.1 (hP k x hx).lt)
  have hS : va_S A s.heap H1 [] := ⟨hz, fun q h1 _ => hk q h1, fun _ h => nomatch h⟩
  generalize H1 = H at hP hS hce ⊢
  have htab : c.exceptionTable.toList = [⟨0, 8, 11, 19⟩, ⟨0, 8, 14, 13⟩] := vx_table (x := yL_count) B (hts _ List.mem_cons_self)
  refine jc_first (name := "") hown ⟨0, 8, 11, 19⟩ [⟨0, 8, 14, 13⟩] htab (by decide) (by decide) (hts (.classLink RL 19 "java/lang/IllegalArgumentException") (by decide +kernel)) hce hcv hcl ?_
  refine W.eq (g2 := F0 m 11 ls [.ref q9]) rfl ?_
  refine W.widen (k := 1) (n := 6) (by omega) (by omega) ?_
  refine lv_astore_n (lv' := [(3, .ref q9), (0, .ref h0), (1, .int x), (2, .ref ou)]) hx hb dL_count_11 rfl hl (by decide) rfl (fun ls hl => ?_)
  refine lv_iconst (v := 1) hx hb dL_count_12 (by decide) ?_
  refine W.widen (k := 1) (n := 6) (by omega) (by omega) ?_
  exact W.iret (v := 1) hx hb hr (fun t ht hW => ⟨⟨1, [(h0, .inr (5, [.ref tl, .ref tr, .ref cu, .ref bk, .int pr])), (ou, .inl (cL, 1, .inr (.inl fo)))], rfl, (by exact ⟨rfl, rfl⟩), by rw [ht]; exact hP, hD⟩, hS.F ht⟩) hS.2.2 dL_count_13
set_option maxHeartbeats 1000000 in
set_option maxRecDepth 100000 in
theorem kL_count_s (l : Launch) (hnt : l.stackTraces = false) (D : va_G) (cI cL cQ : ClassId) (h0 : Nat) (tl : Nat) (tr : Nat) (cu : Nat) (bk : Nat) (x : Int32) (ou : Nat) (fo : Nat → Int64) (sz : Nat) (h1 : ¬ x < 0) (h2 : ¬ 4 ≤ x) : Met l yL_count wsL_count ({ frames := 8, cells := 1, slots := 6, locals := 123 }) (jh_P D vwCl (jT cI cL cQ) cL cQ [.ref h0, .int x, .ref ou] [(h0, .inr (5, [.ref tl, .ref tr, .ref cu, .ref bk, .int 0])), (ou, .inl (cL, 1, .inr (.inl fo)))] sz) (va_Qi (fun (r : Int32) (u : va_W) => r = 2 ∧ u = [(h0, .inr (5, [.ref tl, .ref tr, .ref cu, .ref bk, .int 0])), (ou, .inl (cL, 1, .inr (.inl fo)))]) (jw_B D vwCl (va_A [(h0, .inr (5, [.ref tl, .ref tr, .ref cu, .ref bk, .int 0])), (ou, .inl (cL, 1, .inr (.inl fo)))] sz) (fun u : va_W => u)) (va_A [(h0, .inr (5, [.ref tl, .ref tr, .ref cu, .ref bk, .int 0])), (ou, .inl (cL, 1, .inr (.inl fo)))] sz)) 1 6 (va_A [(h0, .inr (5, [.ref tl, .ref tr, .ref cu, .ref bk, .int 0])), (ou, .inl (cL, 1, .inr (.inl fo)))] sz) := by
  refine va_MetW (hh := [(0, 8, 11, 19), (0, 8, 14, 13)]) (cc := cL_count) (maxL := 4) (ret := (some .int)) (by decide) rfl ?_
  intro p e s m args below meth c s₁ B hml hv
  obtain ⟨rfl, hsz, hP, hK, hN, hD0, hZ⟩ := hv
  have hx := B.exec
  have hb := B.bytes
  have hr := B.returns
  have hts := atoms_spec (ws := wsL_count) B.pre
  have hown : s.vm.findClass RL = some m.cls := findClass_of_methodNamed B.named
  have hlocks := B.notSynchronized
  subst hsz
  have hD := hD0.self (sz := s.heap.size)
  generalize hAe : va_A [(h0, .inr (5, [.ref tl, .ref tr, .ref cu, .ref bk, .int 0])), (ou, .inl (cL, 1, .inr (.inl fo)))] s.heap.size = A at hD ⊢
  have hA : ∀ q : Nat, s.heap.size ≤ q → A q := fun q h => by rw [← hAe]; exact Or.inr h
  have hS : va_S A s.heap s.heap [] := va_S.rf
  have hl := lv_entry ([.ref h0, .int x, .ref ou]) (n := 4) (Nat.le_of_ble_eq_true rfl)
  rw [lg_entry_eq]
  generalize (lg_sl ([.ref h0, .int x, .ref ou]) ++ List.replicate (4 - (lg_sl ([.ref h0, .int x, .ref ou])).length) Slot.unset).toArray = ls at hl ⊢
  have hl : lv_has ls 4 [(0, .ref h0), (1, .int x), (2, .ref ou)] := hl
  refine lv_aload_n hx hb dL_count_0 rfl (lv_at hl 2 rfl) ?_
  refine lv_iconst (v := 0) hx hb dL_count_1 (by decide) ?_
  refine lv_aload_n hx hb dL_count_2 rfl (lv_at hl 0 rfl) ?_
  refine lv_iload_n hx hb dL_count_3 rfl (lv_at hl 1 rfl) ?_
  refine jx_thr (vx_runV (As := [.int x]) (rest := [.int 0, .ref ou]) ⟨hx, hb, hml, hown, hts⟩ (gJ_count_s l hnt D cI cL cQ h0 tl tr cu bk x (by first | assumption | decide | omega) (by first | assumption | decide | omega)) (cwV 1 hts gL_count_X5_count rfl rfl rfl (by decide +kernel) ⟨Nat.le_of_ble_eq_true rfl, Nat.le_of_ble_eq_true rfl⟩) (jt_V hK hN hZ hP [0] rfl 5 0 rfl rfl rfl) rfl rfl hl.1 rfl (lv_room (Nat.le_of_ble_eq_true rfl)) dL_count_4 ⟨Nat.le_of_ble_eq_true rfl, Nat.le_of_ble_eq_true rfl⟩) (fun ce q9 H1 hz hk hce hcv hcl => ?_)
  have hP : va_P D vwCl [(h0, .inr (5, [.ref tl, .ref tr, .ref cu, .ref bk, .int 0])), (ou, .inl (cL, 1, .inr (.inl fo)))] H1 := hP.kept (fun k x hx => hk x.1 (hP k x hx).lt)
  have hS : va_S A s.heap H1 [] := ⟨hz, fun q h1 _ => hk q h1, fun _ h => nomatch h⟩
  generalize H1 = H at hP hS hce ⊢
  have htab : c.exceptionTable.toList = [⟨0, 8, 11, 19⟩, ⟨0, 8, 14, 13⟩] := vx_table (x := yL_count) B (hts _ List.mem_cons_self)
  refine jc_second hown ⟨0, 8, 11, 19⟩ ⟨0, 8, 14, 13⟩ [] htab (by decide) (by decide) (by decide) (by decide) (hts (.classLink RL 19 "java/lang/IllegalArgumentException") (by decide +kernel)) (hZ.2.2.2.2.2.2.1 _ (by decide +kernel) _ (by decide +kernel) (by decide +kernel)) (hts (.classLink RL 13 "java/lang/IllegalStateException") (by decide +kernel)) hce hcv hcl ?_
  refine W.eq (g2 := F0 m 14 ls [.ref q9]) rfl ?_
  refine W.widen (k := 1) (n := 6) (by omega) (by omega) ?_
  refine lv_astore_n (lv' := [(3, .ref q9), (0, .ref h0), (1, .int x), (2, .ref ou)]) hx hb dL_count_14 rfl hl (by decide) rfl (fun ls hl => ?_)
  refine lv_iconst (v := 2) hx hb dL_count_15 (by decide) ?_
  refine W.widen (k := 1) (n := 6) (by omega) (by omega) ?_
  exact W.iret (v := 2) hx hb hr (fun t ht hW => ⟨⟨2, [(h0, .inr (5, [.ref tl, .ref tr, .ref cu, .ref bk, .int 0])), (ou, .inl (cL, 1, .inr (.inl fo)))], rfl, (by exact ⟨rfl, rfl⟩), by rw [ht]; exact hP, hD⟩, hS.F ht⟩) hS.2.2 dL_count_16
set_option maxHeartbeats 1000000 in
set_option maxRecDepth 100000 in
theorem kL_rows_11 (l : Launch) (hnt : l.stackTraces = false) (D : va_G) (cI cL cQ : ClassId) (h0 : Nat) (tl : Nat) (tr : Nat) (cu : Nat) (bk : Nat) (a : Nat) (n : Nat) (pl : Nat) (lk : Nat) (lv : Nat) (lo : Nat) (lp : Nat) (ll : Nat) (lf : Nat) (gl : Nat → Int32) (ou : Nat) (fo : Nat → Int64) (sz : Nat) (ha : a ≤ 400) (hn : n ≤ a) : Met l yL_rows wsL_rows ({ frames := 2, cells := 0, slots := 0, locals := 45 }) (jh_P D vwCl (jT cI cL cQ) cL cQ [.ref h0, .int 1, .int 1, .ref ou] [(h0, .inr (5, [.ref tl, .ref tr, .ref cu, .ref bk, .int 1])), (tl, .inr (4, [.int (nI a), .ref lk, .ref lv, .ref lo, .ref lp, .ref ll, .ref lf, .int (nI n), .int (nI pl)])), (ll, .inl (cI, a + 1, .inl gl)), (ou, .inl (cL, 1, .inr (.inl fo)))] sz) (va_Qi (fun (r : Int32) (u : va_W) => r = 0 ∧ u = [(h0, .inr (5, [.ref tl, .ref tr, .ref cu, .ref bk, .int 1])), (tl, .inr (4, [.int (nI a), .ref lk, .ref lv, .ref lo, .ref lp, .ref ll, .ref lf, .int (nI n), .int (nI pl)])), (ll, .inl (cI, a + 1, .inl gl)), (ou, .inl (cL, 1, .inr (.inl (vp_updL fo (0 : Int32).toNatClampNeg ((nI n - jsum n gl (nI n)).toInt64)))))]) (jw_B D vwCl (va_A [(h0, .inr (5, [.ref tl, .ref tr, .ref cu, .ref bk, .int 1])), (tl, .inr (4, [.int (nI a), .ref lk, .ref lv, .ref lo, .ref lp, .ref ll, .ref lf, .int (nI n), .int (nI pl)])), (ll, .inl (cI, a + 1, .inl gl)), (ou, .inl (cL, 1, .inr (.inl fo)))] sz) (fun u : va_W => u)) (va_A [(h0, .inr (5, [.ref tl, .ref tr, .ref cu, .ref bk, .int 1])), (tl, .inr (4, [.int (nI a), .ref lk, .ref lv, .ref lo, .ref lp, .ref ll, .ref lf, .int (nI n), .int (nI pl)])), (ll, .inl (cI, a + 1, .inl gl)), (ou, .inl (cL, 1, .inr (.inl fo)))] sz)) 0 0 (va_A [(h0, .inr (5, [.ref tl, .ref tr, .ref cu, .ref bk, .int 1])), (tl, .inr (4, [.int (nI a), .ref lk, .ref lv, .ref lo, .ref lp, .ref ll, .ref lf, .int (nI n), .int (nI pl)])), (ll, .inl (cI, a + 1, .inl gl)), (ou, .inl (cL, 1, .inr (.inl fo)))] sz) := by
  refine va_MetW (hh := [(0, 10, 13, 13)]) (cc := cL_rows) (maxL := 5) (ret := (some .int)) (by decide) rfl ?_
  intro p e s m args below meth c s₁ B hml hv
  obtain ⟨rfl, hsz, hP, hK, hN, hD0, hZ⟩ := hv
  have hx := B.exec
  have hb := B.bytes
  have hr := B.returns
  have hts := atoms_spec (ws := wsL_rows) B.pre
  have hown : s.vm.findClass RL = some m.cls := findClass_of_methodNamed B.named
  have hlocks := B.notSynchronized
  subst hsz
  have hD := hD0.self (sz := s.heap.size)
  generalize hAe : va_A [(h0, .inr (5, [.ref tl, .ref tr, .ref cu, .ref bk, .int 1])), (tl, .inr (4, [.int (nI a), .ref lk, .ref lv, .ref lo, .ref lp, .ref ll, .ref lf, .int (nI n), .int (nI pl)])), (ll, .inl (cI, a + 1, .inl gl)), (ou, .inl (cL, 1, .inr (.inl fo)))] s.heap.size = A at hD ⊢
  have hA : ∀ q : Nat, s.heap.size ≤ q → A q := fun q h => by rw [← hAe]; exact Or.inr h
  have hS : va_S A s.heap s.heap [] := va_S.rf
  have hl := lv_entry ([.ref h0, .int 1, .int 1, .ref ou]) (n := 5) (Nat.le_of_ble_eq_true rfl)
  rw [lg_entry_eq]
  generalize (lg_sl ([.ref h0, .int 1, .int 1, .ref ou]) ++ List.replicate (5 - (lg_sl ([.ref h0, .int 1, .int 1, .ref ou])).length) Slot.unset).toArray = ls at hl ⊢
  have hl : lv_has ls 5 [(0, .ref h0), (1, .int 1), (2, .int 1), (3, .ref ou)] := hl
  refine lv_aload_n hx hb dL_rows_0 rfl (lv_at hl 3 rfl) ?_
  refine lv_iconst (v := 0) hx hb dL_rows_1 (by decide) ?_
  refine lv_aload_n hx hb dL_rows_2 rfl (lv_at hl 0 rfl) ?_
  refine lv_iload_n hx hb dL_rows_3 rfl (lv_at hl 1 rfl) ?_
  refine lv_iload_n hx hb dL_rows_4 rfl (lv_at hl 2 rfl) ?_
  refine vp_callSi (va_Run.run (va_runV (As := [.int 1, .int 1]) (rest := [.int 0, .ref ou]) ⟨hx, hb, hml, hown, hts⟩ (gJ_rows_11 l D cI cL cQ h0 tl tr cu bk a n pl lk lv lo lp ll lf gl (by first | assumption | decide | omega) (by first | assumption | decide | omega)) (cwV 2 hts gL_rows_X5_rows rfl rfl rfl (by decide +kernel) ⟨Nat.le_of_ble_eq_true rfl, Nat.le_of_ble_eq_true rfl⟩) (jr_V hK hN hP [0, 1, 2] rfl 5 0 rfl rfl rfl) rfl rfl hl.1 rfl (lv_room (Nat.le_of_ble_eq_true rfl)) dL_rows_5 ⟨Nat.le_of_ble_eq_true rfl, Nat.le_of_ble_eq_true rfl⟩)) (fun r f_1 => ?_)
  obtain rfl := f_1
  refine lv_i2l (v := (nI n - jsum n gl (nI n)).toInt64) hx hb dL_rows_8 (by first | rfl | decide) ?_
  refine va_last hx hb hK hP hD hS 3 1 rfl rfl (by unfold vp_in; decide) dL_rows_9 (fun H locs hP hD hS => ?_)
  have hP : va_P D vwCl [(h0, .inr (5, [.ref tl, .ref tr, .ref cu, .ref bk, .int 1])), (tl, .inr (4, [.int (nI a), .ref lk, .ref lv, .ref lo, .ref lp, .ref ll, .ref lf, .int (nI n), .int (nI pl)])), (ll, .inl (cI, a + 1, .inl gl)), (ou, .inl (cL, 1, .inr (.inl (vp_updL fo (0 : Int32).toNatClampNeg ((nI n - jsum n gl (nI n)).toInt64)))))] H := hP
  have hD : va_D A [(h0, .inr (5, [.ref tl, .ref tr, .ref cu, .ref bk, .int 1])), (tl, .inr (4, [.int (nI a), .ref lk, .ref lv, .ref lo, .ref lp, .ref ll, .ref lf, .int (nI n), .int (nI pl)])), (ll, .inl (cI, a + 1, .inl gl)), (ou, .inl (cL, 1, .inr (.inl (vp_updL fo (0 : Int32).toNatClampNeg ((nI n - jsum n gl (nI n)).toInt64)))))] := hD
  refine lv_goto (tgt := 17) hx hb dL_rows_10 (by decide) ?_
  refine lv_iconst (v := 0) hx hb dL_rows_17 (by decide) ?_
  refine W.widen (k := 0) (n := 0) (by omega) (by omega) ?_
  exact W.iret (v := 0) hx hb hr (fun t ht hW => ⟨⟨0, [(h0, .inr (5, [.ref tl, .ref tr, .ref cu, .ref bk, .int 1])), (tl, .inr (4, [.int (nI a), .ref lk, .ref lv, .ref lo, .ref lp, .ref ll, .ref lf, .int (nI n), .int (nI pl)])), (ll, .inl (cI, a + 1, .inl gl)), (ou, .inl (cL, 1, .inr (.inl (vp_updL fo (0 : Int32).toNatClampNeg ((nI n - jsum n gl (nI n)).toInt64)))))], rfl, (⟨rfl, rfl⟩), by rw [ht]; exact hP, hD⟩, hS.F ht⟩) hS.2.2 dL_rows_18
set_option maxHeartbeats 1000000 in
set_option maxRecDepth 100000 in
theorem kL_rows_10 (l : Launch) (hnt : l.stackTraces = false) (D : va_G) (cI cL cQ : ClassId) (h0 : Nat) (tl : Nat) (tr : Nat) (cu : Nat) (bk : Nat) (a : Nat) (n : Nat) (pl : Nat) (lk : Nat) (lv : Nat) (lo : Nat) (lp : Nat) (ll : Nat) (lf : Nat) (gl : Nat → Int32) (ou : Nat) (fo : Nat → Int64) (sz : Nat) (ha : a ≤ 400) (hn : n ≤ a) : Met l yL_rows wsL_rows ({ frames := 2, cells := 0, slots := 0, locals := 45 }) (jh_P D vwCl (jT cI cL cQ) cL cQ [.ref h0, .int 1, .int 0, .ref ou] [(h0, .inr (5, [.ref tl, .ref tr, .ref cu, .ref bk, .int 1])), (tl, .inr (4, [.int (nI a), .ref lk, .ref lv, .ref lo, .ref lp, .ref ll, .ref lf, .int (nI n), .int (nI pl)])), (ll, .inl (cI, a + 1, .inl gl)), (ou, .inl (cL, 1, .inr (.inl fo)))] sz) (va_Qi (fun (r : Int32) (u : va_W) => r = 0 ∧ u = [(h0, .inr (5, [.ref tl, .ref tr, .ref cu, .ref bk, .int 1])), (tl, .inr (4, [.int (nI a), .ref lk, .ref lv, .ref lo, .ref lp, .ref ll, .ref lf, .int (nI n), .int (nI pl)])), (ll, .inl (cI, a + 1, .inl gl)), (ou, .inl (cL, 1, .inr (.inl (vp_updL fo (0 : Int32).toNatClampNeg ((jsum n gl (nI n)).toInt64)))))]) (jw_B D vwCl (va_A [(h0, .inr (5, [.ref tl, .ref tr, .ref cu, .ref bk, .int 1])), (tl, .inr (4, [.int (nI a), .ref lk, .ref lv, .ref lo, .ref lp, .ref ll, .ref lf, .int (nI n), .int (nI pl)])), (ll, .inl (cI, a + 1, .inl gl)), (ou, .inl (cL, 1, .inr (.inl fo)))] sz) (fun u : va_W => u)) (va_A [(h0, .inr (5, [.ref tl, .ref tr, .ref cu, .ref bk, .int 1])), (tl, .inr (4, [.int (nI a), .ref lk, .ref lv, .ref lo, .ref lp, .ref ll, .ref lf, .int (nI n), .int (nI pl)])), (ll, .inl (cI, a + 1, .inl gl)), (ou, .inl (cL, 1, .inr (.inl fo)))] sz)) 0 0 (va_A [(h0, .inr (5, [.ref tl, .ref tr, .ref cu, .ref bk, .int 1])), (tl, .inr (4, [.int (nI a), .ref lk, .ref lv, .ref lo, .ref lp, .ref ll, .ref lf, .int (nI n), .int (nI pl)])), (ll, .inl (cI, a + 1, .inl gl)), (ou, .inl (cL, 1, .inr (.inl fo)))] sz) := by
  refine va_MetW (hh := [(0, 10, 13, 13)]) (cc := cL_rows) (maxL := 5) (ret := (some .int)) (by decide) rfl ?_
  intro p e s m args below meth c s₁ B hml hv
  obtain ⟨rfl, hsz, hP, hK, hN, hD0, hZ⟩ := hv
  have hx := B.exec
  have hb := B.bytes
  have hr := B.returns
  have hts := atoms_spec (ws := wsL_rows) B.pre
  have hown : s.vm.findClass RL = some m.cls := findClass_of_methodNamed B.named
  have hlocks := B.notSynchronized
  subst hsz
  have hD := hD0.self (sz := s.heap.size)
  generalize hAe : va_A [(h0, .inr (5, [.ref tl, .ref tr, .ref cu, .ref bk, .int 1])), (tl, .inr (4, [.int (nI a), .ref lk, .ref lv, .ref lo, .ref lp, .ref ll, .ref lf, .int (nI n), .int (nI pl)])), (ll, .inl (cI, a + 1, .inl gl)), (ou, .inl (cL, 1, .inr (.inl fo)))] s.heap.size = A at hD ⊢
  have hA : ∀ q : Nat, s.heap.size ≤ q → A q := fun q h => by rw [← hAe]; exact Or.inr h
  have hS : va_S A s.heap s.heap [] := va_S.rf
  have hl := lv_entry ([.ref h0, .int 1, .int 0, .ref ou]) (n := 5) (Nat.le_of_ble_eq_true rfl)
  rw [lg_entry_eq]
  generalize (lg_sl ([.ref h0, .int 1, .int 0, .ref ou]) ++ List.replicate (5 - (lg_sl ([.ref h0, .int 1, .int 0, .ref ou])).length) Slot.unset).toArray = ls at hl ⊢
  have hl : lv_has ls 5 [(0, .ref h0), (1, .int 1), (2, .int 0), (3, .ref ou)] := hl
  refine lv_aload_n hx hb dL_rows_0 rfl (lv_at hl 3 rfl) ?_
  refine lv_iconst (v := 0) hx hb dL_rows_1 (by decide) ?_
  refine lv_aload_n hx hb dL_rows_2 rfl (lv_at hl 0 rfl) ?_
  refine lv_iload_n hx hb dL_rows_3 rfl (lv_at hl 1 rfl) ?_
  refine lv_iload_n hx hb dL_rows_4 rfl (lv_at hl 2 rfl) ?_
  refine vp_callSi (va_Run.run (va_runV (As := [.int 1, .int 0]) (rest := [.int 0, .ref ou]) ⟨hx, hb, hml, hown, hts⟩ (gJ_rows_10 l D cI cL cQ h0 tl tr cu bk a n pl lk lv lo lp ll lf gl (by first | assumption | decide | omega) (by first | assumption | decide | omega)) (cwV 2 hts gL_rows_X5_rows rfl rfl rfl (by decide +kernel) ⟨Nat.le_of_ble_eq_true rfl, Nat.le_of_ble_eq_true rfl⟩) (jr_V hK hN hP [0, 1, 2] rfl 5 0 rfl rfl rfl) rfl rfl hl.1 rfl (lv_room (Nat.le_of_ble_eq_true rfl)) dL_rows_5 ⟨Nat.le_of_ble_eq_true rfl, Nat.le_of_ble_eq_true rfl⟩)) (fun r f_1 => ?_)
  obtain rfl := f_1
  refine lv_i2l (v := (jsum n gl (nI n)).toInt64) hx hb dL_rows_8 (by first | rfl | decide) ?_
  refine va_last hx hb hK hP hD hS 3 1 rfl rfl (by unfold vp_in; decide) dL_rows_9 (fun H locs hP hD hS => ?_)
  have hP : va_P D vwCl [(h0, .inr (5, [.ref tl, .ref tr, .ref cu, .ref bk, .int 1])), (tl, .inr (4, [.int (nI a), .ref lk, .ref lv, .ref lo, .ref lp, .ref ll, .ref lf, .int (nI n), .int (nI pl)])), (ll, .inl (cI, a + 1, .inl gl)), (ou, .inl (cL, 1, .inr (.inl (vp_updL fo (0 : Int32).toNatClampNeg ((jsum n gl (nI n)).toInt64)))))] H := hP
  have hD : va_D A [(h0, .inr (5, [.ref tl, .ref tr, .ref cu, .ref bk, .int 1])), (tl, .inr (4, [.int (nI a), .ref lk, .ref lv, .ref lo, .ref lp, .ref ll, .ref lf, .int (nI n), .int (nI pl)])), (ll, .inl (cI, a + 1, .inl gl)), (ou, .inl (cL, 1, .inr (.inl (vp_updL fo (0 : Int32).toNatClampNeg ((jsum n gl (nI n)).toInt64)))))] := hD
  refine lv_goto (tgt := 17) hx hb dL_rows_10 (by decide) ?_
  refine lv_iconst (v := 0) hx hb dL_rows_17 (by decide) ?_
  refine W.widen (k := 0) (n := 0) (by omega) (by omega) ?_
  exact W.iret (v := 0) hx hb hr (fun t ht hW => ⟨⟨0, [(h0, .inr (5, [.ref tl, .ref tr, .ref cu, .ref bk, .int 1])), (tl, .inr (4, [.int (nI a), .ref lk, .ref lv, .ref lo, .ref lp, .ref ll, .ref lf, .int (nI n), .int (nI pl)])), (ll, .inl (cI, a + 1, .inl gl)), (ou, .inl (cL, 1, .inr (.inl (vp_updL fo (0 : Int32).toNatClampNeg ((jsum n gl (nI n)).toInt64)))))], rfl, (⟨rfl, rfl⟩), by rw [ht]; exact hP, hD⟩, hS.F ht⟩) hS.2.2 dL_rows_18
set_option maxHeartbeats 1000000 in
set_option maxRecDepth 100000 in
theorem kL_rows_01 (l : Launch) (hnt : l.stackTraces = false) (D : va_G) (cI cL cQ : ClassId) (h0 : Nat) (tl : Nat) (tr : Nat) (cu : Nat) (bk : Nat) (a2 : Nat) (n2 : Nat) (pl2 : Nat) (rk : Nat) (rv : Nat) (ro : Nat) (rp : Nat) (rl : Nat) (rf : Nat) (hl_ : Nat → Int32) (ou : Nat) (fo : Nat → Int64) (sz : Nat) (ha2 : a2 ≤ 400) (hn2 : n2 ≤ a2) : Met l yL_rows wsL_rows ({ frames := 2, cells := 0, slots := 0, locals := 45 }) (jh_P D vwCl (jT cI cL cQ) cL cQ [.ref h0, .int 0, .int 1, .ref ou] [(h0, .inr (5, [.ref tl, .ref tr, .ref cu, .ref bk, .int 1])), (tr, .inr (4, [.int (nI a2), .ref rk, .ref rv, .ref ro, .ref rp, .ref rl, .ref rf, .int (nI n2), .int (nI pl2)])), (rl, .inl (cI, a2 + 1, .inl hl_)), (ou, .inl (cL, 1, .inr (.inl fo)))] sz) (va_Qi (fun (r : Int32) (u : va_W) => r = 0 ∧ u = [(h0, .inr (5, [.ref tl, .ref tr, .ref cu, .ref bk, .int 1])), (tr, .inr (4, [.int (nI a2), .ref rk, .ref rv, .ref ro, .ref rp, .ref rl, .ref rf, .int (nI n2), .int (nI pl2)])), (rl, .inl (cI, a2 + 1, .inl hl_)), (ou, .inl (cL, 1, .inr (.inl (vp_updL fo (0 : Int32).toNatClampNeg ((nI n2 - jsum n2 hl_ (nI n2)).toInt64)))))]) (jw_B D vwCl (va_A [(h0, .inr (5, [.ref tl, .ref tr, .ref cu, .ref bk, .int 1])), (tr, .inr (4, [.int (nI a2), .ref rk, .ref rv, .ref ro, .ref rp, .ref rl, .ref rf, .int (nI n2), .int (nI pl2)])), (rl, .inl (cI, a2 + 1, .inl hl_)), (ou, .inl (cL, 1, .inr (.inl fo)))] sz) (fun u : va_W => u)) (va_A [(h0, .inr (5, [.ref tl, .ref tr, .ref cu, .ref bk, .int 1])), (tr, .inr (4, [.int (nI a2), .ref rk, .ref rv, .ref ro, .ref rp, .ref rl, .ref rf, .int (nI n2), .int (nI pl2)])), (rl, .inl (cI, a2 + 1, .inl hl_)), (ou, .inl (cL, 1, .inr (.inl fo)))] sz)) 0 0 (va_A [(h0, .inr (5, [.ref tl, .ref tr, .ref cu, .ref bk, .int 1])), (tr, .inr (4, [.int (nI a2), .ref rk, .ref rv, .ref ro, .ref rp, .ref rl, .ref rf, .int (nI n2), .int (nI pl2)])), (rl, .inl (cI, a2 + 1, .inl hl_)), (ou, .inl (cL, 1, .inr (.inl fo)))] sz) := by
  refine va_MetW (hh := [(0, 10, 13, 13)]) (cc := cL_rows) (maxL := 5) (ret := (some .int)) (by decide) rfl ?_
  intro p e s m args below meth c s₁ B hml hv
  obtain ⟨rfl, hsz, hP, hK, hN, hD0, hZ⟩ := hv
  have hx := B.exec
  have hb := B.bytes
  have hr := B.returns
  have hts := atoms_spec (ws := wsL_rows) B.pre
  have hown : s.vm.findClass RL = some m.cls := findClass_of_methodNamed B.named
  have hlocks := B.notSynchronized
  subst hsz
  have hD := hD0.self (sz := s.heap.size)
  generalize hAe : va_A [(h0, .inr (5, [.ref tl, .ref tr, .ref cu, .ref bk, .int 1])), (tr, .inr (4, [.int (nI a2), .ref rk, .ref rv, .ref ro, .ref rp, .ref rl, .ref rf, .int (nI n2), .int (nI pl2)])), (rl, .inl (cI, a2 + 1, .inl hl_)), (ou, .inl (cL, 1, .inr (.inl fo)))] s.heap.size = A at hD ⊢
  have hA : ∀ q : Nat, s.heap.size ≤ q → A q := fun q h => by rw [← hAe]; exact Or.inr h
  have hS : va_S A s.heap s.heap [] := va_S.rf
  have hl := lv_entry ([.ref h0, .int 0, .int 1, .ref ou]) (n := 5) (Nat.le_of_ble_eq_true rfl)
  rw [lg_entry_eq]
  generalize (lg_sl ([.ref h0, .int 0, .int 1, .ref ou]) ++ List.replicate (5 - (lg_sl ([.ref h0, .int 0, .int 1, .ref ou])).length) Slot.unset).toArray = ls at hl ⊢
  have hl : lv_has ls 5 [(0, .ref h0), (1, .int 0), (2, .int 1), (3, .ref ou)] := hl
  refine lv_aload_n hx hb dL_rows_0 rfl (lv_at hl 3 rfl) ?_
  refine lv_iconst (v := 0) hx hb dL_rows_1 (by decide) ?_
  refine lv_aload_n hx hb dL_rows_2 rfl (lv_at hl 0 rfl) ?_
  refine lv_iload_n hx hb dL_rows_3 rfl (lv_at hl 1 rfl) ?_
  refine lv_iload_n hx hb dL_rows_4 rfl (lv_at hl 2 rfl) ?_
  refine vp_callSi (va_Run.run (va_runV (As := [.int 0, .int 1]) (rest := [.int 0, .ref ou]) ⟨hx, hb, hml, hown, hts⟩ (gJ_rows_01 l D cI cL cQ h0 tl tr cu bk a2 n2 pl2 rk rv ro rp rl rf hl_ (by first | assumption | decide | omega) (by first | assumption | decide | omega)) (cwV 2 hts gL_rows_X5_rows rfl rfl rfl (by decide +kernel) ⟨Nat.le_of_ble_eq_true rfl, Nat.le_of_ble_eq_true rfl⟩) (jr_V hK hN hP [0, 1, 2] rfl 5 0 rfl rfl rfl) rfl rfl hl.1 rfl (lv_room (Nat.le_of_ble_eq_true rfl)) dL_rows_5 ⟨Nat.le_of_ble_eq_true rfl, Nat.le_of_ble_eq_true rfl⟩)) (fun r f_1 => ?_)
  obtain rfl := f_1
  refine lv_i2l (v := (nI n2 - jsum n2 hl_ (nI n2)).toInt64) hx hb dL_rows_8 (by first | rfl | decide) ?_
  refine va_last hx hb hK hP hD hS 3 1 rfl rfl (by unfold vp_in; decide) dL_rows_9 (fun H locs hP hD hS => ?_)
  have hP : va_P D vwCl [(h0, .inr (5, [.ref tl, .ref tr, .ref cu, .ref bk, .int 1])), (tr, .inr (4, [.int (nI a2), .ref rk, .ref rv, .ref ro, .ref rp, .ref rl, .ref rf, .int (nI n2), .int (nI pl2)])), (rl, .inl (cI, a2 + 1, .inl hl_)), (ou, .inl (cL, 1, .inr (.inl (vp_updL fo (0 : Int32).toNatClampNeg ((nI n2 - jsum n2 hl_ (nI n2)).toInt64)))))] H := hP
  have hD : va_D A [(h0, .inr (5, [.ref tl, .ref tr, .ref cu, .ref bk, .int 1])), (tr, .inr (4, [.int (nI a2), .ref rk, .ref rv, .ref ro, .ref rp, .ref rl, .ref rf, .int (nI n2), .int (nI pl2)])), (rl, .inl (cI, a2 + 1, .inl hl_)), (ou, .inl (cL, 1, .inr (.inl (vp_updL fo (0 : Int32).toNatClampNeg ((nI n2 - jsum n2 hl_ (nI n2)).toInt64)))))] := hD
  refine lv_goto (tgt := 17) hx hb dL_rows_10 (by decide) ?_
  refine lv_iconst (v := 0) hx hb dL_rows_17 (by decide) ?_
  refine W.widen (k := 0) (n := 0) (by omega) (by omega) ?_
  exact W.iret (v := 0) hx hb hr (fun t ht hW => ⟨⟨0, [(h0, .inr (5, [.ref tl, .ref tr, .ref cu, .ref bk, .int 1])), (tr, .inr (4, [.int (nI a2), .ref rk, .ref rv, .ref ro, .ref rp, .ref rl, .ref rf, .int (nI n2), .int (nI pl2)])), (rl, .inl (cI, a2 + 1, .inl hl_)), (ou, .inl (cL, 1, .inr (.inl (vp_updL fo (0 : Int32).toNatClampNeg ((nI n2 - jsum n2 hl_ (nI n2)).toInt64)))))], rfl, (⟨rfl, rfl⟩), by rw [ht]; exact hP, hD⟩, hS.F ht⟩) hS.2.2 dL_rows_18
set_option maxHeartbeats 1000000 in
set_option maxRecDepth 100000 in
theorem kL_rows_00 (l : Launch) (hnt : l.stackTraces = false) (D : va_G) (cI cL cQ : ClassId) (h0 : Nat) (tl : Nat) (tr : Nat) (cu : Nat) (bk : Nat) (a2 : Nat) (n2 : Nat) (pl2 : Nat) (rk : Nat) (rv : Nat) (ro : Nat) (rp : Nat) (rl : Nat) (rf : Nat) (hl_ : Nat → Int32) (ou : Nat) (fo : Nat → Int64) (sz : Nat) (ha2 : a2 ≤ 400) (hn2 : n2 ≤ a2) : Met l yL_rows wsL_rows ({ frames := 2, cells := 0, slots := 0, locals := 45 }) (jh_P D vwCl (jT cI cL cQ) cL cQ [.ref h0, .int 0, .int 0, .ref ou] [(h0, .inr (5, [.ref tl, .ref tr, .ref cu, .ref bk, .int 1])), (tr, .inr (4, [.int (nI a2), .ref rk, .ref rv, .ref ro, .ref rp, .ref rl, .ref rf, .int (nI n2), .int (nI pl2)])), (rl, .inl (cI, a2 + 1, .inl hl_)), (ou, .inl (cL, 1, .inr (.inl fo)))] sz) (va_Qi (fun (r : Int32) (u : va_W) => r = 0 ∧ u = [(h0, .inr (5, [.ref tl, .ref tr, .ref cu, .ref bk, .int 1])), (tr, .inr (4, [.int (nI a2), .ref rk, .ref rv, .ref ro, .ref rp, .ref rl, .ref rf, .int (nI n2), .int (nI pl2)])), (rl, .inl (cI, a2 + 1, .inl hl_)), (ou, .inl (cL, 1, .inr (.inl (vp_updL fo (0 : Int32).toNatClampNeg ((jsum n2 hl_ (nI n2)).toInt64)))))]) (jw_B D vwCl (va_A [(h0, .inr (5, [.ref tl, .ref tr, .ref cu, .ref bk, .int 1])), (tr, .inr (4, [.int (nI a2), .ref rk, .ref rv, .ref ro, .ref rp, .ref rl, .ref rf, .int (nI n2), .int (nI pl2)])), (rl, .inl (cI, a2 + 1, .inl hl_)), (ou, .inl (cL, 1, .inr (.inl fo)))] sz) (fun u : va_W => u)) (va_A [(h0, .inr (5, [.ref tl, .ref tr, .ref cu, .ref bk, .int 1])), (tr, .inr (4, [.int (nI a2), .ref rk, .ref rv, .ref ro, .ref rp, .ref rl, .ref rf, .int (nI n2), .int (nI pl2)])), (rl, .inl (cI, a2 + 1, .inl hl_)), (ou, .inl (cL, 1, .inr (.inl fo)))] sz)) 0 0 (va_A [(h0, .inr (5, [.ref tl, .ref tr, .ref cu, .ref bk, .int 1])), (tr, .inr (4, [.int (nI a2), .ref rk, .ref rv, .ref ro, .ref rp, .ref rl, .ref rf, .int (nI n2), .int (nI pl2)])), (rl, .inl (cI, a2 + 1, .inl hl_)), (ou, .inl (cL, 1, .inr (.inl fo)))] sz) := by
  refine va_MetW (hh := [(0, 10, 13, 13)]) (cc := cL_rows) (maxL := 5) (ret := (some .int)) (by decide) rfl ?_
  intro p e s m args below meth c s₁ B hml hv
  obtain ⟨rfl, hsz, hP, hK, hN, hD0, hZ⟩ := hv
  have hx := B.exec
  have hb := B.bytes
  have hr := B.returns
  have hts := atoms_spec (ws := wsL_rows) B.pre
  have hown : s.vm.findClass RL = some m.cls := findClass_of_methodNamed B.named
  have hlocks := B.notSynchronized
  subst hsz
  have hD := hD0.self (sz := s.heap.size)
  generalize hAe : va_A [(h0, .inr (5, [.ref tl, .ref tr, .ref cu, .ref bk, .int 1])), (tr, .inr (4, [.int (nI a2), .ref rk, .ref rv, .ref ro, .ref rp, .ref rl, .ref rf, .int (nI n2), .int (nI pl2)])), (rl, .inl (cI, a2 + 1, .inl hl_)), (ou, .inl (cL, 1, .inr (.inl fo)))] s.heap.size = A at hD ⊢
  have hA : ∀ q : Nat, s.heap.size ≤ q → A q := fun q h => by rw [← hAe]; exact Or.inr h
  have hS : va_S A s.heap s.heap [] := va_S.rf
  have hl := lv_entry ([.ref h0, .int 0, .int 0, .ref ou]) (n := 5) (Nat.le_of_ble_eq_true rfl)
  rw [lg_entry_eq]
  generalize (lg_sl ([.ref h0, .int 0, .int 0, .ref ou]) ++ List.replicate (5 - (lg_sl ([.ref h0, .int 0, .int 0, .ref ou])).length) Slot.unset).toArray = ls at hl ⊢
  have hl : lv_has ls 5 [(0, .ref h0), (1, .int 0), (2, .int 0), (3, .ref ou)] := hl
  refine lv_aload_n hx hb dL_rows_0 rfl (lv_at hl 3 rfl) ?_
  refine lv_iconst (v := 0) hx hb dL_rows_1 (by decide) ?_
  refine lv_aload_n hx hb dL_rows_2 rfl (lv_at hl 0 rfl) ?_
  refine lv_iload_n hx hb dL_rows_3 rfl (lv_at hl 1 rfl) ?_
  refine lv_iload_n hx hb dL_rows_4 rfl (lv_at hl 2 rfl) ?_
  refine vp_callSi (va_Run.run (va_runV (As := [.int 0, .int 0]) (rest := [.int 0, .ref ou]) ⟨hx, hb, hml, hown, hts⟩ (gJ_rows_00 l D cI cL cQ h0 tl tr cu bk a2 n2 pl2 rk rv ro rp rl rf hl_ (by first | assumption | decide | omega) (by first | assumption | decide | omega)) (cwV 2 hts gL_rows_X5_rows rfl rfl rfl (by decide +kernel) ⟨Nat.le_of_ble_eq_true rfl, Nat.le_of_ble_eq_true rfl⟩) (jr_V hK hN hP [0, 1, 2] rfl 5 0 rfl rfl rfl) rfl rfl hl.1 rfl (lv_room (Nat.le_of_ble_eq_true rfl)) dL_rows_5 ⟨Nat.le_of_ble_eq_true rfl, Nat.le_of_ble_eq_true rfl⟩)) (fun r f_1 => ?_)
  obtain rfl := f_1
  refine lv_i2l (v := (jsum n2 hl_ (nI n2)).toInt64) hx hb dL_rows_8 (by first | rfl | decide) ?_
  refine va_last hx hb hK hP hD hS 3 1 rfl rfl (by unfold vp_in; decide) dL_rows_9 (fun H locs hP hD hS => ?_)
  have hP : va_P D vwCl [(h0, .inr (5, [.ref tl, .ref tr, .ref cu, .ref bk, .int 1])), (tr, .inr (4, [.int (nI a2), .ref rk, .ref rv, .ref ro, .ref rp, .ref rl, .ref rf, .int (nI n2), .int (nI pl2)])), (rl, .inl (cI, a2 + 1, .inl hl_)), (ou, .inl (cL, 1, .inr (.inl (vp_updL fo (0 : Int32).toNatClampNeg ((jsum n2 hl_ (nI n2)).toInt64)))))] H := hP
  have hD : va_D A [(h0, .inr (5, [.ref tl, .ref tr, .ref cu, .ref bk, .int 1])), (tr, .inr (4, [.int (nI a2), .ref rk, .ref rv, .ref ro, .ref rp, .ref rl, .ref rf, .int (nI n2), .int (nI pl2)])), (rl, .inl (cI, a2 + 1, .inl hl_)), (ou, .inl (cL, 1, .inr (.inl (vp_updL fo (0 : Int32).toNatClampNeg ((jsum n2 hl_ (nI n2)).toInt64)))))] := hD
  refine lv_goto (tgt := 17) hx hb dL_rows_10 (by decide) ?_
  refine lv_iconst (v := 0) hx hb dL_rows_17 (by decide) ?_
  refine W.widen (k := 0) (n := 0) (by omega) (by omega) ?_
  exact W.iret (v := 0) hx hb hr (fun t ht hW => ⟨⟨0, [(h0, .inr (5, [.ref tl, .ref tr, .ref cu, .ref bk, .int 1])), (tr, .inr (4, [.int (nI a2), .ref rk, .ref rv, .ref ro, .ref rp, .ref rl, .ref rf, .int (nI n2), .int (nI pl2)])), (rl, .inl (cI, a2 + 1, .inl hl_)), (ou, .inl (cL, 1, .inr (.inl (vp_updL fo (0 : Int32).toNatClampNeg ((jsum n2 hl_ (nI n2)).toInt64)))))], rfl, (⟨rfl, rfl⟩), by rw [ht]; exact hP, hD⟩, hS.F ht⟩) hS.2.2 dL_rows_18
set_option maxHeartbeats 1000000 in
set_option maxRecDepth 100000 in
theorem kL_rows_t (l : Launch) (hnt : l.stackTraces = false) (D : va_G) (cI cL cQ : ClassId) (h0 : Nat) (tl : Nat) (tr : Nat) (cu : Nat) (bk : Nat) (x : Int32) (y : Int32) (ou : Nat) (fo : Nat → Int64) (sz : Nat) : Met l yL_rows wsL_rows ({ frames := 8, cells := 1, slots := 6, locals := 126 }) (jh_P D vwCl (jT cI cL cQ) cL cQ [.ref h0, .int x, .int y, .ref ou] [(h0, .inr (5, [.ref tl, .ref tr, .ref cu, .ref bk, .int 0])), (ou, .inl (cL, 1, .inr (.inl fo)))] sz) (va_Qi (fun (r : Int32) (u : va_W) => r = 1 ∧ u = [(h0, .inr (5, [.ref tl, .ref tr, .ref cu, .ref bk, .int 0])), (ou, .inl (cL, 1, .inr (.inl fo)))]) (jw_B D vwCl (va_A [(h0, .inr (5, [.ref tl, .ref tr, .ref cu, .ref bk, .int 0])), (ou, .inl (cL, 1, .inr (.inl fo)))] sz) (fun u : va_W => u)) (va_A [(h0, .inr (5, [.ref tl, .ref tr, .ref cu, .ref bk, .int 0])), (ou, .inl (cL, 1, .inr (.inl fo)))] sz)) 1 6 (va_A [(h0, .inr (5, [.ref tl, .ref tr, .ref cu, .ref bk, .int 0])), (ou, .inl (cL, 1, .inr (.inl fo)))] sz) := by
  refine va_MetW (hh := [(0, 10, 13, 13)]) (cc := cL_rows) (maxL := 5) (ret := (some .int)) (by decide) rfl ?_
  intro p e s m args below meth c s₁ B hml hv
  obtain ⟨rfl, hsz, hP, hK, hN, hD0, hZ⟩ := hv
  have hx := B.exec
  have hb := B.bytes
  have hr := B.returns
  have hts := atoms_spec (ws := wsL_rows) B.pre
  have hown : s.vm.findClass RL = some m.cls := findClass_of_methodNamed B.named
  have hlocks := B.notSynchronized
  subst hsz
  have hD := hD0.self (sz := s.heap.size)
  generalize hAe : va_A [(h0, .inr (5, [.ref tl, .ref tr, .ref cu, .ref bk, .int 0])), (ou, .inl (cL, 1, .inr (.inl fo)))] s.heap.size = A at hD ⊢
  have hA : ∀ q : Nat, s.heap.size ≤ q → A q := fun q h => by rw [← hAe]; exact Or.inr h
  have hS : va_S A s.heap s.heap [] := va_S.rf
  have hl := lv_entry ([.ref h0, .int x, .int y, .ref ou]) (n := 5) (Nat.le_of_ble_eq_true rfl)
  rw [lg_entry_eq]
  generalize (lg_sl ([.ref h0, .int x, .int y, .ref ou]) ++ List.replicate (5 - (lg_sl ([.ref h0, .int x, .int y, .ref ou])).length) Slot.unset).toArray = ls at hl ⊢
  have hl : lv_has ls 5 [(0, .ref h0), (1, .int x), (2, .int y), (3, .ref ou)] := hl
  refine lv_aload_n hx hb dL_rows_0 rfl (lv_at hl 3 rfl) ?_
  refine lv_iconst (v := 0) hx hb dL_rows_1 (by decide) ?_
  refine lv_aload_n hx hb dL_rows_2 rfl (lv_at hl 0 rfl) ?_
  refine lv_iload_n hx hb dL_rows_3 rfl (lv_at hl 1 rfl) ?_
  refine lv_iload_n hx hb dL_rows_4 rfl (lv_at hl 2 rfl) ?_
  refine jx_thr (vx_runV (As := [.int x, .int y]) (rest := [.int 0, .ref ou]) ⟨hx, hb, hml, hown, hts⟩ (gJ_rows_t l hnt D cI cL cQ h0 tl tr cu bk x y) (cwV 2 hts gL_rows_X5_rows rfl rfl rfl (by decide +kernel) ⟨Nat.le_of_ble_eq_true rfl, Nat.le_of_ble_eq_true rfl⟩) (jt_V hK hN hZ hP [0] rfl 5 0 rfl rfl rfl) rfl rfl hl.1 rfl (lv_room (Nat.le_of_ble_eq_true rfl)) dL_rows_5 ⟨Nat.le_of_ble_eq_true rfl, Nat.le_of_ble_eq_true rfl⟩) (fun ce q9 H1 hz hk hce hcv hcl => ?_)
  have hP : va_P D vwCl [(h0, .inr (5, [.ref tl, .ref tr, .ref cu, .ref bk, .int 0])), (ou, .inl (cL, 1, .inr (.inl fo)))] H1 := hP.kept (fun k x hx => hk x.1 (hP k x hx).lt)
  have hS : va_S A s.heap H1 [] := ⟨hz, fun q h1 _ => hk q h1, fun _ h => nomatch h⟩
  generalize H1 = H at hP hS hce ⊢
  have htab : c.exceptionTable.toList = [⟨0, 10, 13, 13⟩] := vx_table (x := yL_rows) B (hts _ List.mem_cons_self)
  refine jc_first (name := "") hown ⟨0, 10, 13, 13⟩ [] htab (by decide) (by decide) (hts (.classLink RL 13 "java/lang/IllegalStateException") (by decide +kernel)) hce hcv hcl ?_
  refine W.eq (g2 := F0 m 13 ls [.ref q9]) rfl ?_
  refine W.widen (k := 1) (n := 6) (by omega) (by omega) ?_
  refine lv_astore (lv' := [(4, .ref q9), (0, .ref h0), (1, .int x), (2, .int y), (3, .ref ou)]) hx hb dL_rows_13 hl (by decide) rfl (fun ls hl => ?_)
  refine lv_iconst (v := 1) hx hb dL_rows_15 (by decide) ?_
  refine W.widen (k := 1) (n := 6) (by omega) (by omega) ?_
  exact W.iret (v := 1) hx hb hr (fun t ht hW => ⟨⟨1, [(h0, .inr (5, [.ref tl, .ref tr, .ref cu, .ref bk, .int 0])), (ou, .inl (cL, 1, .inr (.inl fo)))], rfl, (by exact ⟨rfl, rfl⟩), by rw [ht]; exact hP, hD⟩, hS.F ht⟩) hS.2.2 dL_rows_16
set_option maxHeartbeats 1000000 in
set_option maxRecDepth 100000 in
theorem kL_groups (l : Launch) (hnt : l.stackTraces = false) (D : va_G) (cI cL cQ : ClassId) (h0 : Nat) (tl : Nat) (tr : Nat) (cu : Nat) (bk : Nat) (a : Nat) (n : Nat) (pl : Nat) (a2 : Nat) (n2 : Nat) (pl2 : Nat) (lk : Nat) (lv : Nat) (lo : Nat) (lp : Nat) (ll : Nat) (lf : Nat) (rk : Nat) (rv : Nat) (ro : Nat) (rp : Nat) (rl : Nat) (rf : Nat) (gk : Nat → Int32) (gv : Nat → Int32) (go : Nat → Int32) (gp : Nat → Int32) (gf : Nat → Int32) (hk : Nat → Int32) (hv : Nat → Int32) (ho_ : Nat → Int32) (g : Nat) (fa : Nat) (s1 : Nat) (s2 : Nat) (gs : Nat) (gt : Int32) (sz1 : Int32) (sz2 : Int32) (sa1 : Int64) (sb1 : Int64) (sc1 : Int64) (sa2 : Int64) (sb2 : Int64) (sc2 : Int64) (e0 : Nat → Int64) (e1 : Nat → Int64) (e2 : Nat → Int64) (e3 : Nat → Int64) (e4 : Nat → Int64) (K1 : Nat → Int32) (V1 : Nat → Int32) (K2 : Nat → Int32) (V2 : Nat → Int32) (ou : Nat) (fo : Nat → Int64) (sz : Nat) (ha : a ≤ 400) (hn : n ≤ a) (hol : jord a go) (ha2 : a2 ≤ 400) (hn2 : n2 ≤ a2) (hor : jord a2 ho_) (hg : g ≤ 400) (hfl : ∀ j, ∃ k, k ≤ 400 ∧ gf j = nI k) (hq : jgs n gk go gp n ≤ g) (hk1 : ∀ i, i < n → jat n gk go (nI i) = K1 i) (hv1 : ∀ i, i < n → jat n gv go (nI i) = V1 i) (hk2 : ∀ i, i < n2 → jat n2 hk ho_ (nI i) = K2 i) (hv2 : ∀ i, i < n2 → jat n2 hv ho_ (nI i) = V2 i) (hw1 : jMo n K1) (hw2 : jMo n2 K2) (hp : ∀ k, k ≤ n → gp k = nI (jPS n2 K1 K2 k)) (hf : ∀ k, k < n → ∃ z, gf k = nI z ∧ jLb n2 K2 (K1 k) z) : Met l yL_groups wsL_groups ({ frames := 5, cells := 0, slots := 0, locals := 111 }) (jh_P D vwCl (jT cI cL cQ) cL cQ [.ref h0, .ref ou] [(h0, .inr (5, [.ref tl, .ref tr, .ref cu, .ref bk, .int 1])), (bk, .inr (1, [.int (nI g), .ref fa, .ref s1, .ref s2, .int (nI gs), .int gt])), (s1, .inr (3, [.int sz1, .long sa1, .long sb1, .long sc1])), (s2, .inr (3, [.int sz2, .long sa2, .long sb2, .long sc2])), (fa, .inl (cQ, 5, .inr (.inr (.inr (.inr (fun j => if j < 5 then some (fa + 1 + j) else none)))))), (fa + 1, .inl (cL, g, .inr (.inl e0))), (fa + 2, .inl (cL, g, .inr (.inl e1))), (fa + 3, .inl (cL, g, .inr (.inl e2))), (fa + 4, .inl (cL, g, .inr (.inl e3))), (fa + 5, .inl (cL, g, .inr (.inl e4))), (tl, .inr (4, [.int (nI a), .ref lk, .ref lv, .ref lo, .ref lp, .ref ll, .ref lf, .int (nI n), .int (nI pl)])), (lk, .inl (cI, a, .inl gk)), (lv, .inl (cI, a, .inl gv)), (lo, .inl (cI, a, .inl go)), (lp, .inl (cI, a + 1, .inl gp)), (lf, .inl (cI, a, .inl gf)), (tr, .inr (4, [.int (nI a2), .ref rk, .ref rv, .ref ro, .ref rp, .ref rl, .ref rf, .int (nI n2), .int (nI pl2)])), (rk, .inl (cI, a2, .inl hk)), (rv, .inl (cI, a2, .inl hv)), (ro, .inl (cI, a2, .inl ho_)), (ou, .inl (cL, 1, .inr (.inl fo)))] sz) (va_Qi (fun (r : Int32) (u : va_W) => ∃ (xz1 : Int32) (xz2 : Int32) (xa1 : Int64) (xb1 : Int64) (xc1 : Int64) (xa2 : Int64) (xb2 : Int64) (xc2 : Int64) (x0 : Nat → Int64) (x1 : Nat → Int64) (x2 : Nat → Int64) (x3 : Nat → Int64) (x4 : Nat → Int64), r = 0 ∧ u = [(h0, .inr (5, [.ref tl, .ref tr, .ref cu, .ref bk, .int 1])), (bk, .inr (1, [.int (nI g), .ref fa, .ref s1, .ref s2, .int (nI (jgs n gk go gp n)), .int 1])), (s1, .inr (3, [.int xz1, .long xa1, .long xb1, .long xc1])), (s2, .inr (3, [.int xz2, .long xa2, .long xb2, .long xc2])), (fa, .inl (cQ, 5, .inr (.inr (.inr (.inr (fun j => if j < 5 then some (fa + 1 + j) else none)))))), (fa + 1, .inl (cL, g, .inr (.inl x0))), (fa + 2, .inl (cL, g, .inr (.inl x1))), (fa + 3, .inl (cL, g, .inr (.inl x2))), (fa + 4, .inl (cL, g, .inr (.inl x3))), (fa + 5, .inl (cL, g, .inr (.inl x4))), (tl, .inr (4, [.int (nI a), .ref lk, .ref lv, .ref lo, .ref lp, .ref ll, .ref lf, .int (nI n), .int (nI pl)])), (lk, .inl (cI, a, .inl gk)), (lv, .inl (cI, a, .inl gv)), (lo, .inl (cI, a, .inl go)), (lp, .inl (cI, a + 1, .inl gp)), (lf, .inl (cI, a, .inl gf)), (tr, .inr (4, [.int (nI a2), .ref rk, .ref rv, .ref ro, .ref rp, .ref rl, .ref rf, .int (nI n2), .int (nI pl2)])), (rk, .inl (cI, a2, .inl hk)), (rv, .inl (cI, a2, .inl hv)), (ro, .inl (cI, a2, .inl ho_)), (ou, .inl (cL, 1, .inr (.inl (vp_updL fo (0 : Int32).toNatClampNeg ((nI (jgs n gk go gp n)).toInt64)))))] ∧ (jBk n n2 K1 V1 K2 V2 x0 x1 x2 x3 x4 n)) (jw_B D vwCl (va_A [(h0, .inr (5, [.ref tl, .ref tr, .ref cu, .ref bk, .int 1])), (bk, .inr (1, [.int (nI g), .ref fa, .ref s1, .ref s2, .int (nI gs), .int gt])), (s1, .inr (3, [.int sz1, .long sa1, .long sb1, .long sc1])), (s2, .inr (3, [.int sz2, .long sa2, .long sb2, .long sc2])), (fa, .inl (cQ, 5, .inr (.inr (.inr (.inr (fun j => if j < 5 then some (fa + 1 + j) else none)))))), (fa + 1, .inl (cL, g, .inr (.inl e0))), (fa + 2, .inl (cL, g, .inr (.inl e1))), (fa + 3, .inl (cL, g, .inr (.inl e2))), (fa + 4, .inl (cL, g, .inr (.inl e3))), (fa + 5, .inl (cL, g, .inr (.inl e4))), (tl, .inr (4, [.int (nI a), .ref lk, .ref lv, .ref lo, .ref lp, .ref ll, .ref lf, .int (nI n), .int (nI pl)])), (lk, .inl (cI, a, .inl gk)), (lv, .inl (cI, a, .inl gv)), (lo, .inl (cI, a, .inl go)), (lp, .inl (cI, a + 1, .inl gp)), (lf, .inl (cI, a, .inl gf)), (tr, .inr (4, [.int (nI a2), .ref rk, .ref rv, .ref ro, .ref rp, .ref rl, .ref rf, .int (nI n2), .int (nI pl2)])), (rk, .inl (cI, a2, .inl hk)), (rv, .inl (cI, a2, .inl hv)), (ro, .inl (cI, a2, .inl ho_)), (ou, .inl (cL, 1, .inr (.inl fo)))] sz) (fun u : va_W => u)) (va_A [(h0, .inr (5, [.ref tl, .ref tr, .ref cu, .ref bk, .int 1])), (bk, .inr (1, [.int (nI g), .ref fa, .ref s1, .ref s2, .int (nI gs), .int gt])), (s1, .inr (3, [.int sz1, .long sa1, .long sb1, .long sc1])), (s2, .inr (3, [.int sz2, .long sa2, .long sb2, .long sc2])), (fa, .inl (cQ, 5, .inr (.inr (.inr (.inr (fun j => if j < 5 then some (fa + 1 + j) else none)))))), (fa + 1, .inl (cL, g, .inr (.inl e0))), (fa + 2, .inl (cL, g, .inr (.inl e1))), (fa + 3, .inl (cL, g, .inr (.inl e2))), (fa + 4, .inl (cL, g, .inr (.inl e3))), (fa + 5, .inl (cL, g, .inr (.inl e4))), (tl, .inr (4, [.int (nI a), .ref lk, .ref lv, .ref lo, .ref lp, .ref ll, .ref lf, .int (nI n), .int (nI pl)])), (lk, .inl (cI, a, .inl gk)), (lv, .inl (cI, a, .inl gv)), (lo, .inl (cI, a, .inl go)), (lp, .inl (cI, a + 1, .inl gp)), (lf, .inl (cI, a, .inl gf)), (tr, .inr (4, [.int (nI a2), .ref rk, .ref rv, .ref ro, .ref rp, .ref rl, .ref rf, .int (nI n2), .int (nI pl2)])), (rk, .inl (cI, a2, .inl hk)), (rv, .inl (cI, a2, .inl hv)), (ro, .inl (cI, a2, .inl ho_)), (ou, .inl (cL, 1, .inr (.inl fo)))] sz)) 0 0 (va_A [(h0, .inr (5, [.ref tl, .ref tr, .ref cu, .ref bk, .int 1])), (bk, .inr (1, [.int (nI g), .ref fa, .ref s1, .ref s2, .int (nI gs), .int gt])), (s1, .inr (3, [.int sz1, .long sa1, .long sb1, .long sc1])), (s2, .inr (3, [.int sz2, .long sa2, .long sb2, .long sc2])), (fa, .inl (cQ, 5, .inr (.inr (.inr (.inr (fun j => if j < 5 then some (fa + 1 + j) else none)))))), (fa + 1, .inl (cL, g, .inr (.inl e0))), (fa + 2, .inl (cL, g, .inr (.inl e1))), (fa + 3, .inl (cL, g, .inr (.inl e2))), (fa + 4, .inl (cL, g, .inr (.inl e3))), (fa + 5, .inl (cL, g, .inr (.inl e4))), (tl, .inr (4, [.int (nI a), .ref lk, .ref lv, .ref lo, .ref lp, .ref ll, .ref lf, .int (nI n), .int (nI pl)])), (lk, .inl (cI, a, .inl gk)), (lv, .inl (cI, a, .inl gv)), (lo, .inl (cI, a, .inl go)), (lp, .inl (cI, a + 1, .inl gp)), (lf, .inl (cI, a, .inl gf)), (tr, .inr (4, [.int (nI a2), .ref rk, .ref rv, .ref ro, .ref rp, .ref rl, .ref rf, .int (nI n2), .int (nI pl2)])), (rk, .inl (cI, a2, .inl hk)), (rv, .inl (cI, a2, .inl hv)), (ro, .inl (cI, a2, .inl ho_)), (ou, .inl (cL, 1, .inr (.inl fo)))] sz) := by
  refine va_MetW (hh := [(0, 8, 11, 13), (0, 8, 14, 54)]) (cc := cL_groups) (maxL := 3) (ret := (some .int)) (by decide) rfl ?_
  intro p e s m args below meth c s₁ B hml hv
  obtain ⟨rfl, hsz, hP, hK, hN, hD0, hZ⟩ := hv
  have hx := B.exec
  have hb := B.bytes
  have hr := B.returns
  have hts := atoms_spec (ws := wsL_groups) B.pre
  have hown : s.vm.findClass RL = some m.cls := findClass_of_methodNamed B.named
  have hlocks := B.notSynchronized
  subst hsz
  have hD := hD0.self (sz := s.heap.size)
  generalize hAe : va_A [(h0, .inr (5, [.ref tl, .ref tr, .ref cu, .ref bk, .int 1])), (bk, .inr (1, [.int (nI g), .ref fa, .ref s1, .ref s2, .int (nI gs), .int gt])), (s1, .inr (3, [.int sz1, .long sa1, .long sb1, .long sc1])), (s2, .inr (3, [.int sz2, .long sa2, .long sb2, .long sc2])), (fa, .inl (cQ, 5, .inr (.inr (.inr (.inr (fun j => if j < 5 then some (fa + 1 + j) else none)))))), (fa + 1, .inl (cL, g, .inr (.inl e0))), (fa + 2, .inl (cL, g, .inr (.inl e1))), (fa + 3, .inl (cL, g, .inr (.inl e2))), (fa + 4, .inl (cL, g, .inr (.inl e3))), (fa + 5, .inl (cL, g, .inr (.inl e4))), (tl, .inr (4, [.int (nI a), .ref lk, .ref lv, .ref lo, .ref lp, .ref ll, .ref lf, .int (nI n), .int (nI pl)])), (lk, .inl (cI, a, .inl gk)), (lv, .inl (cI, a, .inl gv)), (lo, .inl (cI, a, .inl go)), (lp, .inl (cI, a + 1, .inl gp)), (lf, .inl (cI, a, .inl gf)), (tr, .inr (4, [.int (nI a2), .ref rk, .ref rv, .ref ro, .ref rp, .ref rl, .ref rf, .int (nI n2), .int (nI pl2)])), (rk, .inl (cI, a2, .inl hk)), (rv, .inl (cI, a2, .inl hv)), (ro, .inl (cI, a2, .inl ho_)), (ou, .inl (cL, 1, .inr (.inl fo)))] s.heap.size = A at hD ⊢
  have hA : ∀ q : Nat, s.heap.size ≤ q → A q := fun q h => by rw [← hAe]; exact Or.inr h
  have hS : va_S A s.heap s.heap [] := va_S.rf
  have hl := lv_entry ([.ref h0, .ref ou]) (n := 3) (Nat.le_of_ble_eq_true rfl)
  rw [lg_entry_eq]
  generalize (lg_sl ([.ref h0, .ref ou]) ++ List.replicate (3 - (lg_sl ([.ref h0, .ref ou])).length) Slot.unset).toArray = ls at hl ⊢
  have hl : lv_has ls 3 [(0, .ref h0), (1, .ref ou)] := hl
  refine lv_aload_n hx hb dL_groups_0 rfl (lv_at hl 1 rfl) ?_
  refine lv_iconst (v := 0) hx hb dL_groups_1 (by decide) ?_
  refine lv_aload_n hx hb dL_groups_2 rfl (lv_at hl 0 rfl) ?_
  refine jw_i (wr := [(ou, .inl (cL, 1, .inr (.inl fo)))]) (va_runV (As := []) (rest := [.int 0, .ref ou]) ⟨hx, hb, hml, hown, hts⟩ (gJ_groups l D cI cL cQ h0 tl tr cu bk a n pl a2 n2 pl2 lk lv lo lp ll lf rk rv ro rp rl rf gk gv go gp gf hk hv ho_ g fa s1 s2 gs gt sz1 sz2 sa1 sb1 sc1 sa2 sb2 sc2 e0 e1 e2 e3 e4 K1 V1 K2 V2 _ (by first | assumption | decide | omega) (by first | assumption | decide | omega) (by first | assumption | decide | omega) (by first | assumption | decide | omega) (by first | assumption | decide | omega) (by first | assumption | decide | omega) (by first | assumption | decide | omega) (by first | assumption | decide | omega) (by first | assumption | decide | omega) (by first | assumption | decide | omega) (by first | assumption | decide | omega) (by first | assumption | decide | omega) (by first | assumption | decide | omega) (by first | assumption | decide | omega) (by first | assumption | decide | omega) (by first | assumption | decide | omega) (by first | assumption | decide | omega)) (cwV 0 hts gL_groups_X5_groups rfl rfl rfl (by decide +kernel) ⟨Nat.le_of_ble_eq_true rfl, Nat.le_of_ble_eq_true rfl⟩) (jw_V hK hN hP hD [0, 1, 2, 3, 4, 5, 6, 7, 8, 9, 10, 11, 12, 13, 14, 15, 16, 17, 18, 19] (by decide) rfl 5 0 rfl rfl rfl) rfl rfl hl.1 rfl (lv_room (Nat.le_of_ble_eq_true rfl)) dL_groups_3 ⟨Nat.le_of_ble_eq_true rfl, Nat.le_of_ble_eq_true rfl⟩) hP hD hS hA [0, 1, 2, 3, 4, 5, 6, 7, 8, 9, 10, 11, 12, 13, 14, 15, 16, 17, 18, 19] [20] rfl rfl (by decide) (by decide) (fun r u H locs f_1 hP hD hS => ?_)
  obtain ⟨xz1, xz2, xa1, xb1, xc1, xa2, xb2, xc2, x0, x1, x2, x3, x4, rfl, rfl, f_2⟩ := f_1
  have hP : va_P D vwCl [(ou, .inl (cL, 1, .inr (.inl fo))), (h0, .inr (5, [.ref tl, .ref tr, .ref cu, .ref bk, .int 1])), (bk, .inr (1, [.int (nI g), .ref fa, .ref s1, .ref s2, .int (nI (jgs n gk go gp n)), .int 1])), (s1, .inr (3, [.int xz1, .long xa1, .long xb1, .long xc1])), (s2, .inr (3, [.int xz2, .long xa2, .long xb2, .long xc2])), (fa, .inl (cQ, 5, .inr (.inr (.inr (.inr (fun j => if j < 5 then some (fa + 1 + j) else none)))))), (fa + 1, .inl (cL, g, .inr (.inl x0))), (fa + 2, .inl (cL, g, .inr (.inl x1))), (fa + 3, .inl (cL, g, .inr (.inl x2))), (fa + 4, .inl (cL, g, .inr (.inl x3))), (fa + 5, .inl (cL, g, .inr (.inl x4))), (tl, .inr (4, [.int (nI a), .ref lk, .ref lv, .ref lo, .ref lp, .ref ll, .ref lf, .int (nI n), .int (nI pl)])), (lk, .inl (cI, a, .inl gk)), (lv, .inl (cI, a, .inl gv)), (lo, .inl (cI, a, .inl go)), (lp, .inl (cI, a + 1, .inl gp)), (lf, .inl (cI, a, .inl gf)), (tr, .inr (4, [.int (nI a2), .ref rk, .ref rv, .ref ro, .ref rp, .ref rl, .ref rf, .int (nI n2), .int (nI pl2)])), (rk, .inl (cI, a2, .inl hk)), (rv, .inl (cI, a2, .inl hv)), (ro, .inl (cI, a2, .inl ho_))] H := hP
  have hD : va_D A [(ou, .inl (cL, 1, .inr (.inl fo))), (h0, .inr (5, [.ref tl, .ref tr, .ref cu, .ref bk, .int 1])), (bk, .inr (1, [.int (nI g), .ref fa, .ref s1, .ref s2, .int (nI (jgs n gk go gp n)), .int 1])), (s1, .inr (3, [.int xz1, .long xa1, .long xb1, .long xc1])), (s2, .inr (3, [.int xz2, .long xa2, .long xb2, .long xc2])), (fa, .inl (cQ, 5, .inr (.inr (.inr (.inr (fun j => if j < 5 then some (fa + 1 + j) else none)))))), (fa + 1, .inl (cL, g, .inr (.inl x0))), (fa + 2, .inl (cL, g, .inr (.inl x1))), (fa + 3, .inl (cL, g, .inr (.inl x2))), (fa + 4, .inl (cL, g, .inr (.inl x3))), (fa + 5, .inl (cL, g, .inr (.inl x4))), (tl, .inr (4, [.int (nI a), .ref lk, .ref lv, .ref lo, .ref lp, .ref ll, .ref lf, .int (nI n), .int (nI pl)])), (lk, .inl (cI, a, .inl gk)), (lv, .inl (cI, a, .inl gv)), (lo, .inl (cI, a, .inl go)), (lp, .inl (cI, a + 1, .inl gp)), (lf, .inl (cI, a, .inl gf)), (tr, .inr (4, [.int (nI a2), .ref rk, .ref rv, .ref ro, .ref rp, .ref rl, .ref rf, .int (nI n2), .int (nI pl2)])), (rk, .inl (cI, a2, .inl hk)), (rv, .inl (cI, a2, .inl hv)), (ro, .inl (cI, a2, .inl ho_))] := hD
  refine lv_i2l (v := (nI (jgs n gk go gp n)).toInt64) hx hb dL_groups_6 (by first | rfl | decide) ?_
  refine va_last hx hb hK hP hD hS 0 1 rfl rfl (by unfold vp_in; decide) dL_groups_7 (fun H locs hP hD hS => ?_)
  have hP : va_P D vwCl [(ou, .inl (cL, 1, .inr (.inl (vp_updL fo (0 : Int32).toNatClampNeg ((nI (jgs n gk go gp n)).toInt64))))), (h0, .inr (5, [.ref tl, .ref tr, .ref cu, .ref bk, .int 1])), (bk, .inr (1, [.int (nI g), .ref fa, .ref s1, .ref s2, .int (nI (jgs n gk go gp n)), .int 1])), (s1, .inr (3, [.int xz1, .long xa1, .long xb1, .long xc1])), (s2, .inr (3, [.int xz2, .long xa2, .long xb2, .long xc2])), (fa, .inl (cQ, 5, .inr (.inr (.inr (.inr (fun j => if j < 5 then some (fa + 1 + j) else none)))))), (fa + 1, .inl (cL, g, .inr (.inl x0))), (fa + 2, .inl (cL, g, .inr (.inl x1))), (fa + 3, .inl (cL, g, .inr (.inl x2))), (fa + 4, .inl (cL, g, .inr (.inl x3))), (fa + 5, .inl (cL, g, .inr (.inl x4))), (tl, .inr (4, [.int (nI a), .ref lk, .ref lv, .ref lo, .ref lp, .ref ll, .ref lf, .int (nI n), .int (nI pl)])), (lk, .inl (cI, a, .inl gk)), (lv, .inl (cI, a, .inl gv)), (lo, .inl (cI, a, .inl go)), (lp, .inl (cI, a + 1, .inl gp)), (lf, .inl (cI, a, .inl gf)), (tr, .inr (4, [.int (nI a2), .ref rk, .ref rv, .ref ro, .ref rp, .ref rl, .ref rf, .int (nI n2), .int (nI pl2)])), (rk, .inl (cI, a2, .inl hk)), (rv, .inl (cI, a2, .inl hv)), (ro, .inl (cI, a2, .inl ho_))] H := hP
  have hD : va_D A [(ou, .inl (cL, 1, .inr (.inl (vp_updL fo (0 : Int32).toNatClampNeg ((nI (jgs n gk go gp n)).toInt64))))), (h0, .inr (5, [.ref tl, .ref tr, .ref cu, .ref bk, .int 1])), (bk, .inr (1, [.int (nI g), .ref fa, .ref s1, .ref s2, .int (nI (jgs n gk go gp n)), .int 1])), (s1, .inr (3, [.int xz1, .long xa1, .long xb1, .long xc1])), (s2, .inr (3, [.int xz2, .long xa2, .long xb2, .long xc2])), (fa, .inl (cQ, 5, .inr (.inr (.inr (.inr (fun j => if j < 5 then some (fa + 1 + j) else none)))))), (fa + 1, .inl (cL, g, .inr (.inl x0))), (fa + 2, .inl (cL, g, .inr (.inl x1))), (fa + 3, .inl (cL, g, .inr (.inl x2))), (fa + 4, .inl (cL, g, .inr (.inl x3))), (fa + 5, .inl (cL, g, .inr (.inl x4))), (tl, .inr (4, [.int (nI a), .ref lk, .ref lv, .ref lo, .ref lp, .ref ll, .ref lf, .int (nI n), .int (nI pl)])), (lk, .inl (cI, a, .inl gk)), (lv, .inl (cI, a, .inl gv)), (lo, .inl (cI, a, .inl go)), (lp, .inl (cI, a + 1, .inl gp)), (lf, .inl (cI, a, .inl gf)), (tr, .inr (4, [.int (nI a2), .ref rk, .ref rv, .ref ro, .ref rp, .ref rl, .ref rf, .int (nI n2), .int (nI pl2)])), (rk, .inl (cI, a2, .inl hk)), (rv, .inl (cI, a2, .inl hv)), (ro, .inl (cI, a2, .inl ho_))] := hD
  refine lv_goto (tgt := 17) hx hb dL_groups_8 (by decide) ?_
  refine lv_iconst (v := 0) hx hb dL_groups_17 (by decide) ?_
  have hP := hP.sub (ws' := [(h0, .inr (5, [.ref tl, .ref tr, .ref cu, .ref bk, .int 1])), (bk, .inr (1, [.int (nI g), .ref fa, .ref s1, .ref s2, .int (nI (jgs n gk go gp n)), .int 1])), (s1, .inr (3, [.int xz1, .long xa1, .long xb1, .long xc1])), (s2, .inr (3, [.int xz2, .long xa2, .long xb2, .long xc2])), (fa, .inl (cQ, 5, .inr (.inr (.inr (.inr (fun j => if j < 5 then some (fa + 1 + j) else none)))))), (fa + 1, .inl (cL, g, .inr (.inl x0))), (fa + 2, .inl (cL, g, .inr (.inl x1))), (fa + 3, .inl (cL, g, .inr (.inl x2))), (fa + 4, .inl (cL, g, .inr (.inl x3))), (fa + 5, .inl (cL, g, .inr (.inl x4))), (tl, .inr (4, [.int (nI a), .ref lk, .ref lv, .ref lo, .ref lp, .ref ll, .ref lf, .int (nI n), .int (nI pl)])), (lk, .inl (cI, a, .inl gk)), (lv, .inl (cI, a, .inl gv)), (lo, .inl (cI, a, .inl go)), (lp, .inl (cI, a + 1, .inl gp)), (lf, .inl (cI, a, .inl gf)), (tr, .inr (4, [.int (nI a2), .ref rk, .ref rv, .ref ro, .ref rp, .ref rl, .ref rf, .int (nI n2), .int (nI pl2)])), (rk, .inl (cI, a2, .inl hk)), (rv, .inl (cI, a2, .inl hv)), (ro, .inl (cI, a2, .inl ho_)), (ou, .inl (cL, 1, .inr (.inl (vp_updL fo (0 : Int32).toNatClampNeg ((nI (jgs n gk go gp n)).toInt64)))))]) [1, 2, 3, 4, 5, 6, 7, 8, 9, 10, 11, 12, 13, 14, 15, 16, 17, 18, 19, 20, 0] rfl
  have hD := hD.sub (ws' := [(h0, .inr (5, [.ref tl, .ref tr, .ref cu, .ref bk, .int 1])), (bk, .inr (1, [.int (nI g), .ref fa, .ref s1, .ref s2, .int (nI (jgs n gk go gp n)), .int 1])), (s1, .inr (3, [.int xz1, .long xa1, .long xb1, .long xc1])), (s2, .inr (3, [.int xz2, .long xa2, .long xb2, .long xc2])), (fa, .inl (cQ, 5, .inr (.inr (.inr (.inr (fun j => if j < 5 then some (fa + 1 + j) else none)))))), (fa + 1, .inl (cL, g, .inr (.inl x0))), (fa + 2, .inl (cL, g, .inr (.inl x1))), (fa + 3, .inl (cL, g, .inr (.inl x2))), (fa + 4, .inl (cL, g, .inr (.inl x3))), (fa + 5, .inl (cL, g, .inr (.inl x4))), (tl, .inr (4, [.int (nI a), .ref lk, .ref lv, .ref lo, .ref lp, .ref ll, .ref lf, .int (nI n), .int (nI pl)])), (lk, .inl (cI, a, .inl gk)), (lv, .inl (cI, a, .inl gv)), (lo, .inl (cI, a, .inl go)), (lp, .inl (cI, a + 1, .inl gp)), (lf, .inl (cI, a, .inl gf)), (tr, .inr (4, [.int (nI a2), .ref rk, .ref rv, .ref ro, .ref rp, .ref rl, .ref rf, .int (nI n2), .int (nI pl2)])), (rk, .inl (cI, a2, .inl hk)), (rv, .inl (cI, a2, .inl hv)), (ro, .inl (cI, a2, .inl ho_)), (ou, .inl (cL, 1, .inr (.inl (vp_updL fo (0 : Int32).toNatClampNeg ((nI (jgs n gk go gp n)).toInt64)))))]) [1, 2, 3, 4, 5, 6, 7, 8, 9, 10, 11, 12, 13, 14, 15, 16, 17, 18, 19, 20, 0] (by decide) rfl
  refine W.widen (k := 0) (n := 0) (by omega) (by omega) ?_
  exact W.iret (v := 0) hx hb hr (fun t ht hW => ⟨⟨0, [(h0, .inr (5, [.ref tl, .ref tr, .ref cu, .ref bk, .int 1])), (bk, .inr (1, [.int (nI g), .ref fa, .ref s1, .ref s2, .int (nI (jgs n gk go gp n)), .int 1])), (s1, .inr (3, [.int xz1, .long xa1, .long xb1, .long xc1])), (s2, .inr (3, [.int xz2, .long xa2, .long xb2, .long xc2])), (fa, .inl (cQ, 5, .inr (.inr (.inr (.inr (fun j => if j < 5 then some (fa + 1 + j) else none)))))), (fa + 1, .inl (cL, g, .inr (.inl x0))), (fa + 2, .inl (cL, g, .inr (.inl x1))), (fa + 3, .inl (cL, g, .inr (.inl x2))), (fa + 4, .inl (cL, g, .inr (.inl x3))), (fa + 5, .inl (cL, g, .inr (.inl x4))), (tl, .inr (4, [.int (nI a), .ref lk, .ref lv, .ref lo, .ref lp, .ref ll, .ref lf, .int (nI n), .int (nI pl)])), (lk, .inl (cI, a, .inl gk)), (lv, .inl (cI, a, .inl gv)), (lo, .inl (cI, a, .inl go)), (lp, .inl (cI, a + 1, .inl gp)), (lf, .inl (cI, a, .inl gf)), (tr, .inr (4, [.int (nI a2), .ref rk, .ref rv, .ref ro, .ref rp, .ref rl, .ref rf, .int (nI n2), .int (nI pl2)])), (rk, .inl (cI, a2, .inl hk)), (rv, .inl (cI, a2, .inl hv)), (ro, .inl (cI, a2, .inl ho_)), (ou, .inl (cL, 1, .inr (.inl (vp_updL fo (0 : Int32).toNatClampNeg ((nI (jgs n gk go gp n)).toInt64)))))], rfl, (⟨_, _, _, _, _, _, _, _, _, _, _, _, _, rfl, rfl, by assumption⟩), by rw [ht]; exact hP, hD⟩, hS.F ht⟩) hS.2.2 dL_groups_18
set_option maxHeartbeats 1000000 in
set_option maxRecDepth 100000 in
theorem kL_groups_u (l : Launch) (hnt : l.stackTraces = false) (D : va_G) (cI cL cQ : ClassId) (h0 : Nat) (tl : Nat) (tr : Nat) (cu : Nat) (bk : Nat) (a : Nat) (n : Nat) (pl : Nat) (lk : Nat) (lv : Nat) (lo : Nat) (lp : Nat) (ll : Nat) (lf : Nat) (gk : Nat → Int32) (go : Nat → Int32) (gp : Nat → Int32) (g : Nat) (fa : Nat) (s1 : Nat) (s2 : Nat) (gs : Nat) (gt : Int32) (ou : Nat) (fo : Nat → Int64) (sz : Nat) (ha : a ≤ 400) (hn : n ≤ a) (hol : jord a go) (hg : g ≤ 400) (hq : ¬ jgs n gk go gp n ≤ g) : Met l yL_groups wsL_groups ({ frames := 8, cells := 1, slots := 6, locals := 140 }) (jh_P D vwCl (jT cI cL cQ) cL cQ [.ref h0, .ref ou] [(h0, .inr (5, [.ref tl, .ref tr, .ref cu, .ref bk, .int 1])), (bk, .inr (1, [.int (nI g), .ref fa, .ref s1, .ref s2, .int (nI gs), .int gt])), (tl, .inr (4, [.int (nI a), .ref lk, .ref lv, .ref lo, .ref lp, .ref ll, .ref lf, .int (nI n), .int (nI pl)])), (lk, .inl (cI, a, .inl gk)), (lo, .inl (cI, a, .inl go)), (lp, .inl (cI, a + 1, .inl gp)), (ou, .inl (cL, 1, .inr (.inl fo)))] sz) (va_Qi (fun (r : Int32) (u : va_W) => r = 2 ∧ u = [(h0, .inr (5, [.ref tl, .ref tr, .ref cu, .ref bk, .int 1])), (bk, .inr (1, [.int (nI g), .ref fa, .ref s1, .ref s2, .int (nI gs), .int gt])), (tl, .inr (4, [.int (nI a), .ref lk, .ref lv, .ref lo, .ref lp, .ref ll, .ref lf, .int (nI n), .int (nI pl)])), (lk, .inl (cI, a, .inl gk)), (lo, .inl (cI, a, .inl go)), (lp, .inl (cI, a + 1, .inl gp)), (ou, .inl (cL, 1, .inr (.inl fo)))]) (jw_B D vwCl (va_A [(h0, .inr (5, [.ref tl, .ref tr, .ref cu, .ref bk, .int 1])), (bk, .inr (1, [.int (nI g), .ref fa, .ref s1, .ref s2, .int (nI gs), .int gt])), (tl, .inr (4, [.int (nI a), .ref lk, .ref lv, .ref lo, .ref lp, .ref ll, .ref lf, .int (nI n), .int (nI pl)])), (lk, .inl (cI, a, .inl gk)), (lo, .inl (cI, a, .inl go)), (lp, .inl (cI, a + 1, .inl gp)), (ou, .inl (cL, 1, .inr (.inl fo)))] sz) (fun u : va_W => u)) (va_A [(h0, .inr (5, [.ref tl, .ref tr, .ref cu, .ref bk, .int 1])), (bk, .inr (1, [.int (nI g), .ref fa, .ref s1, .ref s2, .int (nI gs), .int gt])), (tl, .inr (4, [.int (nI a), .ref lk, .ref lv, .ref lo, .ref lp, .ref ll, .ref lf, .int (nI n), .int (nI pl)])), (lk, .inl (cI, a, .inl gk)), (lo, .inl (cI, a, .inl go)), (lp, .inl (cI, a + 1, .inl gp)), (ou, .inl (cL, 1, .inr (.inl fo)))] sz)) 1 6 (va_A [(h0, .inr (5, [.ref tl, .ref tr, .ref cu, .ref bk, .int 1])), (bk, .inr (1, [.int (nI g), .ref fa, .ref s1, .ref s2, .int (nI gs), .int gt])), (tl, .inr (4, [.int (nI a), .ref lk, .ref lv, .ref lo, .ref lp, .ref ll, .ref lf, .int (nI n), .int (nI pl)])), (lk, .inl (cI, a, .inl gk)), (lo, .inl (cI, a, .inl go)), (lp, .inl (cI, a + 1, .inl gp)), (ou, .inl (cL, 1, .inr (.inl fo)))] sz) := by
  refine va_MetW (hh := [(0, 8, 11, 13), (0, 8, 14, 54)]) (cc := cL_groups) (maxL := 3) (ret := (some .int)) (by decide) rfl ?_
  intro p e s m args below meth c s₁ B hml hv
  obtain ⟨rfl, hsz, hP, hK, hN, hD0, hZ⟩ := hv
  have hx := B.exec
  have hb := B.bytes
  have hr := B.returns
  have hts := atoms_spec (ws := wsL_groups) B.pre
  have hown : s.vm.findClass RL = some m.cls := findClass_of_methodNamed B.named
  have hlocks := B.notSynchronized
  subst hsz
  have hD := hD0.self (sz := s.heap.size)
  generalize hAe : va_A [(h0, .inr (5, [.ref tl, .ref tr, .ref cu, .ref bk, .int 1])), (bk, .inr (1, [.int (nI g), .ref fa, .ref s1, .ref s2, .int (nI gs), .int gt])), (tl, .inr (4, [.int (nI a), .ref lk, .ref lv, .ref lo, .ref lp, .ref ll, .ref lf, .int (nI n), .int (nI pl)])), (lk, .inl (cI, a, .inl gk)), (lo, .inl (cI, a, .inl go)), (lp, .inl (cI, a + 1, .inl gp)), (ou, .inl (cL, 1, .inr (.inl fo)))] s.heap.size = A at hD ⊢
  have hA : ∀ q : Nat, s.heap.size ≤ q → A q := fun q h => by rw [← hAe]; exact Or.inr h
  have hS : va_S A s.heap s.heap [] := va_S.rf
  have hl := lv_entry ([.ref h0, .ref ou]) (n := 3) (Nat.le_of_ble_eq_true rfl)
  rw [lg_entry_eq]
  generalize (lg_sl ([.ref h0, .ref ou]) ++ List.replicate (3 - (lg_sl ([.ref h0, .ref ou])).length) Slot.unset).toArray = ls at hl ⊢
  have hl : lv_has ls 3 [(0, .ref h0), (1, .ref ou)] := hl
  refine lv_aload_n hx hb dL_groups_0 rfl (lv_at hl 1 rfl) ?_
  refine lv_iconst (v := 0) hx hb dL_groups_1 (by decide) ?_
  refine lv_aload_n hx hb dL_groups_2 rfl (lv_at hl 0 rfl) ?_
  refine jx_thr (vx_runV (As := []) (rest := [.int 0, .ref ou]) ⟨hx, hb, hml, hown, hts⟩ (gJ_groups_u l hnt D cI cL cQ h0 tl tr cu bk a n pl lk lv lo lp ll lf gk go gp g fa s1 s2 gs gt (by first | assumption | decide | omega) (by first | assumption | decide | omega) (by first | assumption | decide | omega) (by first | assumption | decide | omega) (by first | assumption | decide | omega)) (cwV 0 hts gL_groups_X5_groups rfl rfl rfl (by decide +kernel) ⟨Nat.le_of_ble_eq_true rfl, Nat.le_of_ble_eq_true rfl⟩) (jt_V hK hN hZ hP [0, 1, 2, 3, 4, 5] rfl 5 0 rfl rfl rfl) rfl rfl hl.1 rfl (lv_room (Nat.le_of_ble_eq_true rfl)) dL_groups_3 ⟨Nat.le_of_ble_eq_true rfl, Nat.le_of_ble_eq_true rfl⟩) (fun ce q9 H1 hz hk hce hcv hcl => ?_)
  have hP : va_P D vwCl [(h0, .inr (5, [.ref tl, .ref tr, .ref cu, .ref bk, .int 1])), (bk, .inr (1, [.int (nI g), .ref fa, .ref s1, .ref s2, .int (nI gs), .int gt])), (tl, .inr (4, [.int (nI a), .ref lk, .ref lv, .ref lo, .ref lp, .ref ll, .ref lf, .int (nI n), .int (nI pl)])), (lk, .inl (cI, a, .inl gk)), (lo, .inl (cI, a, .inl go)), (lp, .inl (cI, a + 1, .inl gp)), (ou, .inl (cL, 1, .inr (.inl fo)))] H1 := hP.kept (fun k x hx => hk x.1 (hP k x hx).lt)
  have hS : va_S A s.heap H1 [] := ⟨hz, fun q h1 _ => hk q h1, fun _ h => nomatch h⟩
  generalize H1 = H at hP hS hce ⊢
  have htab : c.exceptionTable.toList = [⟨0, 8, 11, 13⟩, ⟨0, 8, 14, 54⟩] := vx_table (x := yL_groups) B (hts _ List.mem_cons_self)
  refine jc_second hown ⟨0, 8, 11, 13⟩ ⟨0, 8, 14, 54⟩ [] htab (by decide) (by decide) (by decide) (by decide) (hts (.classLink RL 13 "java/lang/IllegalStateException") (by decide +kernel)) (hZ.2.2.2.2.2.2.1 _ (by decide +kernel) _ (by decide +kernel) (by decide +kernel)) (hts (.classLink RL 54 "java/lang/UnsupportedOperationException") (by decide +kernel)) hce hcv hcl ?_
  refine W.eq (g2 := F0 m 14 ls [.ref q9]) rfl ?_
  refine W.widen (k := 1) (n := 6) (by omega) (by omega) ?_
  refine lv_astore_n (lv' := [(2, .ref q9), (0, .ref h0), (1, .ref ou)]) hx hb dL_groups_14 rfl hl (by decide) rfl (fun ls hl => ?_)
  refine lv_iconst (v := 2) hx hb dL_groups_15 (by decide) ?_
  refine W.widen (k := 1) (n := 6) (by omega) (by omega) ?_
  exact W.iret (v := 2) hx hb hr (fun t ht hW => ⟨⟨2, [(h0, .inr (5, [.ref tl, .ref tr, .ref cu, .ref bk, .int 1])), (bk, .inr (1, [.int (nI g), .ref fa, .ref s1, .ref s2, .int (nI gs), .int gt])), (tl, .inr (4, [.int (nI a), .ref lk, .ref lv, .ref lo, .ref lp, .ref ll, .ref lf, .int (nI n), .int (nI pl)])), (lk, .inl (cI, a, .inl gk)), (lo, .inl (cI, a, .inl go)), (lp, .inl (cI, a + 1, .inl gp)), (ou, .inl (cL, 1, .inr (.inl fo)))], rfl, (by exact ⟨rfl, rfl⟩), by rw [ht]; exact hP, hD⟩, hS.F ht⟩) hS.2.2 dL_groups_16
set_option maxHeartbeats 1000000 in
set_option maxRecDepth 100000 in
theorem kL_groups_t (l : Launch) (hnt : l.stackTraces = false) (D : va_G) (cI cL cQ : ClassId) (h0 : Nat) (tl : Nat) (tr : Nat) (cu : Nat) (bk : Nat) (ou : Nat) (fo : Nat → Int64) (sz : Nat) : Met l yL_groups wsL_groups ({ frames := 8, cells := 1, slots := 6, locals := 122 }) (jh_P D vwCl (jT cI cL cQ) cL cQ [.ref h0, .ref ou] [(h0, .inr (5, [.ref tl, .ref tr, .ref cu, .ref bk, .int 0])), (ou, .inl (cL, 1, .inr (.inl fo)))] sz) (va_Qi (fun (r : Int32) (u : va_W) => r = 1 ∧ u = [(h0, .inr (5, [.ref tl, .ref tr, .ref cu, .ref bk, .int 0])), (ou, .inl (cL, 1, .inr (.inl fo)))]) (jw_B D vwCl (va_A [(h0, .inr (5, [.ref tl, .ref tr, .ref cu, .ref bk, .int 0])), (ou, .inl (cL, 1, .inr (.inl fo)))] sz) (fun u : va_W => u)) (va_A [(h0, .inr (5, [.ref tl, .ref tr, .ref cu, .ref bk, .int 0])), (ou, .inl (cL, 1, .inr (.inl fo)))] sz)) 1 6 (va_A [(h0, .inr (5, [.ref tl, .ref tr, .ref cu, .ref bk, .int 0])), (ou, .inl (cL, 1, .inr (.inl fo)))] sz) := by
  refine va_MetW (hh := [(0, 8, 11, 13), (0, 8, 14, 54)]) (cc := cL_groups) (maxL := 3) (ret := (some .int)) (by decide) rfl ?_
  intro p e s m args below meth c s₁ B hml hv
  obtain ⟨rfl, hsz, hP, hK, hN, hD0, hZ⟩ := hv
  have hx := B.exec
  have hb := B.bytes
  have hr := B.returns
  have hts := atoms_spec (ws := wsL_groups) B.pre
  have hown : s.vm.findClass RL = some m.cls := findClass_of_methodNamed B.named
  have hlocks := B.notSynchronized
  subst hsz
  have hD := hD0.self (sz := s.heap.size)
  generalize hAe : va_A [(h0, .inr (5, [.ref tl, .ref tr, .ref cu, .ref bk, .int 0])), (ou, .inl (cL, 1, .inr (.inl fo)))] s.heap.size = A at hD ⊢
  have hA : ∀ q : Nat, s.heap.size ≤ q → A q := fun q h => by rw [← hAe]; exact Or.inr h
  have hS : va_S A s.heap s.heap [] := va_S.rf
  have hl := lv_entry ([.ref h0, .ref ou]) (n := 3) (Nat.le_of_ble_eq_true rfl)
  rw [lg_entry_eq]
  generalize (lg_sl ([.ref h0, .ref ou]) ++ List.replicate (3 - (lg_sl ([.ref h0, .ref ou])).length) Slot.unset).toArray = ls at hl ⊢
  have hl : lv_has ls 3 [(0, .ref h0), (1, .ref ou)] := hl
  refine lv_aload_n hx hb dL_groups_0 rfl (lv_at hl 1 rfl) ?_
  refine lv_iconst (v := 0) hx hb dL_groups_1 (by decide) ?_
  refine lv_aload_n hx hb dL_groups_2 rfl (lv_at hl 0 rfl) ?_
  refine jx_thr (vx_runV (As := []) (rest := [.int 0, .ref ou]) ⟨hx, hb, hml, hown, hts⟩ (gJ_groups_t l hnt D cI cL cQ h0 tl tr cu bk) (cwV 0 hts gL_groups_X5_groups rfl rfl rfl (by decide +kernel) ⟨Nat.le_of_ble_eq_true rfl, Nat.le_of_ble_eq_true rfl⟩) (jt_V hK hN hZ hP [0] rfl 5 0 rfl rfl rfl) rfl rfl hl.1 rfl (lv_room (Nat.le_of_ble_eq_true rfl)) dL_groups_3 ⟨Nat.le_of_ble_eq_true rfl, Nat.le_of_ble_eq_true rfl⟩) (fun ce q9 H1 hz hk hce hcv hcl => ?_)
  have hP : va_P D vwCl [(h0, .inr (5, [.ref tl, .ref tr, .ref cu, .ref bk, .int 0])), (ou, .inl (cL, 1, .inr (.inl fo)))] H1 := hP.kept (fun k x hx => hk x.1 (hP k x hx).lt)
  have hS : va_S A s.heap H1 [] := ⟨hz, fun q h1 _ => hk q h1, fun _ h => nomatch h⟩
  generalize H1 = H at hP hS hce ⊢
  have htab : c.exceptionTable.toList = [⟨0, 8, 11, 13⟩, ⟨0, 8, 14, 54⟩] := vx_table (x := yL_groups) B (hts _ List.mem_cons_self)
  refine jc_first (name := "") hown ⟨0, 8, 11, 13⟩ [⟨0, 8, 14, 54⟩] htab (by decide) (by decide) (hts (.classLink RL 13 "java/lang/IllegalStateException") (by decide +kernel)) hce hcv hcl ?_
  refine W.eq (g2 := F0 m 11 ls [.ref q9]) rfl ?_
  refine W.widen (k := 1) (n := 6) (by omega) (by omega) ?_
  refine lv_astore_n (lv' := [(2, .ref q9), (0, .ref h0), (1, .ref ou)]) hx hb dL_groups_11 rfl hl (by decide) rfl (fun ls hl => ?_)
  refine lv_iconst (v := 1) hx hb dL_groups_12 (by decide) ?_
  refine W.widen (k := 1) (n := 6) (by omega) (by omega) ?_
  exact W.iret (v := 1) hx hb hr (fun t ht hW => ⟨⟨1, [(h0, .inr (5, [.ref tl, .ref tr, .ref cu, .ref bk, .int 0])), (ou, .inl (cL, 1, .inr (.inl fo)))], rfl, (by exact ⟨rfl, rfl⟩), by rw [ht]; exact hP, hD⟩, hS.F ht⟩) hS.2.2 dL_groups_13
set_option maxHeartbeats 1000000 in
set_option maxRecDepth 100000 in
theorem kL_group_0 (l : Launch) (hnt : l.stackTraces = false) (D : va_G) (cI cL cQ : ClassId) (h0 : Nat) (tl : Nat) (tr : Nat) (cu : Nat) (bk : Nat) (g : Nat) (fa : Nat) (s1 : Nat) (s2 : Nat) (gs : Nat) (e0 : Nat → Int64) (e1 : Nat → Int64) (e2 : Nat → Int64) (e3 : Nat → Int64) (e4 : Nat → Int64) (x : Int32) (ou : Nat) (fo : Nat → Int64) (sz : Nat) (hg : g ≤ 400) (hgs : gs ≤ g) (h1 : ¬ x < 0) (h2 : ¬ nI gs ≤ x) : Met l yL_group wsL_group ({ frames := 3, cells := 0, slots := 0, locals := 66 }) (jh_P D vwCl (jT cI cL cQ) cL cQ [.ref h0, .int x, .int 0, .ref ou] [(h0, .inr (5, [.ref tl, .ref tr, .ref cu, .ref bk, .int 1])), (bk, .inr (1, [.int (nI g), .ref fa, .ref s1, .ref s2, .int (nI gs), .int 1])), (fa, .inl (cQ, 5, .inr (.inr (.inr (.inr (fun j => if j < 5 then some (fa + 1 + j) else none)))))), (fa + 1, .inl (cL, g, .inr (.inl e0))), (fa + 2, .inl (cL, g, .inr (.inl e1))), (fa + 3, .inl (cL, g, .inr (.inl e2))), (fa + 4, .inl (cL, g, .inr (.inl e3))), (fa + 5, .inl (cL, g, .inr (.inl e4))), (ou, .inl (cL, 1, .inr (.inl fo)))] sz) (va_Qi (fun (r : Int32) (u : va_W) => r = 0 ∧ u = [(h0, .inr (5, [.ref tl, .ref tr, .ref cu, .ref bk, .int 1])), (bk, .inr (1, [.int (nI g), .ref fa, .ref s1, .ref s2, .int (nI gs), .int 1])), (fa, .inl (cQ, 5, .inr (.inr (.inr (.inr (fun j => if j < 5 then some (fa + 1 + j) else none)))))), (fa + 1, .inl (cL, g, .inr (.inl e0))), (fa + 2, .inl (cL, g, .inr (.inl e1))), (fa + 3, .inl (cL, g, .inr (.inl e2))), (fa + 4, .inl (cL, g, .inr (.inl e3))), (fa + 5, .inl (cL, g, .inr (.inl e4))), (ou, .inl (cL, 1, .inr (.inl (vp_updL fo (0 : Int32).toNatClampNeg (if x < 0 ∨ nI gs ≤ x then 0 else e0 x.toNatClampNeg)))))]) (jw_B D vwCl (va_A [(h0, .inr (5, [.ref tl, .ref tr, .ref cu, .ref bk, .int 1])), (bk, .inr (1, [.int (nI g), .ref fa, .ref s1, .ref s2, .int (nI gs), .int 1])), (fa, .inl (cQ, 5, .inr (.inr (.inr (.inr (fun j => if j < 5 then some (fa + 1 + j) else none)))))), (fa + 1, .inl (cL, g, .inr (.inl e0))), (fa + 2, .inl (cL, g, .inr (.inl e1))), (fa + 3, .inl (cL, g, .inr (.inl e2))), (fa + 4, .inl (cL, g, .inr (.inl e3))), (fa + 5, .inl (cL, g, .inr (.inl e4))), (ou, .inl (cL, 1, .inr (.inl fo)))] sz) (fun u : va_W => u)) (va_A [(h0, .inr (5, [.ref tl, .ref tr, .ref cu, .ref bk, .int 1])), (bk, .inr (1, [.int (nI g), .ref fa, .ref s1, .ref s2, .int (nI gs), .int 1])), (fa, .inl (cQ, 5, .inr (.inr (.inr (.inr (fun j => if j < 5 then some (fa + 1 + j) else none)))))), (fa + 1, .inl (cL, g, .inr (.inl e0))), (fa + 2, .inl (cL, g, .inr (.inl e1))), (fa + 3, .inl (cL, g, .inr (.inl e2))), (fa + 4, .inl (cL, g, .inr (.inl e3))), (fa + 5, .inl (cL, g, .inr (.inl e4))), (ou, .inl (cL, 1, .inr (.inl fo)))] sz)) 0 0 (va_A [(h0, .inr (5, [.ref tl, .ref tr, .ref cu, .ref bk, .int 1])), (bk, .inr (1, [.int (nI g), .ref fa, .ref s1, .ref s2, .int (nI gs), .int 1])), (fa, .inl (cQ, 5, .inr (.inr (.inr (.inr (fun j => if j < 5 then some (fa + 1 + j) else none)))))), (fa + 1, .inl (cL, g, .inr (.inl e0))), (fa + 2, .inl (cL, g, .inr (.inl e1))), (fa + 3, .inl (cL, g, .inr (.inl e2))), (fa + 4, .inl (cL, g, .inr (.inl e3))), (fa + 5, .inl (cL, g, .inr (.inl e4))), (ou, .inl (cL, 1, .inr (.inl fo)))] sz) := by
  refine va_MetW (hh := [(0, 9, 12, 19), (0, 9, 16, 13)]) (cc := cL_group) (maxL := 5) (ret := (some .int)) (by decide) rfl ?_
  intro p e s m args below meth c s₁ B hml hv
  obtain ⟨rfl, hsz, hP, hK, hN, hD0, hZ⟩ := hv
  have hx := B.exec
  have hb := B.bytes
  have hr := B.returns
  have hts := atoms_spec (ws := wsL_group) B.pre
  have hown : s.vm.findClass RL = some m.cls := findClass_of_methodNamed B.named
  have hlocks := B.notSynchronized
  subst hsz
  have hD := hD0.self (sz := s.heap.size)
  generalize hAe : va_A [(h0, .inr (5, [.ref tl, .ref tr, .ref cu, .ref bk, .int 1])), (bk, .inr (1, [.int (nI g), .ref fa, .ref s1, .ref s2, .int (nI gs), .int 1])), (fa, .inl (cQ, 5, .inr (.inr (.inr (.inr (fun j => if j < 5 then some (fa + 1 + j) else none)))))), (fa + 1, .inl (cL, g, .inr (.inl e0))), (fa + 2, .inl (cL, g, .inr (.inl e1))), (fa + 3, .inl (cL, g, .inr (.inl e2))), (fa + 4, .inl (cL, g, .inr (.inl e3))), (fa + 5, .inl (cL, g, .inr (.inl e4))), (ou, .inl (cL, 1, .inr (.inl fo)))] s.heap.size = A at hD ⊢
  have hA : ∀ q : Nat, s.heap.size ≤ q → A q := fun q h => by rw [← hAe]; exact Or.inr h
  have hS : va_S A s.heap s.heap [] := va_S.rf
  have hl := lv_entry ([.ref h0, .int x, .int 0, .ref ou]) (n := 5) (Nat.le_of_ble_eq_true rfl)
  rw [lg_entry_eq]
  generalize (lg_sl ([.ref h0, .int x, .int 0, .ref ou]) ++ List.replicate (5 - (lg_sl ([.ref h0, .int x, .int 0, .ref ou])).length) Slot.unset).toArray = ls at hl ⊢
  have hl : lv_has ls 5 [(0, .ref h0), (1, .int x), (2, .int 0), (3, .ref ou)] := hl
  refine lv_aload_n hx hb dL_group_0 rfl (lv_at hl 3 rfl) ?_
  refine lv_iconst (v := 0) hx hb dL_group_1 (by decide) ?_
  refine lv_aload_n hx hb dL_group_2 rfl (lv_at hl 0 rfl) ?_
  refine lv_iload_n hx hb dL_group_3 rfl (lv_at hl 1 rfl) ?_
  refine lv_iload_n hx hb dL_group_4 rfl (lv_at hl 2 rfl) ?_
  refine vp_callSl (va_Run.run (va_runV (As := [.int x, .int 0]) (rest := [.int 0, .ref ou]) ⟨hx, hb, hml, hown, hts⟩ (gJ_group_0 l D cI cL cQ h0 tl tr cu bk g fa s1 s2 gs e0 e1 e2 e3 e4 x (by first | assumption | decide | omega) (by first | assumption | decide | omega) (by first | assumption | decide | omega) (by first | assumption | decide | omega)) (cwV 2 hts gL_group_X5_group rfl rfl rfl (by decide +kernel) ⟨Nat.le_of_ble_eq_true rfl, Nat.le_of_ble_eq_true rfl⟩) (jr_V hK hN hP [0, 1, 2, 3, 4, 5, 6, 7] rfl 5 0 rfl rfl rfl) rfl rfl hl.1 rfl (lv_room (Nat.le_of_ble_eq_true rfl)) dL_group_5 ⟨Nat.le_of_ble_eq_true rfl, Nat.le_of_ble_eq_true rfl⟩)) (fun r f_1 => ?_)
  obtain rfl := f_1
  refine va_last hx hb hK hP hD hS 8 1 rfl rfl (by unfold vp_in; decide) dL_group_8 (fun H locs hP hD hS => ?_)
  have hP : va_P D vwCl [(h0, .inr (5, [.ref tl, .ref tr, .ref cu, .ref bk, .int 1])), (bk, .inr (1, [.int (nI g), .ref fa, .ref s1, .ref s2, .int (nI gs), .int 1])), (fa, .inl (cQ, 5, .inr (.inr (.inr (.inr (fun j => if j < 5 then some (fa + 1 + j) else none)))))), (fa + 1, .inl (cL, g, .inr (.inl e0))), (fa + 2, .inl (cL, g, .inr (.inl e1))), (fa + 3, .inl (cL, g, .inr (.inl e2))), (fa + 4, .inl (cL, g, .inr (.inl e3))), (fa + 5, .inl (cL, g, .inr (.inl e4))), (ou, .inl (cL, 1, .inr (.inl (vp_updL fo (0 : Int32).toNatClampNeg (if x < 0 ∨ nI gs ≤ x then 0 else e0 x.toNatClampNeg)))))] H := hP
  have hD : va_D A [(h0, .inr (5, [.ref tl, .ref tr, .ref cu, .ref bk, .int 1])), (bk, .inr (1, [.int (nI g), .ref fa, .ref s1, .ref s2, .int (nI gs), .int 1])), (fa, .inl (cQ, 5, .inr (.inr (.inr (.inr (fun j => if j < 5 then some (fa + 1 + j) else none)))))), (fa + 1, .inl (cL, g, .inr (.inl e0))), (fa + 2, .inl (cL, g, .inr (.inl e1))), (fa + 3, .inl (cL, g, .inr (.inl e2))), (fa + 4, .inl (cL, g, .inr (.inl e3))), (fa + 5, .inl (cL, g, .inr (.inl e4))), (ou, .inl (cL, 1, .inr (.inl (vp_updL fo (0 : Int32).toNatClampNeg (if x < 0 ∨ nI gs ≤ x then 0 else e0 x.toNatClampNeg)))))] := hD
  refine lv_goto (tgt := 20) hx hb dL_group_9 (by decide) ?_
  refine lv_iconst (v := 0) hx hb dL_group_20 (by decide) ?_
  refine W.widen (k := 0) (n := 0) (by omega) (by omega) ?_
  exact W.iret (v := 0) hx hb hr (fun t ht hW => ⟨⟨0, [(h0, .inr (5, [.ref tl, .ref tr, .ref cu, .ref bk, .int 1])), (bk, .inr (1, [.int (nI g), .ref fa, .ref s1, .ref s2, .int (nI gs), .int 1])), (fa, .inl (cQ, 5, .inr (.inr (.inr (.inr (fun j => if j < 5 then some (fa + 1 + j) else none)))))), (fa + 1, .inl (cL, g, .inr (.inl e0))), (fa + 2, .inl (cL, g, .inr (.inl e1))), (fa + 3, .inl (cL, g, .inr (.inl e2))), (fa + 4, .inl (cL, g, .inr (.inl e3))), (fa + 5, .inl (cL, g, .inr (.inl e4))), (ou, .inl (cL, 1, .inr (.inl (vp_updL fo (0 : Int32).toNatClampNeg (if x < 0 ∨ nI gs ≤ x then 0 else e0 x.toNatClampNeg)))))], rfl, (⟨rfl, rfl⟩), by rw [ht]; exact hP, hD⟩, hS.F ht⟩) hS.2.2 dL_group_21
set_option maxHeartbeats 1000000 in
set_option maxRecDepth 100000 in
theorem kL_group_1 (l : Launch) (hnt : l.stackTraces = false) (D : va_G) (cI cL cQ : ClassId) (h0 : Nat) (tl : Nat) (tr : Nat) (cu : Nat) (bk : Nat) (g : Nat) (fa : Nat) (s1 : Nat) (s2 : Nat) (gs : Nat) (e0 : Nat → Int64) (e1 : Nat → Int64) (e2 : Nat → Int64) (e3 : Nat → Int64) (e4 : Nat → Int64) (x : Int32) (ou : Nat) (fo : Nat → Int64) (sz : Nat) (hg : g ≤ 400) (hgs : gs ≤ g) (h1 : ¬ x < 0) (h2 : ¬ nI gs ≤ x) : Met l yL_group wsL_group ({ frames := 3, cells := 0, slots := 0, locals := 66 }) (jh_P D vwCl (jT cI cL cQ) cL cQ [.ref h0, .int x, .int 1, .ref ou] [(h0, .inr (5, [.ref tl, .ref tr, .ref cu, .ref bk, .int 1])), (bk, .inr (1, [.int (nI g), .ref fa, .ref s1, .ref s2, .int (nI gs), .int 1])), (fa, .inl (cQ, 5, .inr (.inr (.inr (.inr (fun j => if j < 5 then some (fa + 1 + j) else none)))))), (fa + 1, .inl (cL, g, .inr (.inl e0))), (fa + 2, .inl (cL, g, .inr (.inl e1))), (fa + 3, .inl (cL, g, .inr (.inl e2))), (fa + 4, .inl (cL, g, .inr (.inl e3))), (fa + 5, .inl (cL, g, .inr (.inl e4))), (ou, .inl (cL, 1, .inr (.inl fo)))] sz) (va_Qi (fun (r : Int32) (u : va_W) => r = 0 ∧ u = [(h0, .inr (5, [.ref tl, .ref tr, .ref cu, .ref bk, .int 1])), (bk, .inr (1, [.int (nI g), .ref fa, .ref s1, .ref s2, .int (nI gs), .int 1])), (fa, .inl (cQ, 5, .inr (.inr (.inr (.inr (fun j => if j < 5 then some (fa + 1 + j) else none)))))), (fa + 1, .inl (cL, g, .inr (.inl e0))), (fa + 2, .inl (cL, g, .inr (.inl e1))), (fa + 3, .inl (cL, g, .inr (.inl e2))), (fa + 4, .inl (cL, g, .inr (.inl e3))), (fa + 5, .inl (cL, g, .inr (.inl e4))), (ou, .inl (cL, 1, .inr (.inl (vp_updL fo (0 : Int32).toNatClampNeg (if x < 0 ∨ nI gs ≤ x then 0 else e1 x.toNatClampNeg)))))]) (jw_B D vwCl (va_A [(h0, .inr (5, [.ref tl, .ref tr, .ref cu, .ref bk, .int 1])), (bk, .inr (1, [.int (nI g), .ref fa, .ref s1, .ref s2, .int (nI gs), .int 1])), (fa, .inl (cQ, 5, .inr (.inr (.inr (.inr (fun j => if j < 5 then some (fa + 1 + j) else none)))))), (fa + 1, .inl (cL, g, .inr (.inl e0))), (fa + 2, .inl (cL, g, .inr (.inl e1))), (fa + 3, .inl (cL, g, .inr (.inl e2))), (fa + 4, .inl (cL, g, .inr (.inl e3))), (fa + 5, .inl (cL, g, .inr (.inl e4))), (ou, .inl (cL, 1, .inr (.inl fo)))] sz) (fun u : va_W => u)) (va_A [(h0, .inr (5, [.ref tl, .ref tr, .ref cu, .ref bk, .int 1])), (bk, .inr (1, [.int (nI g), .ref fa, .ref s1, .ref s2, .int (nI gs), .int 1])), (fa, .inl (cQ, 5, .inr (.inr (.inr (.inr (fun j => if j < 5 then some (fa + 1 + j) else none)))))), (fa + 1, .inl (cL, g, .inr (.inl e0))), (fa + 2, .inl (cL, g, .inr (.inl e1))), (fa + 3, .inl (cL, g, .inr (.inl e2))), (fa + 4, .inl (cL, g, .inr (.inl e3))), (fa + 5, .inl (cL, g, .inr (.inl e4))), (ou, .inl (cL, 1, .inr (.inl fo)))] sz)) 0 0 (va_A [(h0, .inr (5, [.ref tl, .ref tr, .ref cu, .ref bk, .int 1])), (bk, .inr (1, [.int (nI g), .ref fa, .ref s1, .ref s2, .int (nI gs), .int 1])), (fa, .inl (cQ, 5, .inr (.inr (.inr (.inr (fun j => if j < 5 then some (fa + 1 + j) else none)))))), (fa + 1, .inl (cL, g, .inr (.inl e0))), (fa + 2, .inl (cL, g, .inr (.inl e1))), (fa + 3, .inl (cL, g, .inr (.inl e2))), (fa + 4, .inl (cL, g, .inr (.inl e3))), (fa + 5, .inl (cL, g, .inr (.inl e4))), (ou, .inl (cL, 1, .inr (.inl fo)))] sz) := by
  refine va_MetW (hh := [(0, 9, 12, 19), (0, 9, 16, 13)]) (cc := cL_group) (maxL := 5) (ret := (some .int)) (by decide) rfl ?_
  intro p e s m args below meth c s₁ B hml hv
  obtain ⟨rfl, hsz, hP, hK, hN, hD0, hZ⟩ := hv
  have hx := B.exec
  have hb := B.bytes
  have hr := B.returns
  have hts := atoms_spec (ws := wsL_group) B.pre
  have hown : s.vm.findClass RL = some m.cls := findClass_of_methodNamed B.named
  have hlocks := B.notSynchronized
  subst hsz
  have hD := hD0.self (sz := s.heap.size)
  generalize hAe : va_A [(h0, .inr (5, [.ref tl, .ref tr, .ref cu, .ref bk, .int 1])), (bk, .inr (1, [.int (nI g), .ref fa, .ref s1, .ref s2, .int (nI gs), .int 1])), (fa, .inl (cQ, 5, .inr (.inr (.inr (.inr (fun j => if j < 5 then some (fa + 1 + j) else none)))))), (fa + 1, .inl (cL, g, .inr (.inl e0))), (fa + 2, .inl (cL, g, .inr (.inl e1))), (fa + 3, .inl (cL, g, .inr (.inl e2))), (fa + 4, .inl (cL, g, .inr (.inl e3))), (fa + 5, .inl (cL, g, .inr (.inl e4))), (ou, .inl (cL, 1, .inr (.inl fo)))] s.heap.size = A at hD ⊢
  have hA : ∀ q : Nat, s.heap.size ≤ q → A q := fun q h => by rw [← hAe]; exact Or.inr h
  have hS : va_S A s.heap s.heap [] := va_S.rf
  have hl := lv_entry ([.ref h0, .int x, .int 1, .ref ou]) (n := 5) (Nat.le_of_ble_eq_true rfl)
  rw [lg_entry_eq]
  generalize (lg_sl ([.ref h0, .int x, .int 1, .ref ou]) ++ List.replicate (5 - (lg_sl ([.ref h0, .int x, .int 1, .ref ou])).length) Slot.unset).toArray = ls at hl ⊢
  have hl : lv_has ls 5 [(0, .ref h0), (1, .int x), (2, .int 1), (3, .ref ou)] := hl
  refine lv_aload_n hx hb dL_group_0 rfl (lv_at hl 3 rfl) ?_
  refine lv_iconst (v := 0) hx hb dL_group_1 (by decide) ?_
  refine lv_aload_n hx hb dL_group_2 rfl (lv_at hl 0 rfl) ?_
  refine lv_iload_n hx hb dL_group_3 rfl (lv_at hl 1 rfl) ?_
  refine lv_iload_n hx hb dL_group_4 rfl (lv_at hl 2 rfl) ?_
  refine vp_callSl (va_Run.run (va_runV (As := [.int x, .int 1]) (rest := [.int 0, .ref ou]) ⟨hx, hb, hml, hown, hts⟩ (gJ_group_1 l D cI cL cQ h0 tl tr cu bk g fa s1 s2 gs e0 e1 e2 e3 e4 x (by first | assumption | decide | omega) (by first | assumption | decide | omega) (by first | assumption | decide | omega) (by first | assumption | decide | omega)) (cwV 2 hts gL_group_X5_group rfl rfl rfl (by decide +kernel) ⟨Nat.le_of_ble_eq_true rfl, Nat.le_of_ble_eq_true rfl⟩) (jr_V hK hN hP [0, 1, 2, 3, 4, 5, 6, 7] rfl 5 0 rfl rfl rfl) rfl rfl hl.1 rfl (lv_room (Nat.le_of_ble_eq_true rfl)) dL_group_5 ⟨Nat.le_of_ble_eq_true rfl, Nat.le_of_ble_eq_true rfl⟩)) (fun r f_1 => ?_)
  obtain rfl := f_1
  refine va_last hx hb hK hP hD hS 8 1 rfl rfl (by unfold vp_in; decide) dL_group_8 (fun H locs hP hD hS => ?_)
  have hP : va_P D vwCl [(h0, .inr (5, [.ref tl, .ref tr, .ref cu, .ref bk, .int 1])), (bk, .inr (1, [.int (nI g), .ref fa, .ref s1, .ref s2, .int (nI gs), .int 1])), (fa, .inl (cQ, 5, .inr (.inr (.inr (.inr (fun j => if j < 5 then some (fa + 1 + j) else none)))))), (fa + 1, .inl (cL, g, .inr (.inl e0))), (fa + 2, .inl (cL, g, .inr (.inl e1))), (fa + 3, .inl (cL, g, .inr (.inl e2))), (fa + 4, .inl (cL, g, .inr (.inl e3))), (fa + 5, .inl (cL, g, .inr (.inl e4))), (ou, .inl (cL, 1, .inr (.inl (vp_updL fo (0 : Int32).toNatClampNeg (if x < 0 ∨ nI gs ≤ x then 0 else e1 x.toNatClampNeg)))))] H := hP
  have hD : va_D A [(h0, .inr (5, [.ref tl, .ref tr, .ref cu, .ref bk, .int 1])), (bk, .inr (1, [.int (nI g), .ref fa, .ref s1, .ref s2, .int (nI gs), .int 1])), (fa, .inl (cQ, 5, .inr (.inr (.inr (.inr (fun j => if j < 5 then some (fa + 1 + j) else none)))))), (fa + 1, .inl (cL, g, .inr (.inl e0))), (fa + 2, .inl (cL, g, .inr (.inl e1))), (fa + 3, .inl (cL, g, .inr (.inl e2))), (fa + 4, .inl (cL, g, .inr (.inl e3))), (fa + 5, .inl (cL, g, .inr (.inl e4))), (ou, .inl (cL, 1, .inr (.inl (vp_updL fo (0 : Int32).toNatClampNeg (if x < 0 ∨ nI gs ≤ x then 0 else e1 x.toNatClampNeg)))))] := hD
  refine lv_goto (tgt := 20) hx hb dL_group_9 (by decide) ?_
  refine lv_iconst (v := 0) hx hb dL_group_20 (by decide) ?_
  refine W.widen (k := 0) (n := 0) (by omega) (by omega) ?_
  exact W.iret (v := 0) hx hb hr (fun t ht hW => ⟨⟨0, [(h0, .inr (5, [.ref tl, .ref tr, .ref cu, .ref bk, .int 1])), (bk, .inr (1, [.int (nI g), .ref fa, .ref s1, .ref s2, .int (nI gs), .int 1])), (fa, .inl (cQ, 5, .inr (.inr (.inr (.inr (fun j => if j < 5 then some (fa + 1 + j) else none)))))), (fa + 1, .inl (cL, g, .inr (.inl e0))), (fa + 2, .inl (cL, g, .inr (.inl e1))), (fa + 3, .inl (cL, g, .inr (.inl e2))), (fa + 4, .inl (cL, g, .inr (.inl e3))), (fa + 5, .inl (cL, g, .inr (.inl e4))), (ou, .inl (cL, 1, .inr (.inl (vp_updL fo (0 : Int32).toNatClampNeg (if x < 0 ∨ nI gs ≤ x then 0 else e1 x.toNatClampNeg)))))], rfl, (⟨rfl, rfl⟩), by rw [ht]; exact hP, hD⟩, hS.F ht⟩) hS.2.2 dL_group_21
set_option maxHeartbeats 1000000 in
set_option maxRecDepth 100000 in
theorem kL_group_2 (l : Launch) (hnt : l.stackTraces = false) (D : va_G) (cI cL cQ : ClassId) (h0 : Nat) (tl : Nat) (tr : Nat) (cu : Nat) (bk : Nat) (g : Nat) (fa : Nat) (s1 : Nat) (s2 : Nat) (gs : Nat) (e0 : Nat → Int64) (e1 : Nat → Int64) (e2 : Nat → Int64) (e3 : Nat → Int64) (e4 : Nat → Int64) (x : Int32) (ou : Nat) (fo : Nat → Int64) (sz : Nat) (hg : g ≤ 400) (hgs : gs ≤ g) (h1 : ¬ x < 0) (h2 : ¬ nI gs ≤ x) : Met l yL_group wsL_group ({ frames := 3, cells := 0, slots := 0, locals := 66 }) (jh_P D vwCl (jT cI cL cQ) cL cQ [.ref h0, .int x, .int 2, .ref ou] [(h0, .inr (5, [.ref tl, .ref tr, .ref cu, .ref bk, .int 1])), (bk, .inr (1, [.int (nI g), .ref fa, .ref s1, .ref s2, .int (nI gs), .int 1])), (fa, .inl (cQ, 5, .inr (.inr (.inr (.inr (fun j => if j < 5 then some (fa + 1 + j) else none)))))), (fa + 1, .inl (cL, g, .inr (.inl e0))), (fa + 2, .inl (cL, g, .inr (.inl e1))), (fa + 3, .inl (cL, g, .inr (.inl e2))), (fa + 4, .inl (cL, g, .inr (.inl e3))), (fa + 5, .inl (cL, g, .inr (.inl e4))), (ou, .inl (cL, 1, .inr (.inl fo)))] sz) (va_Qi (fun (r : Int32) (u : va_W) => r = 0 ∧ u = [(h0, .inr (5, [.ref tl, .ref tr, .ref cu, .ref bk, .int 1])), (bk, .inr (1, [.int (nI g), .ref fa, .ref s1, .ref s2, .int (nI gs), .int 1])), (fa, .inl (cQ, 5, .inr (.inr (.inr (.inr (fun j => if j < 5 then some (fa + 1 + j) else none)))))), (fa + 1, .inl (cL, g, .inr (.inl e0))), (fa + 2, .inl (cL, g, .inr (.inl e1))), (fa + 3, .inl (cL, g, .inr (.inl e2))), (fa + 4, .inl (cL, g, .inr (.inl e3))), (fa + 5, .inl (cL, g, .inr (.inl e4))), (ou, .inl (cL, 1, .inr (.inl (vp_updL fo (0 : Int32).toNatClampNeg (if x < 0 ∨ nI gs ≤ x then 0 else e2 x.toNatClampNeg)))))]) (jw_B D vwCl (va_A [(h0, .inr (5, [.ref tl, .ref tr, .ref cu, .ref bk, .int 1])), (bk, .inr (1, [.int (nI g), .ref fa, .ref s1, .ref s2, .int (nI gs), .int 1])), (fa, .inl (cQ, 5, .inr (.inr (.inr (.inr (fun j => if j < 5 then some (fa + 1 + j) else none)))))), (fa + 1, .inl (cL, g, .inr (.inl e0))), (fa + 2, .inl (cL, g, .inr (.inl e1))), (fa + 3, .inl (cL, g, .inr (.inl e2))), (fa + 4, .inl (cL, g, .inr (.inl e3))), (fa + 5, .inl (cL, g, .inr (.inl e4))), (ou, .inl (cL, 1, .inr (.inl fo)))] sz) (fun u : va_W => u)) (va_A [(h0, .inr (5, [.ref tl, .ref tr, .ref cu, .ref bk, .int 1])), (bk, .inr (1, [.int (nI g), .ref fa, .ref s1, .ref s2, .int (nI gs), .int 1])), (fa, .inl (cQ, 5, .inr (.inr (.inr (.inr (fun j => if j < 5 then some (fa + 1 + j) else none)))))), (fa + 1, .inl (cL, g, .inr (.inl e0))), (fa + 2, .inl (cL, g, .inr (.inl e1))), (fa + 3, .inl (cL, g, .inr (.inl e2))), (fa + 4, .inl (cL, g, .inr (.inl e3))), (fa + 5, .inl (cL, g, .inr (.inl e4))), (ou, .inl (cL, 1, .inr (.inl fo)))] sz)) 0 0 (va_A [(h0, .inr (5, [.ref tl, .ref tr, .ref cu, .ref bk, .int 1])), (bk, .inr (1, [.int (nI g), .ref fa, .ref s1, .ref s2, .int (nI gs), .int 1])), (fa, .inl (cQ, 5, .inr (.inr (.inr (.inr (fun j => if j < 5 then some (fa + 1 + j) else none)))))), (fa + 1, .inl (cL, g, .inr (.inl e0))), (fa + 2, .inl (cL, g, .inr (.inl e1))), (fa + 3, .inl (cL, g, .inr (.inl e2))), (fa + 4, .inl (cL, g, .inr (.inl e3))), (fa + 5, .inl (cL, g, .inr (.inl e4))), (ou, .inl (cL, 1, .inr (.inl fo)))] sz) := by
  refine va_MetW (hh := [(0, 9, 12, 19), (0, 9, 16, 13)]) (cc := cL_group) (maxL := 5) (ret := (some .int)) (by decide) rfl ?_
  intro p e s m args below meth c s₁ B hml hv
  obtain ⟨rfl, hsz, hP, hK, hN, hD0, hZ⟩ := hv
  have hx := B.exec
  have hb := B.bytes
  have hr := B.returns
  have hts := atoms_spec (ws := wsL_group) B.pre
  have hown : s.vm.findClass RL = some m.cls := findClass_of_methodNamed B.named
  have hlocks := B.notSynchronized
  subst hsz
  have hD := hD0.self (sz := s.heap.size)
  generalize hAe : va_A [(h0, .inr (5, [.ref tl, .ref tr, .ref cu, .ref bk, .int 1])), (bk, .inr (1, [.int (nI g), .ref fa, .ref s1, .ref s2, .int (nI gs), .int 1])), (fa, .inl (cQ, 5, .inr (.inr (.inr (.inr (fun j => if j < 5 then some (fa + 1 + j) else none)))))), (fa + 1, .inl (cL, g, .inr (.inl e0))), (fa + 2, .inl (cL, g, .inr (.inl e1))), (fa + 3, .inl (cL, g, .inr (.inl e2))), (fa + 4, .inl (cL, g, .inr (.inl e3))), (fa + 5, .inl (cL, g, .inr (.inl e4))), (ou, .inl (cL, 1, .inr (.inl fo)))] s.heap.size = A at hD ⊢
  have hA : ∀ q : Nat, s.heap.size ≤ q → A q := fun q h => by rw [← hAe]; exact Or.inr h
  have hS : va_S A s.heap s.heap [] := va_S.rf
  have hl := lv_entry ([.ref h0, .int x, .int 2, .ref ou]) (n := 5) (Nat.le_of_ble_eq_true rfl)
  rw [lg_entry_eq]
  generalize (lg_sl ([.ref h0, .int x, .int 2, .ref ou]) ++ List.replicate (5 - (lg_sl ([.ref h0, .int x, .int 2, .ref ou])).length) Slot.unset).toArray = ls at hl ⊢
  have hl : lv_has ls 5 [(0, .ref h0), (1, .int x), (2, .int 2), (3, .ref ou)] := hl
  refine lv_aload_n hx hb dL_group_0 rfl (lv_at hl 3 rfl) ?_
  refine lv_iconst (v := 0) hx hb dL_group_1 (by decide) ?_
  refine lv_aload_n hx hb dL_group_2 rfl (lv_at hl 0 rfl) ?_
  refine lv_iload_n hx hb dL_group_3 rfl (lv_at hl 1 rfl) ?_
  refine lv_iload_n hx hb dL_group_4 rfl (lv_at hl 2 rfl) ?_
  refine vp_callSl (va_Run.run (va_runV (As := [.int x, .int 2]) (rest := [.int 0, .ref ou]) ⟨hx, hb, hml, hown, hts⟩ (gJ_group_2 l D cI cL cQ h0 tl tr cu bk g fa s1 s2 gs e0 e1 e2 e3 e4 x (by first | assumption | decide | omega) (by first | assumption | decide | omega) (by first | assumption | decide | omega) (by first | assumption | decide | omega)) (cwV 2 hts gL_group_X5_group rfl rfl rfl (by decide +kernel) ⟨Nat.le_of_ble_eq_true rfl, Nat.le_of_ble_eq_true rfl⟩) (jr_V hK hN hP [0, 1, 2, 3, 4, 5, 6, 7] rfl 5 0 rfl rfl rfl) rfl rfl hl.1 rfl (lv_room (Nat.le_of_ble_eq_true rfl)) dL_group_5 ⟨Nat.le_of_ble_eq_true rfl, Nat.le_of_ble_eq_true rfl⟩)) (fun r f_1 => ?_)
  obtain rfl := f_1
  refine va_last hx hb hK hP hD hS 8 1 rfl rfl (by unfold vp_in; decide) dL_group_8 (fun H locs hP hD hS => ?_)
  have hP : va_P D vwCl [(h0, .inr (5, [.ref tl, .ref tr, .ref cu, .ref bk, .int 1])), (bk, .inr (1, [.int (nI g), .ref fa, .ref s1, .ref s2, .int (nI gs), .int 1])), (fa, .inl (cQ, 5, .inr (.inr (.inr (.inr (fun j => if j < 5 then some (fa + 1 + j) else none)))))), (fa + 1, .inl (cL, g, .inr (.inl e0))), (fa + 2, .inl (cL, g, .inr (.inl e1))), (fa + 3, .inl (cL, g, .inr (.inl e2))), (fa + 4, .inl (cL, g, .inr (.inl e3))), (fa + 5, .inl (cL, g, .inr (.inl e4))), (ou, .inl (cL, 1, .inr (.inl (vp_updL fo (0 : Int32).toNatClampNeg (if x < 0 ∨ nI gs ≤ x then 0 else e2 x.toNatClampNeg)))))] H := hP
  have hD : va_D A [(h0, .inr (5, [.ref tl, .ref tr, .ref cu, .ref bk, .int 1])), (bk, .inr (1, [.int (nI g), .ref fa, .ref s1, .ref s2, .int (nI gs), .int 1])), (fa, .inl (cQ, 5, .inr (.inr (.inr (.inr (fun j => if j < 5 then some (fa + 1 + j) else none)))))), (fa + 1, .inl (cL, g, .inr (.inl e0))), (fa + 2, .inl (cL, g, .inr (.inl e1))), (fa + 3, .inl (cL, g, .inr (.inl e2))), (fa + 4, .inl (cL, g, .inr (.inl e3))), (fa + 5, .inl (cL, g, .inr (.inl e4))), (ou, .inl (cL, 1, .inr (.inl (vp_updL fo (0 : Int32).toNatClampNeg (if x < 0 ∨ nI gs ≤ x then 0 else e2 x.toNatClampNeg)))))] := hD
  refine lv_goto (tgt := 20) hx hb dL_group_9 (by decide) ?_
  refine lv_iconst (v := 0) hx hb dL_group_20 (by decide) ?_
  refine W.widen (k := 0) (n := 0) (by omega) (by omega) ?_
  exact W.iret (v := 0) hx hb hr (fun t ht hW => ⟨⟨0, [(h0, .inr (5, [.ref tl, .ref tr, .ref cu, .ref bk, .int 1])), (bk, .inr (1, [.int (nI g), .ref fa, .ref s1, .ref s2, .int (nI gs), .int 1])), (fa, .inl (cQ, 5, .inr (.inr (.inr (.inr (fun j => if j < 5 then some (fa + 1 + j) else none)))))), (fa + 1, .inl (cL, g, .inr (.inl e0))), (fa + 2, .inl (cL, g, .inr (.inl e1))), (fa + 3, .inl (cL, g, .inr (.inl e2))), (fa + 4, .inl (cL, g, .inr (.inl e3))), (fa + 5, .inl (cL, g, .inr (.inl e4))), (ou, .inl (cL, 1, .inr (.inl (vp_updL fo (0 : Int32).toNatClampNeg (if x < 0 ∨ nI gs ≤ x then 0 else e2 x.toNatClampNeg)))))], rfl, (⟨rfl, rfl⟩), by rw [ht]; exact hP, hD⟩, hS.F ht⟩) hS.2.2 dL_group_21
set_option maxHeartbeats 1000000 in
set_option maxRecDepth 100000 in
theorem kL_group_3 (l : Launch) (hnt : l.stackTraces = false) (D : va_G) (cI cL cQ : ClassId) (h0 : Nat) (tl : Nat) (tr : Nat) (cu : Nat) (bk : Nat) (g : Nat) (fa : Nat) (s1 : Nat) (s2 : Nat) (gs : Nat) (e0 : Nat → Int64) (e1 : Nat → Int64) (e2 : Nat → Int64) (e3 : Nat → Int64) (e4 : Nat → Int64) (x : Int32) (ou : Nat) (fo : Nat → Int64) (sz : Nat) (hg : g ≤ 400) (hgs : gs ≤ g) (h1 : ¬ x < 0) (h2 : ¬ nI gs ≤ x) : Met l yL_group wsL_group ({ frames := 3, cells := 0, slots := 0, locals := 66 }) (jh_P D vwCl (jT cI cL cQ) cL cQ [.ref h0, .int x, .int 3, .ref ou] [(h0, .inr (5, [.ref tl, .ref tr, .ref cu, .ref bk, .int 1])), (bk, .inr (1, [.int (nI g), .ref fa, .ref s1, .ref s2, .int (nI gs), .int 1])), (fa, .inl (cQ, 5, .inr (.inr (.inr (.inr (fun j => if j < 5 then some (fa + 1 + j) else none)))))), (fa + 1, .inl (cL, g, .inr (.inl e0))), (fa + 2, .inl (cL, g, .inr (.inl e1))), (fa + 3, .inl (cL, g, .inr (.inl e2))), (fa + 4, .inl (cL, g, .inr (.inl e3))), (fa + 5, .inl (cL, g, .inr (.inl e4))), (ou, .inl (cL, 1, .inr (.inl fo)))] sz) (va_Qi (fun (r : Int32) (u : va_W) => r = 0 ∧ u = [(h0, .inr (5, [.ref tl, .ref tr, .ref cu, .ref bk, .int 1])), (bk, .inr (1, [.int (nI g), .ref fa, .ref s1, .ref s2, .int (nI gs), .int 1])), (fa, .inl (cQ, 5, .inr (.inr (.inr (.inr (fun j => if j < 5 then some (fa + 1 + j) else none)))))), (fa + 1, .inl (cL, g, .inr (.inl e0))), (fa + 2, .inl (cL, g, .inr (.inl e1))), (fa + 3, .inl (cL, g, .inr (.inl e2))), (fa + 4, .inl (cL, g, .inr (.inl e3))), (fa + 5, .inl (cL, g, .inr (.inl e4))), (ou, .inl (cL, 1, .inr (.inl (vp_updL fo (0 : Int32).toNatClampNeg (if x < 0 ∨ nI gs ≤ x then 0 else e3 x.toNatClampNeg)))))]) (jw_B D vwCl (va_A [(h0, .inr (5, [.ref tl, .ref tr, .ref cu, .ref bk, .int 1])), (bk, .inr (1, [.int (nI g), .ref fa, .ref s1, .ref s2, .int (nI gs), .int 1])), (fa, .inl (cQ, 5, .inr (.inr (.inr (.inr (fun j => if j < 5 then some (fa + 1 + j) else none)))))), (fa + 1, .inl (cL, g, .inr (.inl e0))), (fa + 2, .inl (cL, g, .inr (.inl e1))), (fa + 3, .inl (cL, g, .inr (.inl e2))), (fa + 4, .inl (cL, g, .inr (.inl e3))), (fa + 5, .inl (cL, g, .inr (.inl e4))), (ou, .inl (cL, 1, .inr (.inl fo)))] sz) (fun u : va_W => u)) (va_A [(h0, .inr (5, [.ref tl, .ref tr, .ref cu, .ref bk, .int 1])), (bk, .inr (1, [.int (nI g), .ref fa, .ref s1, .ref s2, .int (nI gs), .int 1])), (fa, .inl (cQ, 5, .inr (.inr (.inr (.inr (fun j => if j < 5 then some (fa + 1 + j) else none)))))), (fa + 1, .inl (cL, g, .inr (.inl e0))), (fa + 2, .inl (cL, g, .inr (.inl e1))), (fa + 3, .inl (cL, g, .inr (.inl e2))), (fa + 4, .inl (cL, g, .inr (.inl e3))), (fa + 5, .inl (cL, g, .inr (.inl e4))), (ou, .inl (cL, 1, .inr (.inl fo)))] sz)) 0 0 (va_A [(h0, .inr (5, [.ref tl, .ref tr, .ref cu, .ref bk, .int 1])), (bk, .inr (1, [.int (nI g), .ref fa, .ref s1, .ref s2, .int (nI gs), .int 1])), (fa, .inl (cQ, 5, .inr (.inr (.inr (.inr (fun j => if j < 5 then some (fa + 1 + j) else none)))))), (fa + 1, .inl (cL, g, .inr (.inl e0))), (fa + 2, .inl (cL, g, .inr (.inl e1))), (fa + 3, .inl (cL, g, .inr (.inl e2))), (fa + 4, .inl (cL, g, .inr (.inl e3))), (fa + 5, .inl (cL, g, .inr (.inl e4))), (ou, .inl (cL, 1, .inr (.inl fo)))] sz) := by
  refine va_MetW (hh := [(0, 9, 12, 19), (0, 9, 16, 13)]) (cc := cL_group) (maxL := 5) (ret := (some .int)) (by decide) rfl ?_
  intro p e s m args below meth c s₁ B hml hv
  obtain ⟨rfl, hsz, hP, hK, hN, hD0, hZ⟩ := hv
  have hx := B.exec
  have hb := B.bytes
  have hr := B.returns
  have hts := atoms_spec (ws := wsL_group) B.pre
  have hown : s.vm.findClass RL = some m.cls := findClass_of_methodNamed B.named
  have hlocks := B.notSynchronized
  subst hsz
  have hD := hD0.self (sz := s.heap.size)
  generalize hAe : va_A [(h0, .inr (5, [.ref tl, .ref tr, .ref cu, .ref bk, .int 1])), (bk, .inr (1, [.int (nI g), .ref fa, .ref s1, .ref s2, .int (nI gs), .int 1])), (fa, .inl (cQ, 5, .inr (.inr (.inr (.inr (fun j => if j < 5 then some (fa + 1 + j) else none)))))), (fa + 1, .inl (cL, g, .inr (.inl e0))), (fa + 2, .inl (cL, g, .inr (.inl e1))), (fa + 3, .inl (cL, g, .inr (.inl e2))), (fa + 4, .inl (cL, g, .inr (.inl e3))), (fa + 5, .inl (cL, g, .inr (.inl e4))), (ou, .inl (cL, 1, .inr (.inl fo)))] s.heap.size = A at hD ⊢
  have hA : ∀ q : Nat, s.heap.size ≤ q → A q := fun q h => by rw [← hAe]; exact Or.inr h
  have hS : va_S A s.heap s.heap [] := va_S.rf
  have hl := lv_entry ([.ref h0, .int x, .int 3, .ref ou]) (n := 5) (Nat.le_of_ble_eq_true rfl)
  rw [lg_entry_eq]
  generalize (lg_sl ([.ref h0, .int x, .int 3, .ref ou]) ++ List.replicate (5 - (lg_sl ([.ref h0, .int x, .int 3, .ref ou])).length) Slot.unset).toArray = ls at hl ⊢
  have hl : lv_has ls 5 [(0, .ref h0), (1, .int x), (2, .int 3), (3, .ref ou)] := hl
  refine lv_aload_n hx hb dL_group_0 rfl (lv_at hl 3 rfl) ?_
  refine lv_iconst (v := 0) hx hb dL_group_1 (by decide) ?_
  refine lv_aload_n hx hb dL_group_2 rfl (lv_at hl 0 rfl) ?_
  refine lv_iload_n hx hb dL_group_3 rfl (lv_at hl 1 rfl) ?_
  refine lv_iload_n hx hb dL_group_4 rfl (lv_at hl 2 rfl) ?_
  refine vp_callSl (va_Run.run (va_runV (As := [.int x, .int 3]) (rest := [.int 0, .ref ou]) ⟨hx, hb, hml, hown, hts⟩ (gJ_group_3 l D cI cL cQ h0 tl tr cu bk g fa s1 s2 gs e0 e1 e2 e3 e4 x (by first | assumption | decide | omega) (by first | assumption | decide | omega) (by first | assumption | decide | omega) (by first | assumption | decide | omega)) (cwV 2 hts gL_group_X5_group rfl rfl rfl (by decide +kernel) ⟨Nat.le_of_ble_eq_true rfl, Nat.le_of_ble_eq_true rfl⟩) (jr_V hK hN hP [0, 1, 2, 3, 4, 5, 6, 7] rfl 5 0 rfl rfl rfl) rfl rfl hl.1 rfl (lv_room (Nat.le_of_ble_eq_true rfl)) dL_group_5 ⟨Nat.le_of_ble_eq_true rfl, Nat.le_of_ble_eq_true rfl⟩)) (fun r f_1 => ?_)
  obtain rfl := f_1
  refine va_last hx hb hK hP hD hS 8 1 rfl rfl (by unfold vp_in; decide) dL_group_8 (fun H locs hP hD hS => ?_)
  have hP : va_P D vwCl [(h0, .inr (5, [.ref tl, .ref tr, .ref cu, .ref bk, .int 1])), (bk, .inr (1, [.int (nI g), .ref fa, .ref s1, .ref s2, .int (nI gs), .int 1])), (fa, .inl (cQ, 5, .inr (.inr (.inr (.inr (fun j => if j < 5 then some (fa + 1 + j) else none)))))), (fa + 1, .inl (cL, g, .inr (.inl e0))), (fa + 2, .inl (cL, g, .inr (.inl e1))), (fa + 3, .inl (cL, g, .inr (.inl e2))), (fa + 4, .inl (cL, g, .inr (.inl e3))), (fa + 5, .inl (cL, g, .inr (.inl e4))), (ou, .inl (cL, 1, .inr (.inl (vp_updL fo (0 : Int32).toNatClampNeg (if x < 0 ∨ nI gs ≤ x then 0 else e3 x.toNatClampNeg)))))] H := hP
  have hD : va_D A [(h0, .inr (5, [.ref tl, .ref tr, .ref cu, .ref bk, .int 1])), (bk, .inr (1, [.int (nI g), .ref fa, .ref s1, .ref s2, .int (nI gs), .int 1])), (fa, .inl (cQ, 5, .inr (.inr (.inr (.inr (fun j => if j < 5 then some (fa + 1 + j) else none)))))), (fa + 1, .inl (cL, g, .inr (.inl e0))), (fa + 2, .inl (cL, g, .inr (.inl e1))), (fa + 3, .inl (cL, g, .inr (.inl e2))), (fa + 4, .inl (cL, g, .inr (.inl e3))), (fa + 5, .inl (cL, g, .inr (.inl e4))), (ou, .inl (cL, 1, .inr (.inl (vp_updL fo (0 : Int32).toNatClampNeg (if x < 0 ∨ nI gs ≤ x then 0 else e3 x.toNatClampNeg)))))] := hD
  refine lv_goto (tgt := 20) hx hb dL_group_9 (by decide) ?_
  refine lv_iconst (v := 0) hx hb dL_group_20 (by decide) ?_
  refine W.widen (k := 0) (n := 0) (by omega) (by omega) ?_
  exact W.iret (v := 0) hx hb hr (fun t ht hW => ⟨⟨0, [(h0, .inr (5, [.ref tl, .ref tr, .ref cu, .ref bk, .int 1])), (bk, .inr (1, [.int (nI g), .ref fa, .ref s1, .ref s2, .int (nI gs), .int 1])), (fa, .inl (cQ, 5, .inr (.inr (.inr (.inr (fun j => if j < 5 then some (fa + 1 + j) else none)))))), (fa + 1, .inl (cL, g, .inr (.inl e0))), (fa + 2, .inl (cL, g, .inr (.inl e1))), (fa + 3, .inl (cL, g, .inr (.inl e2))), (fa + 4, .inl (cL, g, .inr (.inl e3))), (fa + 5, .inl (cL, g, .inr (.inl e4))), (ou, .inl (cL, 1, .inr (.inl (vp_updL fo (0 : Int32).toNatClampNeg (if x < 0 ∨ nI gs ≤ x then 0 else e3 x.toNatClampNeg)))))], rfl, (⟨rfl, rfl⟩), by rw [ht]; exact hP, hD⟩, hS.F ht⟩) hS.2.2 dL_group_21
set_option maxHeartbeats 1000000 in
set_option maxRecDepth 100000 in
theorem kL_group_4 (l : Launch) (hnt : l.stackTraces = false) (D : va_G) (cI cL cQ : ClassId) (h0 : Nat) (tl : Nat) (tr : Nat) (cu : Nat) (bk : Nat) (g : Nat) (fa : Nat) (s1 : Nat) (s2 : Nat) (gs : Nat) (e0 : Nat → Int64) (e1 : Nat → Int64) (e2 : Nat → Int64) (e3 : Nat → Int64) (e4 : Nat → Int64) (x : Int32) (ou : Nat) (fo : Nat → Int64) (sz : Nat) (hg : g ≤ 400) (hgs : gs ≤ g) (h1 : ¬ x < 0) (h2 : ¬ nI gs ≤ x) : Met l yL_group wsL_group ({ frames := 3, cells := 0, slots := 0, locals := 66 }) (jh_P D vwCl (jT cI cL cQ) cL cQ [.ref h0, .int x, .int 4, .ref ou] [(h0, .inr (5, [.ref tl, .ref tr, .ref cu, .ref bk, .int 1])), (bk, .inr (1, [.int (nI g), .ref fa, .ref s1, .ref s2, .int (nI gs), .int 1])), (fa, .inl (cQ, 5, .inr (.inr (.inr (.inr (fun j => if j < 5 then some (fa + 1 + j) else none)))))), (fa + 1, .inl (cL, g, .inr (.inl e0))), (fa + 2, .inl (cL, g, .inr (.inl e1))), (fa + 3, .inl (cL, g, .inr (.inl e2))), (fa + 4, .inl (cL, g, .inr (.inl e3))), (fa + 5, .inl (cL, g, .inr (.inl e4))), (ou, .inl (cL, 1, .inr (.inl fo)))] sz) (va_Qi (fun (r : Int32) (u : va_W) => r = 0 ∧ u = [(h0, .inr (5, [.ref tl, .ref tr, .ref cu, .ref bk, .int 1])), (bk, .inr (1, [.int (nI g), .ref fa, .ref s1, .ref s2, .int (nI gs), .int 1])), (fa, .inl (cQ, 5, .inr (.inr (.inr (.inr (fun j => if j < 5 then some (fa + 1 + j) else none)))))), (fa + 1, .inl (cL, g, .inr (.inl e0))), (fa + 2, .inl (cL, g, .inr (.inl e1))), (fa + 3, .inl (cL, g, .inr (.inl e2))), (fa + 4, .inl (cL, g, .inr (.inl e3))), (fa + 5, .inl (cL, g, .inr (.inl e4))), (ou, .inl (cL, 1, .inr (.inl (vp_updL fo (0 : Int32).toNatClampNeg (if x < 0 ∨ nI gs ≤ x then 0 else e4 x.toNatClampNeg)))))]) (jw_B D vwCl (va_A [(h0, .inr (5, [.ref tl, .ref tr, .ref cu, .ref bk, .int 1])), (bk, .inr (1, [.int (nI g), .ref fa, .ref s1, .ref s2, .int (nI gs), .int 1])), (fa, .inl (cQ, 5, .inr (.inr (.inr (.inr (fun j => if j < 5 then some (fa + 1 + j) else none)))))), (fa + 1, .inl (cL, g, .inr (.inl e0))), (fa + 2, .inl (cL, g, .inr (.inl e1))), (fa + 3, .inl (cL, g, .inr (.inl e2))), (fa + 4, .inl (cL, g, .inr (.inl e3))), (fa + 5, .inl (cL, g, .inr (.inl e4))), (ou, .inl (cL, 1, .inr (.inl fo)))] sz) (fun u : va_W => u)) (va_A [(h0, .inr (5, [.ref tl, .ref tr, .ref cu, .ref bk, .int 1])), (bk, .inr (1, [.int (nI g), .ref fa, .ref s1, .ref s2, .int (nI gs), .int 1])), (fa, .inl (cQ, 5, .inr (.inr (.inr (.inr (fun j => if j < 5 then some (fa + 1 + j) else none)))))), (fa + 1, .inl (cL, g, .inr (.inl e0))), (fa + 2, .inl (cL, g, .inr (.inl e1))), (fa + 3, .inl (cL, g, .inr (.inl e2))), (fa + 4, .inl (cL, g, .inr (.inl e3))), (fa + 5, .inl (cL, g, .inr (.inl e4))), (ou, .inl (cL, 1, .inr (.inl fo)))] sz)) 0 0 (va_A [(h0, .inr (5, [.ref tl, .ref tr, .ref cu, .ref bk, .int 1])), (bk, .inr (1, [.int (nI g), .ref fa, .ref s1, .ref s2, .int (nI gs), .int 1])), (fa, .inl (cQ, 5, .inr (.inr (.inr (.inr (fun j => if j < 5 then some (fa + 1 + j) else none)))))), (fa + 1, .inl (cL, g, .inr (.inl e0))), (fa + 2, .inl (cL, g, .inr (.inl e1))), (fa + 3, .inl (cL, g, .inr (.inl e2))), (fa + 4, .inl (cL, g, .inr (.inl e3))), (fa + 5, .inl (cL, g, .inr (.inl e4))), (ou, .inl (cL, 1, .inr (.inl fo)))] sz) := by
  refine va_MetW (hh := [(0, 9, 12, 19), (0, 9, 16, 13)]) (cc := cL_group) (maxL := 5) (ret := (some .int)) (by decide) rfl ?_
  intro p e s m args below meth c s₁ B hml hv
  obtain ⟨rfl, hsz, hP, hK, hN, hD0, hZ⟩ := hv
  have hx := B.exec
  have hb := B.bytes
  have hr := B.returns
  have hts := atoms_spec (ws := wsL_group) B.pre
  have hown : s.vm.findClass RL = some m.cls := findClass_of_methodNamed B.named
  have hlocks := B.notSynchronized
  subst hsz
  have hD := hD0.self (sz := s.heap.size)
  generalize hAe : va_A [(h0, .inr (5, [.ref tl, .ref tr, .ref cu, .ref bk, .int 1])), (bk, .inr (1, [.int (nI g), .ref fa, .ref s1, .ref s2, .int (nI gs), .int 1])), (fa, .inl (cQ, 5, .inr (.inr (.inr (.inr (fun j => if j < 5 then some (fa + 1 + j) else none)))))), (fa + 1, .inl (cL, g, .inr (.inl e0))), (fa + 2, .inl (cL, g, .inr (.inl e1))), (fa + 3, .inl (cL, g, .inr (.inl e2))), (fa + 4, .inl (cL, g, .inr (.inl e3))), (fa + 5, .inl (cL, g, .inr (.inl e4))), (ou, .inl (cL, 1, .inr (.inl fo)))] s.heap.size = A at hD ⊢
  have hA : ∀ q : Nat, s.heap.size ≤ q → A q := fun q h => by rw [← hAe]; exact Or.inr h
  have hS : va_S A s.heap s.heap [] := va_S.rf
  have hl := lv_entry ([.ref h0, .int x, .int 4, .ref ou]) (n := 5) (Nat.le_of_ble_eq_true rfl)
  rw [lg_entry_eq]
  generalize (lg_sl ([.ref h0, .int x, .int 4, .ref ou]) ++ List.replicate (5 - (lg_sl ([.ref h0, .int x, .int 4, .ref ou])).length) Slot.unset).toArray = ls at hl ⊢
  have hl : lv_has ls 5 [(0, .ref h0), (1, .int x), (2, .int 4), (3, .ref ou)] := hl
  refine lv_aload_n hx hb dL_group_0 rfl (lv_at hl 3 rfl) ?_
  refine lv_iconst (v := 0) hx hb dL_group_1 (by decide) ?_
  refine lv_aload_n hx hb dL_group_2 rfl (lv_at hl 0 rfl) ?_
  refine lv_iload_n hx hb dL_group_3 rfl (lv_at hl 1 rfl) ?_
  refine lv_iload_n hx hb dL_group_4 rfl (lv_at hl 2 rfl) ?_
  refine vp_callSl (va_Run.run (va_runV (As := [.int x, .int 4]) (rest := [.int 0, .ref ou]) ⟨hx, hb, hml, hown, hts⟩ (gJ_group_4 l D cI cL cQ h0 tl tr cu bk g fa s1 s2 gs e0 e1 e2 e3 e4 x (by first | assumption | decide | omega) (by first | assumption | decide | omega) (by first | assumption | decide | omega) (by first | assumption | decide | omega)) (cwV 2 hts gL_group_X5_group rfl rfl rfl (by decide +kernel) ⟨Nat.le_of_ble_eq_true rfl, Nat.le_of_ble_eq_true rfl⟩) (jr_V hK hN hP [0, 1, 2, 3, 4, 5, 6, 7] rfl 5 0 rfl rfl rfl) rfl rfl hl.1 rfl (lv_room (Nat.le_of_ble_eq_true rfl)) dL_group_5 ⟨Nat.le_of_ble_eq_true rfl, Nat.le_of_ble_eq_true rfl⟩)) (fun r f_1 => ?_)
  obtain rfl := f_1
  refine va_last hx hb hK hP hD hS 8 1 rfl rfl (by unfold vp_in; decide) dL_group_8 (fun H locs hP hD hS => ?_)
  have hP : va_P D vwCl [(h0, .inr (5, [.ref tl, .ref tr, .ref cu, .ref bk, .int 1])), (bk, .inr (1, [.int (nI g), .ref fa, .ref s1, .ref s2, .int (nI gs), .int 1])), (fa, .inl (cQ, 5, .inr (.inr (.inr (.inr (fun j => if j < 5 then some (fa + 1 + j) else none)))))), (fa + 1, .inl (cL, g, .inr (.inl e0))), (fa + 2, .inl (cL, g, .inr (.inl e1))), (fa + 3, .inl (cL, g, .inr (.inl e2))), (fa + 4, .inl (cL, g, .inr (.inl e3))), (fa + 5, .inl (cL, g, .inr (.inl e4))), (ou, .inl (cL, 1, .inr (.inl (vp_updL fo (0 : Int32).toNatClampNeg (if x < 0 ∨ nI gs ≤ x then 0 else e4 x.toNatClampNeg)))))] H := hP
  have hD : va_D A [(h0, .inr (5, [.ref tl, .ref tr, .ref cu, .ref bk, .int 1])), (bk, .inr (1, [.int (nI g), .ref fa, .ref s1, .ref s2, .int (nI gs), .int 1])), (fa, .inl (cQ, 5, .inr (.inr (.inr (.inr (fun j => if j < 5 then some (fa + 1 + j) else none)))))), (fa + 1, .inl (cL, g, .inr (.inl e0))), (fa + 2, .inl (cL, g, .inr (.inl e1))), (fa + 3, .inl (cL, g, .inr (.inl e2))), (fa + 4, .inl (cL, g, .inr (.inl e3))), (fa + 5, .inl (cL, g, .inr (.inl e4))), (ou, .inl (cL, 1, .inr (.inl (vp_updL fo (0 : Int32).toNatClampNeg (if x < 0 ∨ nI gs ≤ x then 0 else e4 x.toNatClampNeg)))))] := hD
  refine lv_goto (tgt := 20) hx hb dL_group_9 (by decide) ?_
  refine lv_iconst (v := 0) hx hb dL_group_20 (by decide) ?_
  refine W.widen (k := 0) (n := 0) (by omega) (by omega) ?_
  exact W.iret (v := 0) hx hb hr (fun t ht hW => ⟨⟨0, [(h0, .inr (5, [.ref tl, .ref tr, .ref cu, .ref bk, .int 1])), (bk, .inr (1, [.int (nI g), .ref fa, .ref s1, .ref s2, .int (nI gs), .int 1])), (fa, .inl (cQ, 5, .inr (.inr (.inr (.inr (fun j => if j < 5 then some (fa + 1 + j) else none)))))), (fa + 1, .inl (cL, g, .inr (.inl e0))), (fa + 2, .inl (cL, g, .inr (.inl e1))), (fa + 3, .inl (cL, g, .inr (.inl e2))), (fa + 4, .inl (cL, g, .inr (.inl e3))), (fa + 5, .inl (cL, g, .inr (.inl e4))), (ou, .inl (cL, 1, .inr (.inl (vp_updL fo (0 : Int32).toNatClampNeg (if x < 0 ∨ nI gs ≤ x then 0 else e4 x.toNatClampNeg)))))], rfl, (⟨rfl, rfl⟩), by rw [ht]; exact hP, hD⟩, hS.F ht⟩) hS.2.2 dL_group_21
set_option maxHeartbeats 1000000 in
set_option maxRecDepth 100000 in
theorem kL_group_a1 (l : Launch) (hnt : l.stackTraces = false) (D : va_G) (cI cL cQ : ClassId) (h0 : Nat) (tl : Nat) (tr : Nat) (cu : Nat) (bk : Nat) (g : Nat) (fa : Nat) (s1 : Nat) (s2 : Nat) (gs : Nat) (x : Int32) (y : Int32) (ou : Nat) (fo : Nat → Int64) (sz : Nat) (h1 : (x < 0 ∨ nI gs ≤ x) ∨ (y < 0 ∨ 5 ≤ y)) : Met l yL_group wsL_group ({ frames := 8, cells := 1, slots := 6, locals := 125 }) (jh_P D vwCl (jT cI cL cQ) cL cQ [.ref h0, .int x, .int y, .ref ou] [(h0, .inr (5, [.ref tl, .ref tr, .ref cu, .ref bk, .int 1])), (bk, .inr (1, [.int (nI g), .ref fa, .ref s1, .ref s2, .int (nI gs), .int 1])), (ou, .inl (cL, 1, .inr (.inl fo)))] sz) (va_Qi (fun (r : Int32) (u : va_W) => r = 1 ∧ u = [(h0, .inr (5, [.ref tl, .ref tr, .ref cu, .ref bk, .int 1])), (bk, .inr (1, [.int (nI g), .ref fa, .ref s1, .ref s2, .int (nI gs), .int 1])), (ou, .inl (cL, 1, .inr (.inl fo)))]) (jw_B D vwCl (va_A [(h0, .inr (5, [.ref tl, .ref tr, .ref cu, .ref bk, .int 1])), (bk, .inr (1, [.int (nI g), .ref fa, .ref s1, .ref s2, .int (nI gs), .int 1])), (ou, .inl (cL, 1, .inr (.inl fo)))] sz) (fun u : va_W => u)) (va_A [(h0, .inr (5, [.ref tl, .ref tr, .ref cu, .ref bk, .int 1])), (bk, .inr (1, [.int (nI g), .ref fa, .ref s1, .ref s2, .int (nI gs), .int 1])), (ou, .inl (cL, 1, .inr (.inl fo)))] sz)) 1 6 (va_A [(h0, .inr (5, [.ref tl, .ref tr, .ref cu, .ref bk, .int 1])), (bk, .inr (1, [.int (nI g), .ref fa, .ref s1, .ref s2, .int (nI gs), .int 1])), (ou, .inl (cL, 1, .inr (.inl fo)))] sz) := by
  refine va_MetW (hh := [(0, 9, 12, 19), (0, 9, 16, 13)]) (cc := cL_group) (maxL := 5) (ret := (some .int)) (by decide) rfl ?_
  intro p e s m args below meth c s₁ B hml hv
  obtain ⟨rfl, hsz, hP, hK, hN, hD0, hZ⟩ := hv
  have hx := B.exec
  have hb := B.bytes
  have hr := B.returns
  have hts := atoms_spec (ws := wsL_group) B.pre
  have hown : s.vm.findClass RL = some m.cls := findClass_of_methodNamed B.named
  have hlocks := B.notSynchronized
  subst hsz
  have hD := hD0.self (sz := s.heap.size)
  generalize hAe : va_A [(h0, .inr (5, [.ref tl, .ref tr, .ref cu, .ref bk, .int 1])), (bk, .inr (1, [.int (nI g), .ref fa, .ref s1, .ref s2, .int (nI gs), .int 1])), (ou, .inl (cL, 1, .inr (.inl fo)))] s.heap.size = A at hD ⊢
  have hA : ∀ q : Nat, s.heap.size ≤ q → A q := fun q h => by rw [← hAe]; exact Or.inr h
  have hS : va_S A s.heap s.heap [] := va_S.rf
  have hl := lv_entry ([.ref h0, .int x, .int y, .ref ou]) (n := 5) (Nat.le_of_ble_eq_true rfl)
  rw [lg_entry_eq]
  generalize (lg_sl ([.ref h0, .int x, .int y, .ref ou]) ++ List.replicate (5 - (lg_sl ([.ref h0, .int x, .int y, .ref ou])).length) Slot.unset).toArray = ls at hl ⊢
  have hl : lv_has ls 5 [(0, .ref h0), (1, .int x), (2, .int y), (3, .ref ou)] := hl
  refine lv_aload_n hx hb dL_group_0 rfl (lv_at hl 3 rfl) ?_
  refine lv_iconst (v := 0) hx hb dL_group_1 (by decide) ?_
  refine lv_aload_n hx hb dL_group_2 rfl (lv_at hl 0 rfl) ?_
  refine lv_iload_n hx hb dL_group_3 rfl (lv_at hl 1 rfl) ?_
  refine lv_iload_n hx hb dL_group_4 rfl (lv_at hl 2 rfl) ?_
  refine jx_thr (vx_runV (As := [.int x, .int y]) (rest := [.int 0, .ref ou]) ⟨hx, hb, hml, hown, hts⟩ (gJ_group_a1 l hnt D cI cL cQ h0 tl tr cu bk g fa s1 s2 gs x y (by first | assumption | decide | omega)) (cwV 2 hts gL_group_X5_group rfl rfl rfl (by decide +kernel) ⟨Nat.le_of_ble_eq_true rfl, Nat.le_of_ble_eq_true rfl⟩) (jt_V hK hN hZ hP [0, 1] rfl 5 0 rfl rfl rfl) rfl rfl hl.1 rfl (lv_room (Nat.le_of_ble_eq_true rfl)) dL_group_5 ⟨Nat.le_of_ble_eq_true rfl, Nat.le_of_ble_eq_true rfl⟩) (fun ce q9 H1 hz hk hce hcv hcl => ?_)
  have hP : va_P D vwCl [(h0, .inr (5, [.ref tl, .ref tr, .ref cu, .ref bk, .int 1])), (bk, .inr (1, [.int (nI g), .ref fa, .ref s1, .ref s2, .int (nI gs), .int 1])), (ou, .inl (cL, 1, .inr (.inl fo)))] H1 := hP.kept (fun k x hx => hk x.1 (hP k x hx).lt)
  have hS : va_S A s.heap H1 [] := ⟨hz, fun q h1 _ => hk q h1, fun _ h => nomatch h⟩
  generalize H1 = H at hP hS hce ⊢
  have htab : c.exceptionTable.toList = [⟨0, 9, 12, 19⟩, ⟨0, 9, 16, 13⟩] := vx_table (x := yL_group) B (hts _ List.mem_cons_self)
  refine jc_first (name := "") hown ⟨0, 9, 12, 19⟩ [⟨0, 9, 16, 13⟩] htab (by decide) (by decide) (hts (.classLink RL 19 "java/lang/IllegalArgumentException") (by decide +kernel)) hce hcv hcl ?_
  refine W.eq (g2 := F0 m 12 ls [.ref q9]) rfl ?_
  refine W.widen (k := 1) (n := 6) (by omega) (by omega) ?_
  refine lv_astore (lv' := [(4, .ref q9), (0, .ref h0), (1, .int x), (2, .int y), (3, .ref ou)]) hx hb dL_group_12 hl (by decide) rfl (fun ls hl => ?_)
  refine lv_iconst (v := 1) hx hb dL_group_14 (by decide) ?_
  refine W.widen (k := 1) (n := 6) (by omega) (by omega) ?_
  exact W.iret (v := 1) hx hb hr (fun t ht hW => ⟨⟨1, [(h0, .inr (5, [.ref tl, .ref tr, .ref cu, .ref bk, .int 1])), (bk, .inr (1, [.int (nI g), .ref fa, .ref s1, .ref s2, .int (nI gs), .int 1])), (ou, .inl (cL, 1, .inr (.inl fo)))], rfl, (by exact ⟨rfl, rfl⟩), by rw [ht]; exact hP, hD⟩, hS.F ht⟩) hS.2.2 dL_group_15
set_option maxHeartbeats 1000000 in
set_option maxRecDepth 100000 in
theorem kL_group_a0 (l : Launch) (hnt : l.stackTraces = false) (D : va_G) (cI cL cQ : ClassId) (h0 : Nat) (tl : Nat) (tr : Nat) (cu : Nat) (bk : Nat) (x : Int32) (y : Int32) (ou : Nat) (fo : Nat → Int64) (sz : Nat) (h1 : x < 0 ∨ (y < 0 ∨ 5 ≤ y)) : Met l yL_group wsL_group ({ frames := 8, cells := 1, slots := 6, locals := 125 }) (jh_P D vwCl (jT cI cL cQ) cL cQ [.ref h0, .int x, .int y, .ref ou] [(h0, .inr (5, [.ref tl, .ref tr, .ref cu, .ref bk, .int 0])), (ou, .inl (cL, 1, .inr (.inl fo)))] sz) (va_Qi (fun (r : Int32) (u : va_W) => r = 1 ∧ u = [(h0, .inr (5, [.ref tl, .ref tr, .ref cu, .ref bk, .int 0])), (ou, .inl (cL, 1, .inr (.inl fo)))]) (jw_B D vwCl (va_A [(h0, .inr (5, [.ref tl, .ref tr, .ref cu, .ref bk, .int 0])), (ou, .inl (cL, 1, .inr (.inl fo)))] sz) (fun u : va_W => u)) (va_A [(h0, .inr (5, [.ref tl, .ref tr, .ref cu, .ref bk, .int 0])), (ou, .inl (cL, 1, .inr (.inl fo)))] sz)) 1 6 (va_A [(h0, .inr (5, [.ref tl, .ref tr, .ref cu, .ref bk, .int 0])), (ou, .inl (cL, 1, .inr (.inl fo)))] sz) := by
  refine va_MetW (hh := [(0, 9, 12, 19), (0, 9, 16, 13)]) (cc := cL_group) (maxL := 5) (ret := (some .int)) (by decide) rfl ?_
  intro p e s m args below meth c s₁ B hml hv
  obtain ⟨rfl, hsz, hP, hK, hN, hD0, hZ⟩ := hv
  have hx := B.exec
  have hb := B.bytes
  have hr := B.returns
  have hts := atoms_spec (ws := wsL_group) B.pre
  have hown : s.vm.findClass RL = some m.cls := findClass_of_methodNamed B.named
  have hlocks := B.notSynchronized
  subst hsz
  have hD := hD0.self (sz := s.heap.size)
  generalize hAe : va_A [(h0, .inr (5, [.ref tl, .ref tr, .ref cu, .ref bk, .int 0])), (ou, .inl (cL, 1, .inr (.inl fo)))] s.heap.size = A at hD ⊢
  have hA : ∀ q : Nat, s.heap.size ≤ q → A q := fun q h => by rw [← hAe]; exact Or.inr h
  have hS : va_S A s.heap s.heap [] := va_S.rf
  have hl := lv_entry ([.ref h0, .int x, .int y, .ref ou]) (n := 5) (Nat.le_of_ble_eq_true rfl)
  rw [lg_entry_eq]
  generalize (lg_sl ([.ref h0, .int x, .int y, .ref ou]) ++ List.replicate (5 - (lg_sl ([.ref h0, .int x, .int y, .ref ou])).length) Slot.unset).toArray = ls at hl ⊢
  have hl : lv_has ls 5 [(0, .ref h0), (1, .int x), (2, .int y), (3, .ref ou)] := hl
  refine lv_aload_n hx hb dL_group_0 rfl (lv_at hl 3 rfl) ?_
  refine lv_iconst (v := 0) hx hb dL_group_1 (by decide) ?_
  refine lv_aload_n hx hb dL_group_2 rfl (lv_at hl 0 rfl) ?_
  refine lv_iload_n hx hb dL_group_3 rfl (lv_at hl 1 rfl) ?_
  refine lv_iload_n hx hb dL_group_4 rfl (lv_at hl 2 rfl) ?_
  refine jx_thr (vx_runV (As := [.int x, .int y]) (rest := [.int 0, .ref ou]) ⟨hx, hb, hml, hown, hts⟩ (gJ_group_a0 l hnt D cI cL cQ h0 tl tr cu bk x y (by first | assumption | decide | omega)) (cwV 2 hts gL_group_X5_group rfl rfl rfl (by decide +kernel) ⟨Nat.le_of_ble_eq_true rfl, Nat.le_of_ble_eq_true rfl⟩) (jt_V hK hN hZ hP [0] rfl 5 0 rfl rfl rfl) rfl rfl hl.1 rfl (lv_room (Nat.le_of_ble_eq_true rfl)) dL_group_5 ⟨Nat.le_of_ble_eq_true rfl, Nat.le_of_ble_eq_true rfl⟩) (fun ce q9 H1 hz hk hce hcv hcl => ?_)
  have hP : va_P D vwCl [(h0, .inr (5, [.ref tl, .ref tr, .ref cu, .ref bk, .int 0])), (ou, .inl (cL, 1, .inr (.inl fo)))] H1 := hP.kept (fun k x hx => hk x.1 (hP k x hx).lt)
  have hS : va_S A s.heap H1 [] := ⟨hz, fun q h1 _ => hk q h1, fun _ h => nomatch h⟩
  generalize H1 = H at hP hS hce ⊢
  have htab : c.exceptionTable.toList = [⟨0, 9, 12, 19⟩, ⟨0, 9, 16, 13⟩] := vx_table (x := yL_group) B (hts _ List.mem_cons_self)
  refine jc_first (name := "") hown ⟨0, 9, 12, 19⟩ [⟨0, 9, 16, 13⟩] htab (by decide) (by decide) (hts (.classLink RL 19 "java/lang/IllegalArgumentException") (by decide +kernel)) hce hcv hcl ?_
  refine W.eq (g2 := F0 m 12 ls [.ref q9]) rfl ?_
  refine W.widen (k := 1) (n := 6) (by omega) (by omega) ?_
  refine lv_astore (lv' := [(4, .ref q9), (0, .ref h0), (1, .int x), (2, .int y), (3, .ref ou)]) hx hb dL_group_12 hl (by decide) rfl (fun ls hl => ?_)
  refine lv_iconst (v := 1) hx hb dL_group_14 (by decide) ?_
  refine W.widen (k := 1) (n := 6) (by omega) (by omega) ?_
  exact W.iret (v := 1) hx hb hr (fun t ht hW => ⟨⟨1, [(h0, .inr (5, [.ref tl, .ref tr, .ref cu, .ref bk, .int 0])), (ou, .inl (cL, 1, .inr (.inl fo)))], rfl, (by exact ⟨rfl, rfl⟩), by rw [ht]; exact hP, hD⟩, hS.F ht⟩) hS.2.2 dL_group_15
set_option maxHeartbeats 1000000 in
set_option maxRecDepth 100000 in
theorem kL_group_s0 (l : Launch) (hnt : l.stackTraces = false) (D : va_G) (cI cL cQ : ClassId) (h0 : Nat) (tl : Nat) (tr : Nat) (cu : Nat) (bk : Nat) (x : Int32) (y : Int32) (ou : Nat) (fo : Nat → Int64) (sz : Nat) (h1 : ¬ x < 0) (h2 : ¬ y < 0) (h3 : ¬ 5 ≤ y) : Met l yL_group wsL_group ({ frames := 8, cells := 1, slots := 6, locals := 125 }) (jh_P D vwCl (jT cI cL cQ) cL cQ [.ref h0, .int x, .int y, .ref ou] [(h0, .inr (5, [.ref tl, .ref tr, .ref cu, .ref bk, .int 0])), (ou, .inl (cL, 1, .inr (.inl fo)))] sz) (va_Qi (fun (r : Int32) (u : va_W) => r = 2 ∧ u = [(h0, .inr (5, [.ref tl, .ref tr, .ref cu, .ref bk, .int 0])), (ou, .inl (cL, 1, .inr (.inl fo)))]) (jw_B D vwCl (va_A [(h0, .inr (5, [.ref tl, .ref tr, .ref cu, .ref bk, .int 0])), (ou, .inl (cL, 1, .inr (.inl fo)))] sz) (fun u : va_W => u)) (va_A [(h0, .inr (5, [.ref tl, .ref tr, .ref cu, .ref bk, .int 0])), (ou, .inl (cL, 1, .inr (.inl fo)))] sz)) 1 6 (va_A [(h0, .inr (5, [.ref tl, .ref tr, .ref cu, .ref bk, .int 0])), (ou, .inl (cL, 1, .inr (.inl fo)))] sz) := by
  refine va_MetW (hh := [(0, 9, 12, 19), (0, 9, 16, 13)]) (cc := cL_group) (maxL := 5) (ret := (some .int)) (by decide) rfl ?_
  intro p e s m args below meth c s₁ B hml hv
  obtain ⟨rfl, hsz, hP, hK, hN, hD0, hZ⟩ := hv
  have hx := B.exec
  have hb := B.bytes
  have hr := B.returns
  have hts := atoms_spec (ws := wsL_group) B.pre
  have hown : s.vm.findClass RL = some m.cls := findClass_of_methodNamed B.named
  have hlocks := B.notSynchronized
  subst hsz
  have hD := hD0.self (sz := s.heap.size)
  generalize hAe : va_A [(h0, .inr (5, [.ref tl, .ref tr, .ref cu, .ref bk, .int 0])), (ou, .inl (cL, 1, .inr (.inl fo)))] s.heap.size = A at hD ⊢
  have hA : ∀ q : Nat, s.heap.size ≤ q → A q := fun q h => by rw [← hAe]; exact Or.inr h
  have hS : va_S A s.heap s.heap [] := va_S.rf
  have hl := lv_entry ([.ref h0, .int x, .int y, .ref ou]) (n := 5) (Nat.le_of_ble_eq_true rfl)
  rw [lg_entry_eq]
  generalize (lg_sl ([.ref h0, .int x, .int y, .ref ou]) ++ List.replicate (5 - (lg_sl ([.ref h0, .int x, .int y, .ref ou])).length) Slot.unset).toArray = ls at hl ⊢
  have hl : lv_has ls 5 [(0, .ref h0), (1, .int x), (2, .int y), (3, .ref ou)] := hl
  refine lv_aload_n hx hb dL_group_0 rfl (lv_at hl 3 rfl) ?_
  refine lv_iconst (v := 0) hx hb dL_group_1 (by decide) ?_
  refine lv_aload_n hx hb dL_group_2 rfl (lv_at hl 0 rfl) ?_
  refine lv_iload_n hx hb dL_group_3 rfl (lv_at hl 1 rfl) ?_
  refine lv_iload_n hx hb dL_group_4 rfl (lv_at hl 2 rfl) ?_
  refine jx_thr (vx_runV (As := [.int x, .int y]) (rest := [.int 0, .ref ou]) ⟨hx, hb, hml, hown, hts⟩ (gJ_group_s0 l hnt D cI cL cQ h0 tl tr cu bk x y (by first | assumption | decide | omega) (by first | assumption | decide | omega) (by first | assumption | decide | omega)) (cwV 2 hts gL_group_X5_group rfl rfl rfl (by decide +kernel) ⟨Nat.le_of_ble_eq_true rfl, Nat.le_of_ble_eq_true rfl⟩) (jt_V hK hN hZ hP [0] rfl 5 0 rfl rfl rfl) rfl rfl hl.1 rfl (lv_room (Nat.le_of_ble_eq_true rfl)) dL_group_5 ⟨Nat.le_of_ble_eq_true rfl, Nat.le_of_ble_eq_true rfl⟩) (fun ce q9 H1 hz hk hce hcv hcl => ?_)
  have hP : va_P D vwCl [(h0, .inr (5, [.ref tl, .ref tr, .ref cu, .ref bk, .int 0])), (ou, .inl (cL, 1, .inr (.inl fo)))] H1 := hP.kept (fun k x hx => hk x.1 (hP k x hx).lt)
  have hS : va_S A s.heap H1 [] := ⟨hz, fun q h1 _ => hk q h1, fun _ h => nomatch h⟩
  generalize H1 = H at hP hS hce ⊢
  have htab : c.exceptionTable.toList = [⟨0, 9, 12, 19⟩, ⟨0, 9, 16, 13⟩] := vx_table (x := yL_group) B (hts _ List.mem_cons_self)
  refine jc_second hown ⟨0, 9, 12, 19⟩ ⟨0, 9, 16, 13⟩ [] htab (by decide) (by decide) (by decide) (by decide) (hts (.classLink RL 19 "java/lang/IllegalArgumentException") (by decide +kernel)) (hZ.2.2.2.2.2.2.1 _ (by decide +kernel) _ (by decide +kernel) (by decide +kernel)) (hts (.classLink RL 13 "java/lang/IllegalStateException") (by decide +kernel)) hce hcv hcl ?_
  refine W.eq (g2 := F0 m 16 ls [.ref q9]) rfl ?_
  refine W.widen (k := 1) (n := 6) (by omega) (by omega) ?_
  refine lv_astore (lv' := [(4, .ref q9), (0, .ref h0), (1, .int x), (2, .int y), (3, .ref ou)]) hx hb dL_group_16 hl (by decide) rfl (fun ls hl => ?_)
  refine lv_iconst (v := 2) hx hb dL_group_18 (by decide) ?_
  refine W.widen (k := 1) (n := 6) (by omega) (by omega) ?_
  exact W.iret (v := 2) hx hb hr (fun t ht hW => ⟨⟨2, [(h0, .inr (5, [.ref tl, .ref tr, .ref cu, .ref bk, .int 0])), (ou, .inl (cL, 1, .inr (.inl fo)))], rfl, (by exact ⟨rfl, rfl⟩), by rw [ht]; exact hP, hD⟩, hS.F ht⟩) hS.2.2 dL_group_19
set_option maxHeartbeats 1000000 in
set_option maxRecDepth 100000 in
theorem kL_group_a10 (l : Launch) (hnt : l.stackTraces = false) (D : va_G) (cI cL cQ : ClassId) (h0 : Nat) (tl : Nat) (tr : Nat) (cu : Nat) (bk : Nat) (g : Nat) (fa : Nat) (s1 : Nat) (s2 : Nat) (gs : Nat) (x : Int32) (y : Int32) (ou : Nat) (fo : Nat → Int64) (sz : Nat) (h1 : x < 0 ∨ (y < 0 ∨ 5 ≤ y)) : Met l yL_group wsL_group ({ frames := 8, cells := 1, slots := 6, locals := 125 }) (jh_P D vwCl (jT cI cL cQ) cL cQ [.ref h0, .int x, .int y, .ref ou] [(h0, .inr (5, [.ref tl, .ref tr, .ref cu, .ref bk, .int 1])), (bk, .inr (1, [.int (nI g), .ref fa, .ref s1, .ref s2, .int (nI gs), .int 0])), (ou, .inl (cL, 1, .inr (.inl fo)))] sz) (va_Qi (fun (r : Int32) (u : va_W) => r = 1 ∧ u = [(h0, .inr (5, [.ref tl, .ref tr, .ref cu, .ref bk, .int 1])), (bk, .inr (1, [.int (nI g), .ref fa, .ref s1, .ref s2, .int (nI gs), .int 0])), (ou, .inl (cL, 1, .inr (.inl fo)))]) (jw_B D vwCl (va_A [(h0, .inr (5, [.ref tl, .ref tr, .ref cu, .ref bk, .int 1])), (bk, .inr (1, [.int (nI g), .ref fa, .ref s1, .ref s2, .int (nI gs), .int 0])), (ou, .inl (cL, 1, .inr (.inl fo)))] sz) (fun u : va_W => u)) (va_A [(h0, .inr (5, [.ref tl, .ref tr, .ref cu, .ref bk, .int 1])), (bk, .inr (1, [.int (nI g), .ref fa, .ref s1, .ref s2, .int (nI gs), .int 0])), (ou, .inl (cL, 1, .inr (.inl fo)))] sz)) 1 6 (va_A [(h0, .inr (5, [.ref tl, .ref tr, .ref cu, .ref bk, .int 1])), (bk, .inr (1, [.int (nI g), .ref fa, .ref s1, .ref s2, .int (nI gs), .int 0])), (ou, .inl (cL, 1, .inr (.inl fo)))] sz) := by
  refine va_MetW (hh := [(0, 9, 12, 19), (0, 9, 16, 13)]) (cc := cL_group) (maxL := 5) (ret := (some .int)) (by decide) rfl ?_
  intro p e s m args below meth c s₁ B hml hv
  obtain ⟨rfl, hsz, hP, hK, hN, hD0, hZ⟩ := hv
  have hx := B.exec
  have hb := B.bytes
  have hr := B.returns
  have hts := atoms_spec (ws := wsL_group) B.pre
  have hown : s.vm.findClass RL = some m.cls := findClass_of_methodNamed B.named
  have hlocks := B.notSynchronized
  subst hsz
  have hD := hD0.self (sz := s.heap.size)
  generalize hAe : va_A [(h0, .inr (5, [.ref tl, .ref tr, .ref cu, .ref bk, .int 1])), (bk, .inr (1, [.int (nI g), .ref fa, .ref s1, .ref s2, .int (nI gs), .int 0])), (ou, .inl (cL, 1, .inr (.inl fo)))] s.heap.size = A at hD ⊢
  have hA : ∀ q : Nat, s.heap.size ≤ q → A q := fun q h => by rw [← hAe]; exact Or.inr h
  have hS : va_S A s.heap s.heap [] := va_S.rf
  have hl := lv_entry ([.ref h0, .int x, .int y, .ref ou]) (n := 5) (Nat.le_of_ble_eq_true rfl)
  rw [lg_entry_eq]
  generalize (lg_sl ([.ref h0, .int x, .int y, .ref ou]) ++ List.replicate (5 - (lg_sl ([.ref h0, .int x, .int y, .ref ou])).length) Slot.unset).toArray = ls at hl ⊢
  have hl : lv_has ls 5 [(0, .ref h0), (1, .int x), (2, .int y), (3, .ref ou)] := hl
  refine lv_aload_n hx hb dL_group_0 rfl (lv_at hl 3 rfl) ?_
  refine lv_iconst (v := 0) hx hb dL_group_1 (by decide) ?_
  refine lv_aload_n hx hb dL_group_2 rfl (lv_at hl 0 rfl) ?_
  refine lv_iload_n hx hb dL_group_3 rfl (lv_at hl 1 rfl) ?_
  refine lv_iload_n hx hb dL_group_4 rfl (lv_at hl 2 rfl) ?_
  refine jx_thr (vx_runV (As := [.int x, .int y]) (rest := [.int 0, .ref ou]) ⟨hx, hb, hml, hown, hts⟩ (gJ_group_a10 l hnt D cI cL cQ h0 tl tr cu bk g fa s1 s2 gs x y (by first | assumption | decide | omega)) (cwV 2 hts gL_group_X5_group rfl rfl rfl (by decide +kernel) ⟨Nat.le_of_ble_eq_true rfl, Nat.le_of_ble_eq_true rfl⟩) (jt_V hK hN hZ hP [0, 1] rfl 5 0 rfl rfl rfl) rfl rfl hl.1 rfl (lv_room (Nat.le_of_ble_eq_true rfl)) dL_group_5 ⟨Nat.le_of_ble_eq_true rfl, Nat.le_of_ble_eq_true rfl⟩) (fun ce q9 H1 hz hk hce hcv hcl => ?_)
  have hP : va_P D vwCl [(h0, .inr (5, [.ref tl, .ref tr, .ref cu, .ref bk, .int 1])), (bk, .inr (1, [.int (nI g), .ref fa, .ref s1, .ref s2, .int (nI gs), .int 0])), (ou, .inl (cL, 1, .inr (.inl fo)))] H1 := hP.kept (fun k x hx => hk x.1 (hP k x hx).lt)
  have hS : va_S A s.heap H1 [] := ⟨hz, fun q h1 _ => hk q h1, fun _ h => nomatch h⟩
  generalize H1 = H at hP hS hce ⊢
  have htab : c.exceptionTable.toList = [⟨0, 9, 12, 19⟩, ⟨0, 9, 16, 13⟩] := vx_table (x := yL_group) B (hts _ List.mem_cons_self)
  refine jc_first (name := "") hown ⟨0, 9, 12, 19⟩ [⟨0, 9, 16, 13⟩] htab (by decide) (by decide) (hts (.classLink RL 19 "java/lang/IllegalArgumentException") (by decide +kernel)) hce hcv hcl ?_
  refine W.eq (g2 := F0 m 12 ls [.ref q9]) rfl ?_
  refine W.widen (k := 1) (n := 6) (by omega) (by omega) ?_
  refine lv_astore (lv' := [(4, .ref q9), (0, .ref h0), (1, .int x), (2, .int y), (3, .ref ou)]) hx hb dL_group_12 hl (by decide) rfl (fun ls hl => ?_)
  refine lv_iconst (v := 1) hx hb dL_group_14 (by decide) ?_
  refine W.widen (k := 1) (n := 6) (by omega) (by omega) ?_
  exact W.iret (v := 1) hx hb hr (fun t ht hW => ⟨⟨1, [(h0, .inr (5, [.ref tl, .ref tr, .ref cu, .ref bk, .int 1])), (bk, .inr (1, [.int (nI g), .ref fa, .ref s1, .ref s2, .int (nI gs), .int 0])), (ou, .inl (cL, 1, .inr (.inl fo)))], rfl, (by exact ⟨rfl, rfl⟩), by rw [ht]; exact hP, hD⟩, hS.F ht⟩) hS.2.2 dL_group_15
set_option maxHeartbeats 1000000 in
set_option maxRecDepth 100000 in
theorem kL_group_s10 (l : Launch) (hnt : l.stackTraces = false) (D : va_G) (cI cL cQ : ClassId) (h0 : Nat) (tl : Nat) (tr : Nat) (cu : Nat) (bk : Nat) (g : Nat) (fa : Nat) (s1 : Nat) (s2 : Nat) (gs : Nat) (x : Int32) (y : Int32) (ou : Nat) (fo : Nat → Int64) (sz : Nat) (h1 : ¬ x < 0) (h2 : ¬ y < 0) (h3 : ¬ 5 ≤ y) : Met l yL_group wsL_group ({ frames := 8, cells := 1, slots := 6, locals := 125 }) (jh_P D vwCl (jT cI cL cQ) cL cQ [.ref h0, .int x, .int y, .ref ou] [(h0, .inr (5, [.ref tl, .ref tr, .ref cu, .ref bk, .int 1])), (bk, .inr (1, [.int (nI g), .ref fa, .ref s1, .ref s2, .int (nI gs), .int 0])), (ou, .inl (cL, 1, .inr (.inl fo)))] sz) (va_Qi (fun (r : Int32) (u : va_W) => r = 2 ∧ u = [(h0, .inr (5, [.ref tl, .ref tr, .ref cu, .ref bk, .int 1])), (bk, .inr (1, [.int (nI g), .ref fa, .ref s1, .ref s2, .int (nI gs), .int 0])), (ou, .inl (cL, 1, .inr (.inl fo)))]) (jw_B D vwCl (va_A [(h0, .inr (5, [.ref tl, .ref tr, .ref cu, .ref bk, .int 1])), (bk, .inr (1, [.int (nI g), .ref fa, .ref s1, .ref s2, .int (nI gs), .int 0])), (ou, .inl (cL, 1, .inr (.inl fo)))] sz) (fun u : va_W => u)) (va_A [(h0, .inr (5, [.ref tl, .ref tr, .ref cu, .ref bk, .int 1])), (bk, .inr (1, [.int (nI g), .ref fa, .ref s1, .ref s2, .int (nI gs), .int 0])), (ou, .inl (cL, 1, .inr (.inl fo)))] sz)) 1 6 (va_A [(h0, .inr (5, [.ref tl, .ref tr, .ref cu, .ref bk, .int 1])), (bk, .inr (1, [.int (nI g), .ref fa, .ref s1, .ref s2, .int (nI gs), .int 0])), (ou, .inl (cL, 1, .inr (.inl fo)))] sz) := by
  refine va_MetW (hh := [(0, 9, 12, 19), (0, 9, 16, 13)]) (cc := cL_group) (maxL := 5) (ret := (some .int)) (by decide) rfl ?_
  intro p e s m args below meth c s₁ B hml hv
  obtain ⟨rfl, hsz, hP, hK, hN, hD0, hZ⟩ := hv
  have hx := B.exec
  have hb := B.bytes
  have hr := B.returns
  have hts := atoms_spec (ws := wsL_group) B.pre
  have hown : s.vm.findClass RL = some m.cls := findClass_of_methodNamed B.named
  have hlocks := B.notSynchronized
  subst hsz
  have hD := hD0.self (sz := s.heap.size)
  generalize hAe : va_A [(h0, .inr (5, [.ref tl, .ref tr, .ref cu, .ref bk, .int 1])), (bk, .inr (1, [.int (nI g), .ref fa, .ref s1, .ref s2, .int (nI gs), .int 0])), (ou, .inl (cL, 1, .inr (.inl fo)))] s.heap.size = A at hD ⊢
  have hA : ∀ q : Nat, s.heap.size ≤ q → A q := fun q h => by rw [← hAe]; exact Or.inr h
  have hS : va_S A s.heap s.heap [] := va_S.rf
  have hl := lv_entry ([.ref h0, .int x, .int y, .ref ou]) (n := 5) (Nat.le_of_ble_eq_true rfl)
  rw [lg_entry_eq]
  generalize (lg_sl ([.ref h0, .int x, .int y, .ref ou]) ++ List.replicate (5 - (lg_sl ([.ref h0, .int x, .int y, .ref ou])).length) Slot.unset).toArray = ls at hl ⊢
  have hl : lv_has ls 5 [(0, .ref h0), (1, .int x), (2, .int y), (3, .ref ou)] := hl
  refine lv_aload_n hx hb dL_group_0 rfl (lv_at hl 3 rfl) ?_
  refine lv_iconst (v := 0) hx hb dL_group_1 (by decide) ?_
  refine lv_aload_n hx hb dL_group_2 rfl (lv_at hl 0 rfl) ?_
  refine lv_iload_n hx hb dL_group_3 rfl (lv_at hl 1 rfl) ?_
  refine lv_iload_n hx hb dL_group_4 rfl (lv_at hl 2 rfl) ?_
  refine jx_thr (vx_runV (As := [.int x, .int y]) (rest := [.int 0, .ref ou]) ⟨hx, hb, hml, hown, hts⟩ (gJ_group_s10 l hnt D cI cL cQ h0 tl tr cu bk g fa s1 s2 gs x y (by first | assumption | decide | omega) (by first | assumption | decide | omega) (by first | assumption | decide | omega)) (cwV 2 hts gL_group_X5_group rfl rfl rfl (by decide +kernel) ⟨Nat.le_of_ble_eq_true rfl, Nat.le_of_ble_eq_true rfl⟩) (jt_V hK hN hZ hP [0, 1] rfl 5 0 rfl rfl rfl) rfl rfl hl.1 rfl (lv_room (Nat.le_of_ble_eq_true rfl)) dL_group_5 ⟨Nat.le_of_ble_eq_true rfl, Nat.le_of_ble_eq_true rfl⟩) (fun ce q9 H1 hz hk hce hcv hcl => ?_)
  have hP : va_P D vwCl [(h0, .inr (5, [.ref tl, .ref tr, .ref cu, .ref bk, .int 1])), (bk, .inr (1, [.int (nI g), .ref fa, .ref s1, .ref s2, .int (nI gs), .int 0])), (ou, .inl (cL, 1, .inr (.inl fo)))] H1 := hP.kept (fun k x hx => hk x.1 (hP k x hx).lt)
  have hS : va_S A s.heap H1 [] := ⟨hz, fun q h1 _ => hk q h1, fun _ h => nomatch h⟩
  generalize H1 = H at hP hS hce ⊢
  have htab : c.exceptionTable.toList = [⟨0, 9, 12, 19⟩, ⟨0, 9, 16, 13⟩] := vx_table (x := yL_group) B (hts _ List.mem_cons_self)
  refine jc_second hown ⟨0, 9, 12, 19⟩ ⟨0, 9, 16, 13⟩ [] htab (by decide) (by decide) (by decide) (by decide) (hts (.classLink RL 19 "java/lang/IllegalArgumentException") (by decide +kernel)) (hZ.2.2.2.2.2.2.1 _ (by decide +kernel) _ (by decide +kernel) (by decide +kernel)) (hts (.classLink RL 13 "java/lang/IllegalStateException") (by decide +kernel)) hce hcv hcl ?_
  refine W.eq (g2 := F0 m 16 ls [.ref q9]) rfl ?_
  refine W.widen (k := 1) (n := 6) (by omega) (by omega) ?_
  refine lv_astore (lv' := [(4, .ref q9), (0, .ref h0), (1, .int x), (2, .int y), (3, .ref ou)]) hx hb dL_group_16 hl (by decide) rfl (fun ls hl => ?_)
  refine lv_iconst (v := 2) hx hb dL_group_18 (by decide) ?_
  refine W.widen (k := 1) (n := 6) (by omega) (by omega) ?_
  exact W.iret (v := 2) hx hb hr (fun t ht hW => ⟨⟨2, [(h0, .inr (5, [.ref tl, .ref tr, .ref cu, .ref bk, .int 1])), (bk, .inr (1, [.int (nI g), .ref fa, .ref s1, .ref s2, .int (nI gs), .int 0])), (ou, .inl (cL, 1, .inr (.inl fo)))], rfl, (by exact ⟨rfl, rfl⟩), by rw [ht]; exact hP, hD⟩, hS.F ht⟩) hS.2.2 dL_group_19
set_option maxHeartbeats 1000000 in
set_option maxRecDepth 100000 in
theorem kL_sorted_10 (l : Launch) (hnt : l.stackTraces = false) (D : va_G) (cI cL cQ : ClassId) (h0 : Nat) (tl : Nat) (tr : Nat) (cu : Nat) (bk : Nat) (a : Nat) (n : Nat) (pl : Nat) (lk : Nat) (lv : Nat) (lo : Nat) (lp : Nat) (ll : Nat) (lf : Nat) (gk : Nat → Int32) (gv : Nat → Int32) (go : Nat → Int32) (x : Int32) (ou : Nat) (fo : Nat → Int64) (sz : Nat) (ha : a ≤ 400) (hn : n ≤ a) (ho : jord a go) (h1 : ¬ x < 0) (h2 : ¬ nI n ≤ x) : Met l yL_sorted wsL_sorted ({ frames := 3, cells := 0, slots := 0, locals := 66 }) (jh_P D vwCl (jT cI cL cQ) cL cQ [.ref h0, .int 1, .int x, .int 0, .ref ou] [(h0, .inr (5, [.ref tl, .ref tr, .ref cu, .ref bk, .int 1])), (tl, .inr (4, [.int (nI a), .ref lk, .ref lv, .ref lo, .ref lp, .ref ll, .ref lf, .int (nI n), .int (nI pl)])), (lk, .inl (cI, a, .inl gk)), (lv, .inl (cI, a, .inl gv)), (lo, .inl (cI, a, .inl go)), (ou, .inl (cL, 1, .inr (.inl fo)))] sz) (va_Qi (fun (r : Int32) (u : va_W) => r = 0 ∧ u = [(h0, .inr (5, [.ref tl, .ref tr, .ref cu, .ref bk, .int 1])), (tl, .inr (4, [.int (nI a), .ref lk, .ref lv, .ref lo, .ref lp, .ref ll, .ref lf, .int (nI n), .int (nI pl)])), (lk, .inl (cI, a, .inl gk)), (lv, .inl (cI, a, .inl gv)), (lo, .inl (cI, a, .inl go)), (ou, .inl (cL, 1, .inr (.inl (vp_updL fo (0 : Int32).toNatClampNeg ((jat n gk go x).toInt64)))))]) (jw_B D vwCl (va_A [(h0, .inr (5, [.ref tl, .ref tr, .ref cu, .ref bk, .int 1])), (tl, .inr (4, [.int (nI a), .ref lk, .ref lv, .ref lo, .ref lp, .ref ll, .ref lf, .int (nI n), .int (nI pl)])), (lk, .inl (cI, a, .inl gk)), (lv, .inl (cI, a, .inl gv)), (lo, .inl (cI, a, .inl go)), (ou, .inl (cL, 1, .inr (.inl fo)))] sz) (fun u : va_W => u)) (va_A [(h0, .inr (5, [.ref tl, .ref tr, .ref cu, .ref bk, .int 1])), (tl, .inr (4, [.int (nI a), .ref lk, .ref lv, .ref lo, .ref lp, .ref ll, .ref lf, .int (nI n), .int (nI pl)])), (lk, .inl (cI, a, .inl gk)), (lv, .inl (cI, a, .inl gv)), (lo, .inl (cI, a, .inl go)), (ou, .inl (cL, 1, .inr (.inl fo)))] sz)) 0 0 (va_A [(h0, .inr (5, [.ref tl, .ref tr, .ref cu, .ref bk, .int 1])), (tl, .inr (4, [.int (nI a), .ref lk, .ref lv, .ref lo, .ref lp, .ref ll, .ref lf, .int (nI n), .int (nI pl)])), (lk, .inl (cI, a, .inl gk)), (lv, .inl (cI, a, .inl gv)), (lo, .inl (cI, a, .inl go)), (ou, .inl (cL, 1, .inr (.inl fo)))] sz) := by
  refine va_MetW (hh := [(0, 12, 15, 19), (0, 12, 19, 13)]) (cc := cL_sorted) (maxL := 6) (ret := (some .int)) (by decide) rfl ?_
  intro p e s m args below meth c s₁ B hml hv
  obtain ⟨rfl, hsz, hP, hK, hN, hD0, hZ⟩ := hv
  have hx := B.exec
  have hb := B.bytes
  have hr := B.returns
  have hts := atoms_spec (ws := wsL_sorted) B.pre
  have hown : s.vm.findClass RL = some m.cls := findClass_of_methodNamed B.named
  have hlocks := B.notSynchronized
  subst hsz
  have hD := hD0.self (sz := s.heap.size)
  generalize hAe : va_A [(h0, .inr (5, [.ref tl, .ref tr, .ref cu, .ref bk, .int 1])), (tl, .inr (4, [.int (nI a), .ref lk, .ref lv, .ref lo, .ref lp, .ref ll, .ref lf, .int (nI n), .int (nI pl)])), (lk, .inl (cI, a, .inl gk)), (lv, .inl (cI, a, .inl gv)), (lo, .inl (cI, a, .inl go)), (ou, .inl (cL, 1, .inr (.inl fo)))] s.heap.size = A at hD ⊢
  have hA : ∀ q : Nat, s.heap.size ≤ q → A q := fun q h => by rw [← hAe]; exact Or.inr h
  have hS : va_S A s.heap s.heap [] := va_S.rf
  have hl := lv_entry ([.ref h0, .int 1, .int x, .int 0, .ref ou]) (n := 6) (Nat.le_of_ble_eq_true rfl)
  rw [lg_entry_eq]
  generalize (lg_sl ([.ref h0, .int 1, .int x, .int 0, .ref ou]) ++ List.replicate (6 - (lg_sl ([.ref h0, .int 1, .int x, .int 0, .ref ou])).length) Slot.unset).toArray = ls at hl ⊢
  have hl : lv_has ls 6 [(0, .ref h0), (1, .int 1), (2, .int x), (3, .int 0), (4, .ref ou)] := hl
  refine lv_aload hx hb dL_sorted_0 (lv_at hl 4 rfl) ?_
  refine lv_iconst (v := 0) hx hb dL_sorted_2 (by decide) ?_
  refine lv_aload_n hx hb dL_sorted_3 rfl (lv_at hl 0 rfl) ?_
  refine lv_iload_n hx hb dL_sorted_4 rfl (lv_at hl 1 rfl) ?_
  refine lv_iload_n hx hb dL_sorted_5 rfl (lv_at hl 2 rfl) ?_
  refine lv_iload_n hx hb dL_sorted_6 rfl (lv_at hl 3 rfl) ?_
  refine vp_callSi (va_Run.run (va_runV (As := [.int 1, .int x, .int 0]) (rest := [.int 0, .ref ou]) ⟨hx, hb, hml, hown, hts⟩ (gJ_sorted_10 l D cI cL cQ h0 tl tr cu bk a n pl lk lv lo lp ll lf gk gv go x (by first | assumption | decide | omega) (by first | assumption | decide | omega) (by first | assumption | decide | omega) (by first | assumption | decide | omega) (by first | assumption | decide | omega)) (cwV 3 hts gL_sorted_X5_sorted rfl rfl rfl (by decide +kernel) ⟨Nat.le_of_ble_eq_true rfl, Nat.le_of_ble_eq_true rfl⟩) (jr_V hK hN hP [0, 1, 2, 3, 4] rfl 5 0 rfl rfl rfl) rfl rfl hl.1 rfl (lv_room (Nat.le_of_ble_eq_true rfl)) dL_sorted_7 ⟨Nat.le_of_ble_eq_true rfl, Nat.le_of_ble_eq_true rfl⟩)) (fun r f_1 => ?_)
  obtain rfl := f_1
  refine lv_i2l (v := (jat n gk go x).toInt64) hx hb dL_sorted_10 (by first | rfl | decide) ?_
  refine va_last hx hb hK hP hD hS 5 1 rfl rfl (by unfold vp_in; decide) dL_sorted_11 (fun H locs hP hD hS => ?_)
  have hP : va_P D vwCl [(h0, .inr (5, [.ref tl, .ref tr, .ref cu, .ref bk, .int 1])), (tl, .inr (4, [.int (nI a), .ref lk, .ref lv, .ref lo, .ref lp, .ref ll, .ref lf, .int (nI n), .int (nI pl)])), (lk, .inl (cI, a, .inl gk)), (lv, .inl (cI, a, .inl gv)), (lo, .inl (cI, a, .inl go)), (ou, .inl (cL, 1, .inr (.inl (vp_updL fo (0 : Int32).toNatClampNeg ((jat n gk go x).toInt64)))))] H := hP
  have hD : va_D A [(h0, .inr (5, [.ref tl, .ref tr, .ref cu, .ref bk, .int 1])), (tl, .inr (4, [.int (nI a), .ref lk, .ref lv, .ref lo, .ref lp, .ref ll, .ref lf, .int (nI n), .int (nI pl)])), (lk, .inl (cI, a, .inl gk)), (lv, .inl (cI, a, .inl gv)), (lo, .inl (cI, a, .inl go)), (ou, .inl (cL, 1, .inr (.inl (vp_updL fo (0 : Int32).toNatClampNeg ((jat n gk go x).toInt64)))))] := hD
  refine lv_goto (tgt := 23) hx hb dL_sorted_12 (by decide) ?_
  refine lv_iconst (v := 0) hx hb dL_sorted_23 (by decide) ?_
  refine W.widen (k := 0) (n := 0) (by omega) (by omega) ?_
  exact W.iret (v := 0) hx hb hr (fun t ht hW => ⟨⟨0, [(h0, .inr (5, [.ref tl, .ref tr, .ref cu, .ref bk, .int 1])), (tl, .inr (4, [.int (nI a), .ref lk, .ref lv, .ref lo, .ref lp, .ref ll, .ref lf, .int (nI n), .int (nI pl)])), (lk, .inl (cI, a, .inl gk)), (lv, .inl (cI, a, .inl gv)), (lo, .inl (cI, a, .inl go)), (ou, .inl (cL, 1, .inr (.inl (vp_updL fo (0 : Int32).toNatClampNeg ((jat n gk go x).toInt64)))))], rfl, (⟨rfl, rfl⟩), by rw [ht]; exact hP, hD⟩, hS.F ht⟩) hS.2.2 dL_sorted_24
set_option maxHeartbeats 1000000 in
set_option maxRecDepth 100000 in
theorem kL_sorted_11 (l : Launch) (hnt : l.stackTraces = false) (D : va_G) (cI cL cQ : ClassId) (h0 : Nat) (tl : Nat) (tr : Nat) (cu : Nat) (bk : Nat) (a : Nat) (n : Nat) (pl : Nat) (lk : Nat) (lv : Nat) (lo : Nat) (lp : Nat) (ll : Nat) (lf : Nat) (gk : Nat → Int32) (gv : Nat → Int32) (go : Nat → Int32) (x : Int32) (ou : Nat) (fo : Nat → Int64) (sz : Nat) (ha : a ≤ 400) (hn : n ≤ a) (ho : jord a go) (h1 : ¬ x < 0) (h2 : ¬ nI n ≤ x) : Met l yL_sorted wsL_sorted ({ frames := 3, cells := 0, slots := 0, locals := 66 }) (jh_P D vwCl (jT cI cL cQ) cL cQ [.ref h0, .int 1, .int x, .int 1, .ref ou] [(h0, .inr (5, [.ref tl, .ref tr, .ref cu, .ref bk, .int 1])), (tl, .inr (4, [.int (nI a), .ref lk, .ref lv, .ref lo, .ref lp, .ref ll, .ref lf, .int (nI n), .int (nI pl)])), (lk, .inl (cI, a, .inl gk)), (lv, .inl (cI, a, .inl gv)), (lo, .inl (cI, a, .inl go)), (ou, .inl (cL, 1, .inr (.inl fo)))] sz) (va_Qi (fun (r : Int32) (u : va_W) => r = 0 ∧ u = [(h0, .inr (5, [.ref tl, .ref tr, .ref cu, .ref bk, .int 1])), (tl, .inr (4, [.int (nI a), .ref lk, .ref lv, .ref lo, .ref lp, .ref ll, .ref lf, .int (nI n), .int (nI pl)])), (lk, .inl (cI, a, .inl gk)), (lv, .inl (cI, a, .inl gv)), (lo, .inl (cI, a, .inl go)), (ou, .inl (cL, 1, .inr (.inl (vp_updL fo (0 : Int32).toNatClampNeg ((jat n gv go x).toInt64)))))]) (jw_B D vwCl (va_A [(h0, .inr (5, [.ref tl, .ref tr, .ref cu, .ref bk, .int 1])), (tl, .inr (4, [.int (nI a), .ref lk, .ref lv, .ref lo, .ref lp, .ref ll, .ref lf, .int (nI n), .int (nI pl)])), (lk, .inl (cI, a, .inl gk)), (lv, .inl (cI, a, .inl gv)), (lo, .inl (cI, a, .inl go)), (ou, .inl (cL, 1, .inr (.inl fo)))] sz) (fun u : va_W => u)) (va_A [(h0, .inr (5, [.ref tl, .ref tr, .ref cu, .ref bk, .int 1])), (tl, .inr (4, [.int (nI a), .ref lk, .ref lv, .ref lo, .ref lp, .ref ll, .ref lf, .int (nI n), .int (nI pl)])), (lk, .inl (cI, a, .inl gk)), (lv, .inl (cI, a, .inl gv)), (lo, .inl (cI, a, .inl go)), (ou, .inl (cL, 1, .inr (.inl fo)))] sz)) 0 0 (va_A [(h0, .inr (5, [.ref tl, .ref tr, .ref cu, .ref bk, .int 1])), (tl, .inr (4, [.int (nI a), .ref lk, .ref lv, .ref lo, .ref lp, .ref ll, .ref lf, .int (nI n), .int (nI pl)])), (lk, .inl (cI, a, .inl gk)), (lv, .inl (cI, a, .inl gv)), (lo, .inl (cI, a, .inl go)), (ou, .inl (cL, 1, .inr (.inl fo)))] sz) := by
  refine va_MetW (hh := [(0, 12, 15, 19), (0, 12, 19, 13)]) (cc := cL_sorted) (maxL := 6) (ret := (some .int)) (by decide) rfl ?_
  intro p e s m args below meth c s₁ B hml hv
  obtain ⟨rfl, hsz, hP, hK, hN, hD0, hZ⟩ := hv
  have hx := B.exec
  have hb := B.bytes
  have hr := B.returns
  have hts := atoms_spec (ws := wsL_sorted) B.pre
  have hown : s.vm.findClass RL = some m.cls := findClass_of_methodNamed B.named
  have hlocks := B.notSynchronized
  subst hsz
  have hD := hD0.self (sz := s.heap.size)
  generalize hAe : va_A [(h0, .inr (5, [.ref tl, .ref tr, .ref cu, .ref bk, .int 1])), (tl, .inr (4, [.int (nI a), .ref lk, .ref lv, .ref lo, .ref lp, .ref ll, .ref lf, .int (nI n), .int (nI pl)])), (lk, .inl (cI, a, .inl gk)), (lv, .inl (cI, a, .inl gv)), (lo, .inl (cI, a, .inl go)), (ou, .inl (cL, 1, .inr (.inl fo)))] s.heap.size = A at hD ⊢
  have hA : ∀ q : Nat, s.heap.size ≤ q → A q := fun q h => by rw [← hAe]; exact Or.inr h
  have hS : va_S A s.heap s.heap [] := va_S.rf
  have hl := lv_entry ([.ref h0, .int 1, .int x, .int 1, .ref ou]) (n := 6) (Nat.le_of_ble_eq_true rfl)
  rw [lg_entry_eq]
  generalize (lg_sl ([.ref h0, .int 1, .int x, .int 1, .ref ou]) ++ List.replicate (6 - (lg_sl ([.ref h0, .int 1, .int x, .int 1, .ref ou])).length) Slot.unset).toArray = ls at hl ⊢
  have hl : lv_has ls 6 [(0, .ref h0), (1, .int 1), (2, .int x), (3, .int 1), (4, .ref ou)] := hl
  refine lv_aload hx hb dL_sorted_0 (lv_at hl 4 rfl) ?_
  refine lv_iconst (v := 0) hx hb dL_sorted_2 (by decide) ?_
  refine lv_aload_n hx hb dL_sorted_3 rfl (lv_at hl 0 rfl) ?_
  refine lv_iload_n hx hb dL_sorted_4 rfl (lv_at hl 1 rfl) ?_
  refine lv_iload_n hx hb dL_sorted_5 rfl (lv_at hl 2 rfl) ?_
  refine lv_iload_n hx hb dL_sorted_6 rfl (lv_at hl 3 rfl) ?_
  refine vp_callSi (va_Run.run (va_runV (As := [.int 1, .int x, .int 1]) (rest := [.int 0, .ref ou]) ⟨hx, hb, hml, hown, hts⟩ (gJ_sorted_11 l D cI cL cQ h0 tl tr cu bk a n pl lk lv lo lp ll lf gk gv go x (by first | assumption | decide | omega) (by first | assumption | decide | omega) (by first | assumption | decide | omega) (by first | assumption | decide | omega) (by first | assumption | decide | omega)) (cwV 3 hts gL_sorted_X5_sorted rfl rfl rfl (by decide +kernel) ⟨Nat.le_of_ble_eq_true rfl, Nat.le_of_ble_eq_true rfl⟩) (jr_V hK hN hP [0, 1, 2, 3, 4] rfl 5 0 rfl rfl rfl) rfl rfl hl.1 rfl (lv_room (Nat.le_of_ble_eq_true rfl)) dL_sorted_7 ⟨Nat.le_of_ble_eq_true rfl, Nat.le_of_ble_eq_true rfl⟩)) (fun r f_1 => ?_)
  obtain rfl := f_1
  refine lv_i2l (v := (jat n gv go x).toInt64) hx hb dL_sorted_10 (by first | rfl | decide) ?_
  refine va_last hx hb hK hP hD hS 5 1 rfl rfl (by unfold vp_in; decide) dL_sorted_11 (fun H locs hP hD hS => ?_)
  have hP : va_P D vwCl [(h0, .inr (5, [.ref tl, .ref tr, .ref cu, .ref bk, .int 1])), (tl, .inr (4, [.int (nI a), .ref lk, .ref lv, .ref lo, .ref lp, .ref ll, .ref lf, .int (nI n), .int (nI pl)])), (lk, .inl (cI, a, .inl gk)), (lv, .inl (cI, a, .inl gv)), (lo, .inl (cI, a, .inl go)), (ou, .inl (cL, 1, .inr (.inl (vp_updL fo (0 : Int32).toNatClampNeg ((jat n gv go x).toInt64)))))] H := hP
  have hD : va_D A [(h0, .inr (5, [.ref tl, .ref tr, .ref cu, .ref bk, .int 1])), (tl, .inr (4, [.int (nI a), .ref lk, .ref lv, .ref lo, .ref lp, .ref ll, .ref lf, .int (nI n), .int (nI pl)])), (lk, .inl (cI, a, .inl gk)), (lv, .inl (cI, a, .inl gv)), (lo, .inl (cI, a, .inl go)), (ou, .inl (cL, 1, .inr (.inl (vp_updL fo (0 : Int32).toNatClampNeg ((jat n gv go x).toInt64)))))] := hD
  refine lv_goto (tgt := 23) hx hb dL_sorted_12 (by decide) ?_
  refine lv_iconst (v := 0) hx hb dL_sorted_23 (by decide) ?_
  refine W.widen (k := 0) (n := 0) (by omega) (by omega) ?_
  exact W.iret (v := 0) hx hb hr (fun t ht hW => ⟨⟨0, [(h0, .inr (5, [.ref tl, .ref tr, .ref cu, .ref bk, .int 1])), (tl, .inr (4, [.int (nI a), .ref lk, .ref lv, .ref lo, .ref lp, .ref ll, .ref lf, .int (nI n), .int (nI pl)])), (lk, .inl (cI, a, .inl gk)), (lv, .inl (cI, a, .inl gv)), (lo, .inl (cI, a, .inl go)), (ou, .inl (cL, 1, .inr (.inl (vp_updL fo (0 : Int32).toNatClampNeg ((jat n gv go x).toInt64)))))], rfl, (⟨rfl, rfl⟩), by rw [ht]; exact hP, hD⟩, hS.F ht⟩) hS.2.2 dL_sorted_24
set_option maxHeartbeats 1000000 in
set_option maxRecDepth 100000 in
theorem kL_sorted_12 (l : Launch) (hnt : l.stackTraces = false) (D : va_G) (cI cL cQ : ClassId) (h0 : Nat) (tl : Nat) (tr : Nat) (cu : Nat) (bk : Nat) (a : Nat) (n : Nat) (pl : Nat) (lk : Nat) (lv : Nat) (lo : Nat) (lp : Nat) (ll : Nat) (lf : Nat) (gk : Nat → Int32) (gv : Nat → Int32) (go : Nat → Int32) (x : Int32) (ou : Nat) (fo : Nat → Int64) (sz : Nat) (ha : a ≤ 400) (hn : n ≤ a) (ho : jord a go) (h1 : ¬ x < 0) (h2 : ¬ nI n ≤ x) : Met l yL_sorted wsL_sorted ({ frames := 3, cells := 0, slots := 0, locals := 66 }) (jh_P D vwCl (jT cI cL cQ) cL cQ [.ref h0, .int 1, .int x, .int 2, .ref ou] [(h0, .inr (5, [.ref tl, .ref tr, .ref cu, .ref bk, .int 1])), (tl, .inr (4, [.int (nI a), .ref lk, .ref lv, .ref lo, .ref lp, .ref ll, .ref lf, .int (nI n), .int (nI pl)])), (lk, .inl (cI, a, .inl gk)), (lv, .inl (cI, a, .inl gv)), (lo, .inl (cI, a, .inl go)), (ou, .inl (cL, 1, .inr (.inl fo)))] sz) (va_Qi (fun (r : Int32) (u : va_W) => r = 0 ∧ u = [(h0, .inr (5, [.ref tl, .ref tr, .ref cu, .ref bk, .int 1])), (tl, .inr (4, [.int (nI a), .ref lk, .ref lv, .ref lo, .ref lp, .ref ll, .ref lf, .int (nI n), .int (nI pl)])), (lk, .inl (cI, a, .inl gk)), (lv, .inl (cI, a, .inl gv)), (lo, .inl (cI, a, .inl go)), (ou, .inl (cL, 1, .inr (.inl (vp_updL fo (0 : Int32).toNatClampNeg ((jnum n go x).toInt64)))))]) (jw_B D vwCl (va_A [(h0, .inr (5, [.ref tl, .ref tr, .ref cu, .ref bk, .int 1])), (tl, .inr (4, [.int (nI a), .ref lk, .ref lv, .ref lo, .ref lp, .ref ll, .ref lf, .int (nI n), .int (nI pl)])), (lk, .inl (cI, a, .inl gk)), (lv, .inl (cI, a, .inl gv)), (lo, .inl (cI, a, .inl go)), (ou, .inl (cL, 1, .inr (.inl fo)))] sz) (fun u : va_W => u)) (va_A [(h0, .inr (5, [.ref tl, .ref tr, .ref cu, .ref bk, .int 1])), (tl, .inr (4, [.int (nI a), .ref lk, .ref lv, .ref lo, .ref lp, .ref ll, .ref lf, .int (nI n), .int (nI pl)])), (lk, .inl (cI, a, .inl gk)), (lv, .inl (cI, a, .inl gv)), (lo, .inl (cI, a, .inl go)), (ou, .inl (cL, 1, .inr (.inl fo)))] sz)) 0 0 (va_A [(h0, .inr (5, [.ref tl, .ref tr, .ref cu, .ref bk, .int 1])), (tl, .inr (4, [.int (nI a), .ref lk, .ref lv, .ref lo, .ref lp, .ref ll, .ref lf, .int (nI n), .int (nI pl)])), (lk, .inl (cI, a, .inl gk)), (lv, .inl (cI, a, .inl gv)), (lo, .inl (cI, a, .inl go)), (ou, .inl (cL, 1, .inr (.inl fo)))] sz) := by
  refine va_MetW (hh := [(0, 12, 15, 19), (0, 12, 19, 13)]) (cc := cL_sorted) (maxL := 6) (ret := (some .int)) (by decide) rfl ?_
  intro p e s m args below meth c s₁ B hml hv
  obtain ⟨rfl, hsz, hP, hK, hN, hD0, hZ⟩ := hv
  have hx := B.exec
  have hb := B.bytes
  have hr := B.returns
  have hts := atoms_spec (ws := wsL_sorted) B.pre
  have hown : s.vm.findClass RL = some m.cls := findClass_of_methodNamed B.named
  have hlocks := B.notSynchronized
  subst hsz
  have hD := hD0.self (sz := s.heap.size)
  generalize hAe : va_A [(h0, .inr (5, [.ref tl, .ref tr, .ref cu, .ref bk, .int 1])), (tl, .inr (4, [.int (nI a), .ref lk, .ref lv, .ref lo, .ref lp, .ref ll, .ref lf, .int (nI n), .int (nI pl)])), (lk, .inl (cI, a, .inl gk)), (lv, .inl (cI, a, .inl gv)), (lo, .inl (cI, a, .inl go)), (ou, .inl (cL, 1, .inr (.inl fo)))] s.heap.size = A at hD ⊢
  have hA : ∀ q : Nat, s.heap.size ≤ q → A q := fun q h => by rw [← hAe]; exact Or.inr h
  have hS : va_S A s.heap s.heap [] := va_S.rf
  have hl := lv_entry ([.ref h0, .int 1, .int x, .int 2, .ref ou]) (n := 6) (Nat.le_of_ble_eq_true rfl)
  rw [lg_entry_eq]
  generalize (lg_sl ([.ref h0, .int 1, .int x, .int 2, .ref ou]) ++ List.replicate (6 - (lg_sl ([.ref h0, .int 1, .int x, .int 2, .ref ou])).length) Slot.unset).toArray = ls at hl ⊢
  have hl : lv_has ls 6 [(0, .ref h0), (1, .int 1), (2, .int x), (3, .int 2), (4, .ref ou)] := hl
  refine lv_aload hx hb dL_sorted_0 (lv_at hl 4 rfl) ?_
  refine lv_iconst (v := 0) hx hb dL_sorted_2 (by decide) ?_
  refine lv_aload_n hx hb dL_sorted_3 rfl (lv_at hl 0 rfl) ?_
  refine lv_iload_n hx hb dL_sorted_4 rfl (lv_at hl 1 rfl) ?_
  refine lv_iload_n hx hb dL_sorted_5 rfl (lv_at hl 2 rfl) ?_
  refine lv_iload_n hx hb dL_sorted_6 rfl (lv_at hl 3 rfl) ?_
  refine vp_callSi (va_Run.run (va_runV (As := [.int 1, .int x, .int 2]) (rest := [.int 0, .ref ou]) ⟨hx, hb, hml, hown, hts⟩ (gJ_sorted_12 l D cI cL cQ h0 tl tr cu bk a n pl lk lv lo lp ll lf gk gv go x (by first | assumption | decide | omega) (by first | assumption | decide | omega) (by first | assumption | decide | omega) (by first | assumption | decide | omega) (by first | assumption | decide | omega)) (cwV 3 hts gL_sorted_X5_sorted rfl rfl rfl (by decide +kernel) ⟨Nat.le_of_ble_eq_true rfl, Nat.le_of_ble_eq_true rfl⟩) (jr_V hK hN hP [0, 1, 2, 3, 4] rfl 5 0 rfl rfl rfl) rfl rfl hl.1 rfl (lv_room (Nat.le_of_ble_eq_true rfl)) dL_sorted_7 ⟨Nat.le_of_ble_eq_true rfl, Nat.le_of_ble_eq_true rfl⟩)) (fun r f_1 => ?_)
  obtain rfl := f_1
  refine lv_i2l (v := (jnum n go x).toInt64) hx hb dL_sorted_10 (by first | rfl | decide) ?_
  refine va_last hx hb hK hP hD hS 5 1 rfl rfl (by unfold vp_in; decide) dL_sorted_11 (fun H locs hP hD hS => ?_)
  have hP : va_P D vwCl [(h0, .inr (5, [.ref tl, .ref tr, .ref cu, .ref bk, .int 1])), (tl, .inr (4, [.int (nI a), .ref lk, .ref lv, .ref lo, .ref lp, .ref ll, .ref lf, .int (nI n), .int (nI pl)])), (lk, .inl (cI, a, .inl gk)), (lv, .inl (cI, a, .inl gv)), (lo, .inl (cI, a, .inl go)), (ou, .inl (cL, 1, .inr (.inl (vp_updL fo (0 : Int32).toNatClampNeg ((jnum n go x).toInt64)))))] H := hP
  have hD : va_D A [(h0, .inr (5, [.ref tl, .ref tr, .ref cu, .ref bk, .int 1])), (tl, .inr (4, [.int (nI a), .ref lk, .ref lv, .ref lo, .ref lp, .ref ll, .ref lf, .int (nI n), .int (nI pl)])), (lk, .inl (cI, a, .inl gk)), (lv, .inl (cI, a, .inl gv)), (lo, .inl (cI, a, .inl go)), (ou, .inl (cL, 1, .inr (.inl (vp_updL fo (0 : Int32).toNatClampNeg ((jnum n go x).toInt64)))))] := hD
  refine lv_goto (tgt := 23) hx hb dL_sorted_12 (by decide) ?_
  refine lv_iconst (v := 0) hx hb dL_sorted_23 (by decide) ?_
  refine W.widen (k := 0) (n := 0) (by omega) (by omega) ?_
  exact W.iret (v := 0) hx hb hr (fun t ht hW => ⟨⟨0, [(h0, .inr (5, [.ref tl, .ref tr, .ref cu, .ref bk, .int 1])), (tl, .inr (4, [.int (nI a), .ref lk, .ref lv, .ref lo, .ref lp, .ref ll, .ref lf, .int (nI n), .int (nI pl)])), (lk, .inl (cI, a, .inl gk)), (lv, .inl (cI, a, .inl gv)), (lo, .inl (cI, a, .inl go)), (ou, .inl (cL, 1, .inr (.inl (vp_updL fo (0 : Int32).toNatClampNeg ((jnum n go x).toInt64)))))], rfl, (⟨rfl, rfl⟩), by rw [ht]; exact hP, hD⟩, hS.F ht⟩) hS.2.2 dL_sorted_24
set_option maxHeartbeats 1000000 in
set_option maxRecDepth 100000 in
theorem kL_sorted_1a (l : Launch) (hnt : l.stackTraces = false) (D : va_G) (cI cL cQ : ClassId) (h0 : Nat) (tl : Nat) (tr : Nat) (cu : Nat) (bk : Nat) (a : Nat) (n : Nat) (pl : Nat) (lk : Nat) (lv : Nat) (lo : Nat) (lp : Nat) (ll : Nat) (lf : Nat) (pr : Int32) (x : Int32) (y : Int32) (ou : Nat) (fo : Nat → Int64) (sz : Nat) (h1 : (x < 0 ∨ nI n ≤ x) ∨ (y < 0 ∨ 3 ≤ y)) : Met l yL_sorted wsL_sorted ({ frames := 8, cells := 1, slots := 6, locals := 126 }) (jh_P D vwCl (jT cI cL cQ) cL cQ [.ref h0, .int 1, .int x, .int y, .ref ou] [(h0, .inr (5, [.ref tl, .ref tr, .ref cu, .ref bk, .int pr])), (tl, .inr (4, [.int (nI a), .ref lk, .ref lv, .ref lo, .ref lp, .ref ll, .ref lf, .int (nI n), .int (nI pl)])), (ou, .inl (cL, 1, .inr (.inl fo)))] sz) (va_Qi (fun (r : Int32) (u : va_W) => r = 1 ∧ u = [(h0, .inr (5, [.ref tl, .ref tr, .ref cu, .ref bk, .int pr])), (tl, .inr (4, [.int (nI a), .ref lk, .ref lv, .ref lo, .ref lp, .ref ll, .ref lf, .int (nI n), .int (nI pl)])), (ou, .inl (cL, 1, .inr (.inl fo)))]) (jw_B D vwCl (va_A [(h0, .inr (5, [.ref tl, .ref tr, .ref cu, .ref bk, .int pr])), (tl, .inr (4, [.int (nI a), .ref lk, .ref lv, .ref lo, .ref lp, .ref ll, .ref lf, .int (nI n), .int (nI pl)])), (ou, .inl (cL, 1, .inr (.inl fo)))] sz) (fun u : va_W => u)) (va_A [(h0, .inr (5, [.ref tl, .ref tr, .ref cu, .ref bk, .int pr])), (tl, .inr (4, [.int (nI a), .ref lk, .ref lv, .ref lo, .ref lp, .ref ll, .ref lf, .int (nI n), .int (nI pl)])), (ou, .inl (cL, 1, .inr (.inl fo)))] sz)) 1 6 (va_A [(h0, .inr (5, [.ref tl, .ref tr, .ref cu, .ref bk, .int pr])), (tl, .inr (4, [.int (nI a), .ref lk, .ref lv, .ref lo, .ref lp, .ref ll, .ref lf, .int (nI n), .int (nI pl)])), (ou, .inl (cL, 1, .inr (.inl fo)))] sz) := by
  refine va_MetW (hh := [(0, 12, 15, 19), (0, 12, 19, 13)]) (cc := cL_sorted) (maxL := 6) (ret := (some .int)) (by decide) rfl ?_
  intro p e s m args below meth c s₁ B hml hv
  obtain ⟨rfl, hsz, hP, hK, hN, hD0, hZ⟩ := hv
  have hx := B.exec
  have hb := B.bytes
  have hr := B.returns
  have hts := atoms_spec (ws := wsL_sorted) B.pre
  have hown : s.vm.findClass RL = some m.cls := findClass_of_methodNamed B.named
  have hlocks := B.notSynchronized
  subst hsz
  have hD := hD0.self (sz := s.heap.size)
  generalize hAe : va_A [(h0, .inr (5, [.ref tl, .ref tr, .ref cu, .ref bk, .int pr])), (tl, .inr (4, [.int (nI a), .ref lk, .ref lv, .ref lo, .ref lp, .ref ll, .ref lf, .int (nI n), .int (nI pl)])), (ou, .inl (cL, 1, .inr (.inl fo)))] s.heap.size = A at hD ⊢
  have hA : ∀ q : Nat, s.heap.size ≤ q → A q := fun q h => by rw [← hAe]; exact Or.inr h
  have hS : va_S A s.heap s.heap [] := va_S.rf
  have hl := lv_entry ([.ref h0, .int 1, .int x, .int y, .ref ou]) (n := 6) (Nat.le_of_ble_eq_true rfl)
  rw [lg_entry_eq]
  generalize (lg_sl ([.ref h0, .int 1, .int x, .int y, .ref ou]) ++ List.replicate (6 - (lg_sl ([.ref h0, .int 1, .int x, .int y, .ref ou])).length) Slot.unset).toArray = ls at hl ⊢
  have hl : lv_has ls 6 [(0, .ref h0), (1, .int 1), (2, .int x), (3, .int y), (4, .ref ou)] := hl
  refine lv_aload hx hb dL_sorted_0 (lv_at hl 4 rfl) ?_
  refine lv_iconst (v := 0) hx hb dL_sorted_2 (by decide) ?_
  refine lv_aload_n hx hb dL_sorted_3 rfl (lv_at hl 0 rfl) ?_
  refine lv_iload_n hx hb dL_sorted_4 rfl (lv_at hl 1 rfl) ?_
  refine lv_iload_n hx hb dL_sorted_5 rfl (lv_at hl 2 rfl) ?_
  refine lv_iload_n hx hb dL_sorted_6 rfl (lv_at hl 3 rfl) ?_
  refine jx_thr (vx_runV (As := [.int 1, .int x, .int y]) (rest := [.int 0, .ref ou]) ⟨hx, hb, hml, hown, hts⟩ (gJ_sorted_1a l hnt D cI cL cQ h0 tl tr cu bk a n pl lk lv lo lp ll lf pr x y (by first | assumption | decide | omega)) (cwV 3 hts gL_sorted_X5_sorted rfl rfl rfl (by decide +kernel) ⟨Nat.le_of_ble_eq_true rfl, Nat.le_of_ble_eq_true rfl⟩) (jt_V hK hN hZ hP [0, 1] rfl 5 0 rfl rfl rfl) rfl rfl hl.1 rfl (lv_room (Nat.le_of_ble_eq_true rfl)) dL_sorted_7 ⟨Nat.le_of_ble_eq_true rfl, Nat.le_of_ble_eq_true rfl⟩) (fun ce q9 H1 hz hk hce hcv hcl => ?_)
  have hP : va_P D vwCl [(h0, .inr (5, [.ref tl, .ref tr, .ref cu, .ref bk, .int pr])), (tl, .inr (4, [.int (nI a), .ref lk, .ref lv, .ref lo, .ref lp, .ref ll, .ref lf, .int (nI n), .int (nI pl)])), (ou, .inl (cL, 1, .inr (.inl fo)))] H1 := hP.kept (fun k x hx => hk x.1 (hP k x hx).lt)
  have hS : va_S A s.heap H1 [] := ⟨hz, fun q h1 _ => hk q h1, fun _ h => nomatch h⟩
  generalize H1 = H at hP hS hce ⊢
  have htab : c.exceptionTable.toList = [⟨0, 12, 15, 19⟩, ⟨0, 12, 19, 13⟩] := vx_table (x := yL_sorted) B (hts _ List.mem_cons_self)
  refine jc_first (name := "") hown ⟨0, 12, 15, 19⟩ [⟨0, 12, 19, 13⟩] htab (by decide) (by decide) (hts (.classLink RL 19 "java/lang/IllegalArgumentException") (by decide +kernel)) hce hcv hcl ?_
  refine W.eq (g2 := F0 m 15 ls [.ref q9]) rfl ?_
  refine W.widen (k := 1) (n := 6) (by omega) (by omega) ?_
  refine lv_astore (lv' := [(5, .ref q9), (0, .ref h0), (1, .int 1), (2, .int x), (3, .int y), (4, .ref ou)]) hx hb dL_sorted_15 hl (by decide) rfl (fun ls hl => ?_)
  refine lv_iconst (v := 1) hx hb dL_sorted_17 (by decide) ?_
  refine W.widen (k := 1) (n := 6) (by omega) (by omega) ?_
  exact W.iret (v := 1) hx hb hr (fun t ht hW => ⟨⟨1, [(h0, .inr (5, [.ref tl, .ref tr, .ref cu, .ref bk, .int pr])), (tl, .inr (4, [.int (nI a), .ref lk, .ref lv, .ref lo, .ref lp, .ref ll, .ref lf, .int (nI n), .int (nI pl)])), (ou, .inl (cL, 1, .inr (.inl fo)))], rfl, (by exact ⟨rfl, rfl⟩), by rw [ht]; exact hP, hD⟩, hS.F ht⟩) hS.2.2 dL_sorted_18
set_option maxHeartbeats 1000000 in
set_option maxRecDepth 100000 in
theorem kL_sorted_1s (l : Launch) (hnt : l.stackTraces = false) (D : va_G) (cI cL cQ : ClassId) (h0 : Nat) (tl : Nat) (tr : Nat) (cu : Nat) (bk : Nat) (a : Nat) (n : Nat) (pl : Nat) (lk : Nat) (lv : Nat) (lo : Nat) (lp : Nat) (ll : Nat) (lf : Nat) (x : Int32) (y : Int32) (ou : Nat) (fo : Nat → Int64) (sz : Nat) (h1 : ¬ x < 0) (h2 : ¬ nI n ≤ x) (h3 : ¬ y < 0) (h4 : ¬ 3 ≤ y) : Met l yL_sorted wsL_sorted ({ frames := 8, cells := 1, slots := 6, locals := 126 }) (jh_P D vwCl (jT cI cL cQ) cL cQ [.ref h0, .int 1, .int x, .int y, .ref ou] [(h0, .inr (5, [.ref tl, .ref tr, .ref cu, .ref bk, .int 0])), (tl, .inr (4, [.int (nI a), .ref lk, .ref lv, .ref lo, .ref lp, .ref ll, .ref lf, .int (nI n), .int (nI pl)])), (ou, .inl (cL, 1, .inr (.inl fo)))] sz) (va_Qi (fun (r : Int32) (u : va_W) => r = 2 ∧ u = [(h0, .inr (5, [.ref tl, .ref tr, .ref cu, .ref bk, .int 0])), (tl, .inr (4, [.int (nI a), .ref lk, .ref lv, .ref lo, .ref lp, .ref ll, .ref lf, .int (nI n), .int (nI pl)])), (ou, .inl (cL, 1, .inr (.inl fo)))]) (jw_B D vwCl (va_A [(h0, .inr (5, [.ref tl, .ref tr, .ref cu, .ref bk, .int 0])), (tl, .inr (4, [.int (nI a), .ref lk, .ref lv, .ref lo, .ref lp, .ref ll, .ref lf, .int (nI n), .int (nI pl)])), (ou, .inl (cL, 1, .inr (.inl fo)))] sz) (fun u : va_W => u)) (va_A [(h0, .inr (5, [.ref tl, .ref tr, .ref cu, .ref bk, .int 0])), (tl, .inr (4, [.int (nI a), .ref lk, .ref lv, .ref lo, .ref lp, .ref ll, .ref lf, .int (nI n), .int (nI pl)])), (ou, .inl (cL, 1, .inr (.inl fo)))] sz)) 1 6 (va_A [(h0, .inr (5, [.ref tl, .ref tr, .ref cu, .ref bk, .int 0])), (tl, .inr (4, [.int (nI a), .ref lk, .ref lv, .ref lo, .ref lp, .ref ll, .ref lf, .int (nI n), .int (nI pl)])), (ou, .inl (cL, 1, .inr (.inl fo)))] sz) := by
  refine va_MetW (hh := [(0, 12, 15, 19), (0, 12, 19, 13)]) (cc := cL_sorted) (maxL := 6) (ret := (some .int)) (by decide) rfl ?_
  intro p e s m args below meth c s₁ B hml hv
  obtain ⟨rfl, hsz, hP, hK, hN, hD0, hZ⟩ := hv
  have hx := B.exec
  have hb := B.bytes
  have hr := B.returns
  have hts := atoms_spec (ws := wsL_sorted) B.pre
  have hown : s.vm.findClass RL = some m.cls := findClass_of_methodNamed B.named
  have hlocks := B.notSynchronized
  subst hsz
  have hD := hD0.self (sz := s.heap.size)
  generalize hAe : va_A [(h0, .inr (5, [.ref tl, .ref tr, .ref cu, .ref bk, .int 0])), (tl, .inr (4, [.int (nI a), .ref lk, .ref lv, .ref lo, .ref lp, .ref ll, .ref lf, .int (nI n), .int (nI pl)])), (ou, .inl (cL, 1, .inr (.inl fo)))] s.heap.size = A at hD ⊢
  have hA : ∀ q : Nat, s.heap.size ≤ q → A q := fun q h => by rw [← hAe]; exact Or.inr h
  have hS : va_S A s.heap s.heap [] := va_S.rf
  have hl := lv_entry ([.ref h0, .int 1, .int x, .int y, .ref ou]) (n := 6) (Nat.le_of_ble_eq_true rfl)
  rw [lg_entry_eq]
  generalize (lg_sl ([.ref h0, .int 1, .int x, .int y, .ref ou]) ++ List.replicate (6 - (lg_sl ([.ref h0, .int 1, .int x, .int y, .ref ou])).length) Slot.unset).toArray = ls at hl ⊢
  have hl : lv_has ls 6 [(0, .ref h0), (1, .int 1), (2, .int x), (3, .int y), (4, .ref ou)] := hl
  refine lv_aload hx hb dL_sorted_0 (lv_at hl 4 rfl) ?_
  refine lv_iconst (v := 0) hx hb dL_sorted_2 (by decide) ?_
  refine lv_aload_n hx hb dL_sorted_3 rfl (lv_at hl 0 rfl) ?_
  refine lv_iload_n hx hb dL_sorted_4 rfl (lv_at hl 1 rfl) ?_
  refine lv_iload_n hx hb dL_sorted_5 rfl (lv_at hl 2 rfl) ?_
  refine lv_iload_n hx hb dL_sorted_6 rfl (lv_at hl 3 rfl) ?_
  refine jx_thr (vx_runV (As := [.int 1, .int x, .int y]) (rest := [.int 0, .ref ou]) ⟨hx, hb, hml, hown, hts⟩ (gJ_sorted_1s l hnt D cI cL cQ h0 tl tr cu bk a n pl lk lv lo lp ll lf x y (by first | assumption | decide | omega) (by first | assumption | decide | omega) (by first | assumption | decide | omega) (by first | assumption | decide | omega)) (cwV 3 hts gL_sorted_X5_sorted rfl rfl rfl (by decide +kernel) ⟨Nat.le_of_ble_eq_true rfl, Nat.le_of_ble_eq_true rfl⟩) (jt_V hK hN hZ hP [0, 1] rfl 5 0 rfl rfl rfl) rfl rfl hl.1 rfl (lv_room (Nat.le_of_ble_eq_true rfl)) dL_sorted_7 ⟨Nat.le_of_ble_eq_true rfl, Nat.le_of_ble_eq_true rfl⟩) (fun ce q9 H1 hz hk hce hcv hcl => ?_)
  have hP : va_P D vwCl [(h0, .inr (5, [.ref tl, .ref tr, .ref cu, .ref bk, .int 0])), (tl, .inr (4, [.int (nI a), .ref lk, .ref lv, .ref lo, .ref lp, .ref ll, .ref lf, .int (nI n), .int (nI pl)])), (ou, .inl (cL, 1, .inr (.inl fo)))] H1 := hP.kept (fun k x hx => hk x.1 (hP k x hx).lt)
  have hS : va_S A s.heap H1 [] := ⟨hz, fun q h1 _ => hk q h1, fun _ h => nomatch h⟩
  generalize H1 = H at hP hS hce ⊢
  have htab : c.exceptionTable.toList = [⟨0, 12, 15, 19⟩, ⟨0, 12, 19, 13⟩] := vx_table (x := yL_sorted) B (hts _ List.mem_cons_self)
  refine jc_second hown ⟨0, 12, 15, 19⟩ ⟨0, 12, 19, 13⟩ [] htab (by decide) (by decide) (by decide) (by decide) (hts (.classLink RL 19 "java/lang/IllegalArgumentException") (by decide +kernel)) (hZ.2.2.2.2.2.2.1 _ (by decide +kernel) _ (by decide +kernel) (by decide +kernel)) (hts (.classLink RL 13 "java/lang/IllegalStateException") (by decide +kernel)) hce hcv hcl ?_
  refine W.eq (g2 := F0 m 19 ls [.ref q9]) rfl ?_
  refine W.widen (k := 1) (n := 6) (by omega) (by omega) ?_
  refine lv_astore (lv' := [(5, .ref q9), (0, .ref h0), (1, .int 1), (2, .int x), (3, .int y), (4, .ref ou)]) hx hb dL_sorted_19 hl (by decide) rfl (fun ls hl => ?_)
  refine lv_iconst (v := 2) hx hb dL_sorted_21 (by decide) ?_
  refine W.widen (k := 1) (n := 6) (by omega) (by omega) ?_
  exact W.iret (v := 2) hx hb hr (fun t ht hW => ⟨⟨2, [(h0, .inr (5, [.ref tl, .ref tr, .ref cu, .ref bk, .int 0])), (tl, .inr (4, [.int (nI a), .ref lk, .ref lv, .ref lo, .ref lp, .ref ll, .ref lf, .int (nI n), .int (nI pl)])), (ou, .inl (cL, 1, .inr (.inl fo)))], rfl, (by exact ⟨rfl, rfl⟩), by rw [ht]; exact hP, hD⟩, hS.F ht⟩) hS.2.2 dL_sorted_22
set_option maxHeartbeats 1000000 in
set_option maxRecDepth 100000 in
theorem kL_sorted_00 (l : Launch) (hnt : l.stackTraces = false) (D : va_G) (cI cL cQ : ClassId) (h0 : Nat) (tl : Nat) (tr : Nat) (cu : Nat) (bk : Nat) (a2 : Nat) (n2 : Nat) (pl2 : Nat) (rk : Nat) (rv : Nat) (ro : Nat) (rp : Nat) (rl : Nat) (rf : Nat) (hk : Nat → Int32) (hv : Nat → Int32) (ho_ : Nat → Int32) (x : Int32) (ou : Nat) (fo : Nat → Int64) (sz : Nat) (ha2 : a2 ≤ 400) (hn2 : n2 ≤ a2) (ho : jord a2 ho_) (h1 : ¬ x < 0) (h2 : ¬ nI n2 ≤ x) : Met l yL_sorted wsL_sorted ({ frames := 3, cells := 0, slots := 0, locals := 66 }) (jh_P D vwCl (jT cI cL cQ) cL cQ [.ref h0, .int 0, .int x, .int 0, .ref ou] [(h0, .inr (5, [.ref tl, .ref tr, .ref cu, .ref bk, .int 1])), (tr, .inr (4, [.int (nI a2), .ref rk, .ref rv, .ref ro, .ref rp, .ref rl, .ref rf, .int (nI n2), .int (nI pl2)])), (rk, .inl (cI, a2, .inl hk)), (rv, .inl (cI, a2, .inl hv)), (ro, .inl (cI, a2, .inl ho_)), (ou, .inl (cL, 1, .inr (.inl fo)))] sz) (va_Qi (fun (r : Int32) (u : va_W) => r = 0 ∧ u = [(h0, .inr (5, [.ref tl, .ref tr, .ref cu, .ref bk, .int 1])), (tr, .inr (4, [.int (nI a2), .ref rk, .ref rv, .ref ro, .ref rp, .ref rl, .ref rf, .int (nI n2), .int (nI pl2)])), (rk, .inl (cI, a2, .inl hk)), (rv, .inl (cI, a2, .inl hv)), (ro, .inl (cI, a2, .inl ho_)), (ou, .inl (cL, 1, .inr (.inl (vp_updL fo (0 : Int32).toNatClampNeg ((jat n2 hk ho_ x).toInt64)))))]) (jw_B D vwCl (va_A [(h0, .inr (5, [.ref tl, .ref tr, .ref cu, .ref bk, .int 1])), (tr, .inr (4, [.int (nI a2), .ref rk, .ref rv, .ref ro, .ref rp, .ref rl, .ref rf, .int (nI n2), .int (nI pl2)])), (rk, .inl (cI, a2, .inl hk)), (rv, .inl (cI, a2, .inl hv)), (ro, .inl (cI, a2, .inl ho_)), (ou, .inl (cL, 1, .inr (.inl fo)))] sz) (fun u : va_W => u)) (va_A [(h0, .inr (5, [.ref tl, .ref tr, .ref cu, .ref bk, .int 1])), (tr, .inr (4, [.int (nI a2), .ref rk, .ref rv, .ref ro, .ref rp, .ref rl, .ref rf, .int (nI n2), .int (nI pl2)])), (rk, .inl (cI, a2, .inl hk)), (rv, .inl (cI, a2, .inl hv)), (ro, .inl (cI, a2, .inl ho_)), (ou, .inl (cL, 1, .inr (.inl fo)))] sz)) 0 0 (va_A [(h0, .inr (5, [.ref tl, .ref tr, .ref cu, .ref bk, .int 1])), (tr, .inr (4, [.int (nI a2), .ref rk, .ref rv, .ref ro, .ref rp, .ref rl, .ref rf, .int (nI n2), .int (nI pl2)])), (rk, .inl (cI, a2, .inl hk)), (rv, .inl (cI, a2, .inl hv)), (ro, .inl (cI, a2, .inl ho_)), (ou, .inl (cL, 1, .inr (.inl fo)))] sz) := by
  refine va_MetW (hh := [(0, 12, 15, 19), (0, 12, 19, 13)]) (cc := cL_sorted) (maxL := 6) (ret := (some .int)) (by decide) rfl ?_
  intro p e s m args below meth c s₁ B hml hv
  obtain ⟨rfl, hsz, hP, hK, hN, hD0, hZ⟩ := hv
  have hx := B.exec
  have hb := B.bytes
  have hr := B.returns
  have hts := atoms_spec (ws := wsL_sorted) B.pre
  have hown : s.vm.findClass RL = some m.cls := findClass_of_methodNamed B.named
  have hlocks := B.notSynchronized
  subst hsz
  have hD := hD0.self (sz := s.heap.size)
  generalize hAe : va_A [(h0, .inr (5, [.ref tl, .ref tr, .ref cu, .ref bk, .int 1])), (tr, .inr (4, [.int (nI a2), .ref rk, .ref rv, .ref ro, .ref rp, .ref rl, .ref rf, .int (nI n2), .int (nI pl2)])), (rk, .inl (cI, a2, .inl hk)), (rv, .inl (cI, a2, .inl hv)), (ro, .inl (cI, a2, .inl ho_)), (ou, .inl (cL, 1, .inr (.inl fo)))] s.heap.size = A at hD ⊢
  have hA : ∀ q : Nat, s.heap.size ≤ q → A q := fun q h => by rw [← hAe]; exact Or.inr h
  have hS : va_S A s.heap s.heap [] := va_S.rf
  have hl := lv_entry ([.ref h0, .int 0, .int x, .int 0, .ref ou]) (n := 6) (Nat.le_of_ble_eq_true rfl)
  rw [lg_entry_eq]
  generalize (lg_sl ([.ref h0, .int 0, .int x, .int 0, .ref ou]) ++ List.replicate (6 - (lg_sl ([.ref h0, .int 0, .int x, .int 0, .ref ou])).length) Slot.unset).toArray = ls at hl ⊢
  have hl : lv_has ls 6 [(0, .ref h0), (1, .int 0), (2, .int x), (3, .int 0), (4, .ref ou)] := hl
  refine lv_aload hx hb dL_sorted_0 (lv_at hl 4 rfl) ?_
  refine lv_iconst (v := 0) hx hb dL_sorted_2 (by decide) ?_
  refine lv_aload_n hx hb dL_sorted_3 rfl (lv_at hl 0 rfl) ?_
  refine lv_iload_n hx hb dL_sorted_4 rfl (lv_at hl 1 rfl) ?_
  refine lv_iload_n hx hb dL_sorted_5 rfl (lv_at hl 2 rfl) ?_
  refine lv_iload_n hx hb dL_sorted_6 rfl (lv_at hl 3 rfl) ?_
  refine vp_callSi (va_Run.run (va_runV (As := [.int 0, .int x, .int 0]) (rest := [.int 0, .ref ou]) ⟨hx, hb, hml, hown, hts⟩ (gJ_sorted_00 l D cI cL cQ h0 tl tr cu bk a2 n2 pl2 rk rv ro rp rl rf hk hv ho_ x (by first | assumption | decide | omega) (by first | assumption | decide | omega) (by first | assumption | decide | omega) (by first | assumption | decide | omega) (by first | assumption | decide | omega)) (cwV 3 hts gL_sorted_X5_sorted rfl rfl rfl (by decide +kernel) ⟨Nat.le_of_ble_eq_true rfl, Nat.le_of_ble_eq_true rfl⟩) (jr_V hK hN hP [0, 1, 2, 3, 4] rfl 5 0 rfl rfl rfl) rfl rfl hl.1 rfl (lv_room (Nat.le_of_ble_eq_true rfl)) dL_sorted_7 ⟨Nat.le_of_ble_eq_true rfl, Nat.le_of_ble_eq_true rfl⟩)) (fun r f_1 => ?_)
  obtain rfl := f_1
  refine lv_i2l (v := (jat n2 hk ho_ x).toInt64) hx hb dL_sorted_10 (by first | rfl | decide) ?_
  refine va_last hx hb hK hP hD hS 5 1 rfl rfl (by unfold vp_in; decide) dL_sorted_11 (fun H locs hP hD hS => ?_)
  have hP : va_P D vwCl [(h0, .inr (5, [.ref tl, .ref tr, .ref cu, .ref bk, .int 1])), (tr, .inr (4, [.int (nI a2), .ref rk, .ref rv, .ref ro, .ref rp, .ref rl, .ref rf, .int (nI n2), .int (nI pl2)])), (rk, .inl (cI, a2, .inl hk)), (rv, .inl (cI, a2, .inl hv)), (ro, .inl (cI, a2, .inl ho_)), (ou, .inl (cL, 1, .inr (.inl (vp_updL fo (0 : Int32).toNatClampNeg ((jat n2 hk ho_ x).toInt64)))))] H := hP
  have hD : va_D A [(h0, .inr (5, [.ref tl, .ref tr, .ref cu, .ref bk, .int 1])), (tr, .inr (4, [.int (nI a2), .ref rk, .ref rv, .ref ro, .ref rp, .ref rl, .ref rf, .int (nI n2), .int (nI pl2)])), (rk, .inl (cI, a2, .inl hk)), (rv, .inl (cI, a2, .inl hv)), (ro, .inl (cI, a2, .inl ho_)), (ou, .inl (cL, 1, .inr (.inl (vp_updL fo (0 : Int32).toNatClampNeg ((jat n2 hk ho_ x).toInt64)))))] := hD
  refine lv_goto (tgt := 23) hx hb dL_sorted_12 (by decide) ?_
  refine lv_iconst (v := 0) hx hb dL_sorted_23 (by decide) ?_
  refine W.widen (k := 0) (n := 0) (by omega) (by omega) ?_
  exact W.iret (v := 0) hx hb hr (fun t ht hW => ⟨⟨0, [(h0, .inr (5, [.ref tl, .ref tr, .ref cu, .ref bk, .int 1])), (tr, .inr (4, [.int (nI a2), .ref rk, .ref rv, .ref ro, .ref rp, .ref rl, .ref rf, .int (nI n2), .int (nI pl2)])), (rk, .inl (cI, a2, .inl hk)), (rv, .inl (cI, a2, .inl hv)), (ro, .inl (cI, a2, .inl ho_)), (ou, .inl (cL, 1, .inr (.inl (vp_updL fo (0 : Int32).toNatClampNeg ((jat n2 hk ho_ x).toInt64)))))], rfl, (⟨rfl, rfl⟩), by rw [ht]; exact hP, hD⟩, hS.F ht⟩) hS.2.2 dL_sorted_24
set_option maxHeartbeats 1000000 in
set_option maxRecDepth 100000 in
theorem kL_sorted_01 (l : Launch) (hnt : l.stackTraces = false) (D : va_G) (cI cL cQ : ClassId) (h0 : Nat) (tl : Nat) (tr : Nat) (cu : Nat) (bk : Nat) (a2 : Nat) (n2 : Nat) (pl2 : Nat) (rk : Nat) (rv : Nat) (ro : Nat) (rp : Nat) (rl : Nat) (rf : Nat) (hk : Nat → Int32) (hv : Nat → Int32) (ho_ : Nat → Int32) (x : Int32) (ou : Nat) (fo : Nat → Int64) (sz : Nat) (ha2 : a2 ≤ 400) (hn2 : n2 ≤ a2) (ho : jord a2 ho_) (h1 : ¬ x < 0) (h2 : ¬ nI n2 ≤ x) : Met l yL_sorted wsL_sorted ({ frames := 3, cells := 0, slots := 0, locals := 66 }) (jh_P D vwCl (jT cI cL cQ) cL cQ [.ref h0, .int 0, .int x, .int 1, .ref ou] [(h0, .inr (5, [.ref tl, .ref tr, .ref cu, .ref bk, .int 1])), (tr, .inr (4, [.int (nI a2), .ref rk, .ref rv, .ref ro, .ref rp, .ref rl, .ref rf, .int (nI n2), .int (nI pl2)])), (rk, .inl (cI, a2, .inl hk)), (rv, .inl (cI, a2, .inl hv)), (ro, .inl (cI, a2, .inl ho_)), (ou, .inl (cL, 1, .inr (.inl fo)))] sz) (va_Qi (fun (r : Int32) (u : va_W) => r = 0 ∧ u = [(h0, .inr (5, [.ref tl, .ref tr, .ref cu, .ref bk, .int 1])), (tr, .inr (4, [.int (nI a2), .ref rk, .ref rv, .ref ro, .ref rp, .ref rl, .ref rf, .int (nI n2), .int (nI pl2)])), (rk, .inl (cI, a2, .inl hk)), (rv, .inl (cI, a2, .inl hv)), (ro, .inl (cI, a2, .inl ho_)), (ou, .inl (cL, 1, .inr (.inl (vp_updL fo (0 : Int32).toNatClampNeg ((jat n2 hv ho_ x).toInt64)))))]) (jw_B D vwCl (va_A [(h0, .inr (5, [.ref tl, .ref tr, .ref cu, .ref bk, .int 1])), (tr, .inr (4, [.int (nI a2), .ref rk, .ref rv, .ref ro, .ref rp, .ref rl, .ref rf, .int (nI n2), .int (nI pl2)])), (rk, .inl (cI, a2, .inl hk)), (rv, .inl (cI, a2, .inl hv)), (ro, .inl (cI, a2, .inl ho_)), (ou, .inl (cL, 1, .inr (.inl fo)))] sz) (fun u : va_W => u)) (va_A [(h0, .inr (5, [.ref tl, .ref tr, .ref cu, .ref bk, .int 1])), (tr, .inr (4, [.int (nI a2), .ref rk, .ref rv, .ref ro, .ref rp, .ref rl, .ref rf, .int (nI n2), .int (nI pl2)])), (rk, .inl (cI, a2, .inl hk)), (rv, .inl (cI, a2, .inl hv)), (ro, .inl (cI, a2, .inl ho_)), (ou, .inl (cL, 1, .inr (.inl fo)))] sz)) 0 0 (va_A [(h0, .inr (5, [.ref tl, .ref tr, .ref cu, .ref bk, .int 1])), (tr, .inr (4, [.int (nI a2), .ref rk, .ref rv, .ref ro, .ref rp, .ref rl, .ref rf, .int (nI n2), .int (nI pl2)])), (rk, .inl (cI, a2, .inl hk)), (rv, .inl (cI, a2, .inl hv)), (ro, .inl (cI, a2, .inl ho_)), (ou, .inl (cL, 1, .inr (.inl fo)))] sz) := by
  refine va_MetW (hh := [(0, 12, 15, 19), (0, 12, 19, 13)]) (cc := cL_sorted) (maxL := 6) (ret := (some .int)) (by decide) rfl ?_
  intro p e s m args below meth c s₁ B hml hv
  obtain ⟨rfl, hsz, hP, hK, hN, hD0, hZ⟩ := hv
  have hx := B.exec
  have hb := B.bytes
  have hr := B.returns
  have hts := atoms_spec (ws := wsL_sorted) B.pre
  have hown : s.vm.findClass RL = some m.cls := findClass_of_methodNamed B.named
  have hlocks := B.notSynchronized
  subst hsz
  have hD := hD0.self (sz := s.heap.size)
  generalize hAe : va_A [(h0, .inr (5, [.ref tl, .ref tr, .ref cu, .ref bk, .int 1])), (tr, .inr (4, [.int (nI a2), .ref rk, .ref rv, .ref ro, .ref rp, .ref rl, .ref rf, .int (nI n2), .int (nI pl2)])), (rk, .inl (cI, a2, .inl hk)), (rv, .inl (cI, a2, .inl hv)), (ro, .inl (cI, a2, .inl ho_)), (ou, .inl (cL, 1, .inr (.inl fo)))] s.heap.size = A at hD ⊢
  have hA : ∀ q : Nat, s.heap.size ≤ q → A q := fun q h => by rw [← hAe]; exact Or.inr h
  have hS : va_S A s.heap s.heap [] := va_S.rf
  have hl := lv_entry ([.ref h0, .int 0, .int x, .int 1, .ref ou]) (n := 6) (Nat.le_of_ble_eq_true rfl)
  rw [lg_entry_eq]
  generalize (lg_sl ([.ref h0, .int 0, .int x, .int 1, .ref ou]) ++ List.replicate (6 - (lg_sl ([.ref h0, .int 0, .int x, .int 1, .ref ou])).length) Slot.unset).toArray = ls at hl ⊢
  have hl : lv_has ls 6 [(0, .ref h0), (1, .int 0), (2, .int x), (3, .int 1), (4, .ref ou)] := hl
  refine lv_aload hx hb dL_sorted_0 (lv_at hl 4 rfl) ?_
  refine lv_iconst (v := 0) hx hb dL_sorted_2 (by decide) ?_
  refine lv_aload_n hx hb dL_sorted_3 rfl (lv_at hl 0 rfl) ?_
  refine lv_iload_n hx hb dL_sorted_4 rfl (lv_at hl 1 rfl) ?_
  refine lv_iload_n hx hb dL_sorted_5 rfl (lv_at hl 2 rfl) ?_
  refine lv_iload_n hx hb dL_sorted_6 rfl (lv_at hl 3 rfl) ?_
  refine vp_callSi (va_Run.run (va_runV (As := [.int 0, .int x, .int 1]) (rest := [.int 0, .ref ou]) ⟨hx, hb, hml, hown, hts⟩ (gJ_sorted_01 l D cI cL cQ h0 tl tr cu bk a2 n2 pl2 rk rv ro rp rl rf hk hv ho_ x (by first | assumption | decide | omega) (by first | assumption | decide | omega) (by first | assumption | decide | omega) (by first | assumption | decide | omega) (by first | assumption | decide | omega)) (cwV 3 hts gL_sorted_X5_sorted rfl rfl rfl (by decide +kernel) ⟨Nat.le_of_ble_eq_true rfl, Nat.le_of_ble_eq_true rfl⟩) (jr_V hK hN hP [0, 1, 2, 3, 4] rfl 5 0 rfl rfl rfl) rfl rfl hl.1 rfl (lv_room (Nat.le_of_ble_eq_true rfl)) dL_sorted_7 ⟨Nat.le_of_ble_eq_true rfl, Nat.le_of_ble_eq_true rfl⟩)) (fun r f_1 => ?_)
  obtain rfl := f_1
  refine lv_i2l (v := (jat n2 hv ho_ x).toInt64) hx hb dL_sorted_10 (by first | rfl | decide) ?_
  refine va_last hx hb hK hP hD hS 5 1 rfl rfl (by unfold vp_in; decide) dL_sorted_11 (fun H locs hP hD hS => ?_)
  have hP : va_P D vwCl [(h0, .inr (5, [.ref tl, .ref tr, .ref cu, .ref bk, .int 1])), (tr, .inr (4, [.int (nI a2), .ref rk, .ref rv, .ref ro, .ref rp, .ref rl, .ref rf, .int (nI n2), .int (nI pl2)])), (rk, .inl (cI, a2, .inl hk)), (rv, .inl (cI, a2, .inl hv)), (ro, .inl (cI, a2, .inl ho_)), (ou, .inl (cL, 1, .inr (.inl (vp_updL fo (0 : Int32).toNatClampNeg ((jat n2 hv ho_ x).toInt64)))))] H := hP
  have hD : va_D A [(h0, .inr (5, [.ref tl, .ref tr, .ref cu, .ref bk, .int 1])), (tr, .inr (4, [.int (nI a2), .ref rk, .ref rv, .ref ro, .ref rp, .ref rl, .ref rf, .int (nI n2), .int (nI pl2)])), (rk, .inl (cI, a2, .inl hk)), (rv, .inl (cI, a2, .inl hv)), (ro, .inl (cI, a2, .inl ho_)), (ou, .inl (cL, 1, .inr (.inl (vp_updL fo (0 : Int32).toNatClampNeg ((jat n2 hv ho_ x).toInt64)))))] := hD
  refine lv_goto (tgt := 23) hx hb dL_sorted_12 (by decide) ?_
  refine lv_iconst (v := 0) hx hb dL_sorted_23 (by decide) ?_
  refine W.widen (k := 0) (n := 0) (by omega) (by omega) ?_
  exact W.iret (v := 0) hx hb hr (fun t ht hW => ⟨⟨0, [(h0, .inr (5, [.ref tl, .ref tr, .ref cu, .ref bk, .int 1])), (tr, .inr (4, [.int (nI a2), .ref rk, .ref rv, .ref ro, .ref rp, .ref rl, .ref rf, .int (nI n2), .int (nI pl2)])), (rk, .inl (cI, a2, .inl hk)), (rv, .inl (cI, a2, .inl hv)), (ro, .inl (cI, a2, .inl ho_)), (ou, .inl (cL, 1, .inr (.inl (vp_updL fo (0 : Int32).toNatClampNeg ((jat n2 hv ho_ x).toInt64)))))], rfl, (⟨rfl, rfl⟩), by rw [ht]; exact hP, hD⟩, hS.F ht⟩) hS.2.2 dL_sorted_24
set_option maxHeartbeats 1000000 in
set_option maxRecDepth 100000 in
theorem kL_sorted_02 (l : Launch) (hnt : l.stackTraces = false) (D : va_G) (cI cL cQ : ClassId) (h0 : Nat) (tl : Nat) (tr : Nat) (cu : Nat) (bk : Nat) (a2 : Nat) (n2 : Nat) (pl2 : Nat) (rk : Nat) (rv : Nat) (ro : Nat) (rp : Nat) (rl : Nat) (rf : Nat) (hk : Nat → Int32) (hv : Nat → Int32) (ho_ : Nat → Int32) (x : Int32) (ou : Nat) (fo : Nat → Int64) (sz : Nat) (ha2 : a2 ≤ 400) (hn2 : n2 ≤ a2) (ho : jord a2 ho_) (h1 : ¬ x < 0) (h2 : ¬ nI n2 ≤ x) : Met l yL_sorted wsL_sorted ({ frames := 3, cells := 0, slots := 0, locals := 66 }) (jh_P D vwCl (jT cI cL cQ) cL cQ [.ref h0, .int 0, .int x, .int 2, .ref ou] [(h0, .inr (5, [.ref tl, .ref tr, .ref cu, .ref bk, .int 1])), (tr, .inr (4, [.int (nI a2), .ref rk, .ref rv, .ref ro, .ref rp, .ref rl, .ref rf, .int (nI n2), .int (nI pl2)])), (rk, .inl (cI, a2, .inl hk)), (rv, .inl (cI, a2, .inl hv)), (ro, .inl (cI, a2, .inl ho_)), (ou, .inl (cL, 1, .inr (.inl fo)))] sz) (va_Qi (fun (r : Int32) (u : va_W) => r = 0 ∧ u = [(h0, .inr (5, [.ref tl, .ref tr, .ref cu, .ref bk, .int 1])), (tr, .inr (4, [.int (nI a2), .ref rk, .ref rv, .ref ro, .ref rp, .ref rl, .ref rf, .int (nI n2), .int (nI pl2)])), (rk, .inl (cI, a2, .inl hk)), (rv, .inl (cI, a2, .inl hv)), (ro, .inl (cI, a2, .inl ho_)), (ou, .inl (cL, 1, .inr (.inl (vp_updL fo (0 : Int32).toNatClampNeg ((jnum n2 ho_ x).toInt64)))))]) (jw_B D vwCl (va_A [(h0, .inr (5, [.ref tl, .ref tr, .ref cu, .ref bk, .int 1])), (tr, .inr (4, [.int (nI a2), .ref rk, .ref rv, .ref ro, .ref rp, .ref rl, .ref rf, .int (nI n2), .int (nI pl2)])), (rk, .inl (cI, a2, .inl hk)), (rv, .inl (cI, a2, .inl hv)), (ro, .inl (cI, a2, .inl ho_)), (ou, .inl (cL, 1, .inr (.inl fo)))] sz) (fun u : va_W => u)) (va_A [(h0, .inr (5, [.ref tl, .ref tr, .ref cu, .ref bk, .int 1])), (tr, .inr (4, [.int (nI a2), .ref rk, .ref rv, .ref ro, .ref rp, .ref rl, .ref rf, .int (nI n2), .int (nI pl2)])), (rk, .inl (cI, a2, .inl hk)), (rv, .inl (cI, a2, .inl hv)), (ro, .inl (cI, a2, .inl ho_)), (ou, .inl (cL, 1, .inr (.inl fo)))] sz)) 0 0 (va_A [(h0, .inr (5, [.ref tl, .ref tr, .ref cu, .ref bk, .int 1])), (tr, .inr (4, [.int (nI a2), .ref rk, .ref rv, .ref ro, .ref rp, .ref rl, .ref rf, .int (nI n2), .int (nI pl2)])), (rk, .inl (cI, a2, .inl hk)), (rv, .inl (cI, a2, .inl hv)), (ro, .inl (cI, a2, .inl ho_)), (ou, .inl (cL, 1, .inr (.inl fo)))] sz) := by
  refine va_MetW (hh := [(0, 12, 15, 19), (0, 12, 19, 13)]) (cc := cL_sorted) (maxL := 6) (ret := (some .int)) (by decide) rfl ?_
  intro p e s m args below meth c s₁ B hml hv
  obtain ⟨rfl, hsz, hP, hK, hN, hD0, hZ⟩ := hv
  have hx := B.exec
  have hb := B.bytes
  have hr := B.returns
  have hts := atoms_spec (ws := wsL_sorted) B.pre
  have hown : s.vm.findClass RL = some m.cls := findClass_of_methodNamed B.named
  have hlocks := B.notSynchronized
  subst hsz
  have hD := hD0.self (sz := s.heap.size)
  generalize hAe : va_A [(h0, .inr (5, [.ref tl, .ref tr, .ref cu, .ref bk, .int 1])), (tr, .inr (4, [.int (nI a2), .ref rk, .ref rv, .ref ro, .ref rp, .ref rl, .ref rf, .int (nI n2), .int (nI pl2)])), (rk, .inl (cI, a2, .inl hk)), (rv, .inl (cI, a2, .inl hv)), (ro, .inl (cI, a2, .inl ho_)), (ou, .inl (cL, 1, .inr (.inl fo)))] s.heap.size = A at hD ⊢
  have hA : ∀ q : Nat, s.heap.size ≤ q → A q := fun q h => by rw [← hAe]; exact Or.inr h
  have hS : va_S A s.heap s.heap [] := va_S.rf
  have hl := lv_entry ([.ref h0, .int 0, .int x, .int 2, .ref ou]) (n := 6) (Nat.le_of_ble_eq_true rfl)
  rw [lg_entry_eq]
  generalize (lg_sl ([.ref h0, .int 0, .int x, .int 2, .ref ou]) ++ List.replicate (6 - (lg_sl ([.ref h0, .int 0, .int x, .int 2, .ref ou])).length) Slot.unset).toArray = ls at hl ⊢
  have hl : lv_has ls 6 [(0, .ref h0), (1, .int 0), (2, .int x), (3, .int 2), (4, .ref ou)] := hl
  refine lv_aload hx hb dL_sorted_0 (lv_at hl 4 rfl) ?_
  refine lv_iconst (v := 0) hx hb dL_sorted_2 (by decide) ?_
  refine lv_aload_n hx hb dL_sorted_3 rfl (lv_at hl 0 rfl) ?_
  refine lv_iload_n hx hb dL_sorted_4 rfl (lv_at hl 1 rfl) ?_
  refine lv_iload_n hx hb dL_sorted_5 rfl (lv_at hl 2 rfl) ?_
  refine lv_iload_n hx hb dL_sorted_6 rfl (lv_at hl 3 rfl) ?_
  refine vp_callSi (va_Run.run (va_runV (As := [.int 0, .int x, .int 2]) (rest := [.int 0, .ref ou]) ⟨hx, hb, hml, hown, hts⟩ (gJ_sorted_02 l D cI cL cQ h0 tl tr cu bk a2 n2 pl2 rk rv ro rp rl rf hk hv ho_ x (by first | assumption | decide | omega) (by first | assumption | decide | omega) (by first | assumption | decide | omega) (by first | assumption | decide | omega) (by first | assumption | decide | omega)) (cwV 3 hts gL_sorted_X5_sorted rfl rfl rfl (by decide +kernel) ⟨Nat.le_of_ble_eq_true rfl, Nat.le_of_ble_eq_true rfl⟩) (jr_V hK hN hP [0, 1, 2, 3, 4] rfl 5 0 rfl rfl rfl) rfl rfl hl.1 rfl (lv_room (Nat.le_of_ble_eq_true rfl)) dL_sorted_7 ⟨Nat.le_of_ble_eq_true rfl, Nat.le_of_ble_eq_true rfl⟩)) (fun r f_1 => ?_)
  obtain rfl := f_1
  refine lv_i2l (v := (jnum n2 ho_ x).toInt64) hx hb dL_sorted_10 (by first | rfl | decide) ?_
  refine va_last hx hb hK hP hD hS 5 1 rfl rfl (by unfold vp_in; decide) dL_sorted_11 (fun H locs hP hD hS => ?_)
  have hP : va_P D vwCl [(h0, .inr (5, [.ref tl, .ref tr, .ref cu, .ref bk, .int 1])), (tr, .inr (4, [.int (nI a2), .ref rk, .ref rv, .ref ro, .ref rp, .ref rl, .ref rf, .int (nI n2), .int (nI pl2)])), (rk, .inl (cI, a2, .inl hk)), (rv, .inl (cI, a2, .inl hv)), (ro, .inl (cI, a2, .inl ho_)), (ou, .inl (cL, 1, .inr (.inl (vp_updL fo (0 : Int32).toNatClampNeg ((jnum n2 ho_ x).toInt64)))))] H := hP
  have hD : va_D A [(h0, .inr (5, [.ref tl, .ref tr, .ref cu, .ref bk, .int 1])), (tr, .inr (4, [.int (nI a2), .ref rk, .ref rv, .ref ro, .ref rp, .ref rl, .ref rf, .int (nI n2), .int (nI pl2)])), (rk, .inl (cI, a2, .inl hk)), (rv, .inl (cI, a2, .inl hv)), (ro, .inl (cI, a2, .inl ho_)), (ou, .inl (cL, 1, .inr (.inl (vp_updL fo (0 : Int32).toNatClampNeg ((jnum n2 ho_ x).toInt64)))))] := hD
  refine lv_goto (tgt := 23) hx hb dL_sorted_12 (by decide) ?_
  refine lv_iconst (v := 0) hx hb dL_sorted_23 (by decide) ?_
  refine W.widen (k := 0) (n := 0) (by omega) (by omega) ?_
  exact W.iret (v := 0) hx hb hr (fun t ht hW => ⟨⟨0, [(h0, .inr (5, [.ref tl, .ref tr, .ref cu, .ref bk, .int 1])), (tr, .inr (4, [.int (nI a2), .ref rk, .ref rv, .ref ro, .ref rp, .ref rl, .ref rf, .int (nI n2), .int (nI pl2)])), (rk, .inl (cI, a2, .inl hk)), (rv, .inl (cI, a2, .inl hv)), (ro, .inl (cI, a2, .inl ho_)), (ou, .inl (cL, 1, .inr (.inl (vp_updL fo (0 : Int32).toNatClampNeg ((jnum n2 ho_ x).toInt64)))))], rfl, (⟨rfl, rfl⟩), by rw [ht]; exact hP, hD⟩, hS.F ht⟩) hS.2.2 dL_sorted_24
set_option maxHeartbeats 1000000 in
set_option maxRecDepth 100000 in
theorem kL_sorted_0a (l : Launch) (hnt : l.stackTraces = false) (D : va_G) (cI cL cQ : ClassId) (h0 : Nat) (tl : Nat) (tr : Nat) (cu : Nat) (bk : Nat) (a2 : Nat) (n2 : Nat) (pl2 : Nat) (rk : Nat) (rv : Nat) (ro : Nat) (rp : Nat) (rl : Nat) (rf : Nat) (pr : Int32) (x : Int32) (y : Int32) (ou : Nat) (fo : Nat → Int64) (sz : Nat) (h1 : (x < 0 ∨ nI n2 ≤ x) ∨ (y < 0 ∨ 3 ≤ y)) : Met l yL_sorted wsL_sorted ({ frames := 8, cells := 1, slots := 6, locals := 126 }) (jh_P D vwCl (jT cI cL cQ) cL cQ [.ref h0, .int 0, .int x, .int y, .ref ou] [(h0, .inr (5, [.ref tl, .ref tr, .ref cu, .ref bk, .int pr])), (tr, .inr (4, [.int (nI a2), .ref rk, .ref rv, .ref ro, .ref rp, .ref rl, .ref rf, .int (nI n2), .int (nI pl2)])), (ou, .inl (cL, 1, .inr (.inl fo)))] sz) (va_Qi (fun (r : Int32) (u : va_W) => r = 1 ∧ u = [(h0, .inr (5, [.ref tl, .ref tr, .ref cu, .ref bk, .int pr])), (tr, .inr (4, [.int (nI a2), .ref rk, .ref rv, .ref ro, .ref rp, .ref rl, .ref rf, .int (nI n2), .int (nI pl2)])), (ou, .inl (cL, 1, .inr (.inl fo)))]) (jw_B D vwCl (va_A [(h0, .inr (5, [.ref tl, .ref tr, .ref cu, .ref bk, .int pr])), (tr, .inr (4, [.int (nI a2), .ref rk, .ref rv, .ref ro, .ref rp, .ref rl, .ref rf, .int (nI n2), .int (nI pl2)])), (ou, .inl (cL, 1, .inr (.inl fo)))] sz) (fun u : va_W => u)) (va_A [(h0, .inr (5, [.ref tl, .ref tr, .ref cu, .ref bk, .int pr])), (tr, .inr (4, [.int (nI a2), .ref rk, .ref rv, .ref ro, .ref rp, .ref rl, .ref rf, .int (nI n2), .int (nI pl2)])), (ou, .inl (cL, 1, .inr (.inl fo)))] sz)) 1 6 (va_A [(h0, .inr (5, [.ref tl, .ref tr, .ref cu, .ref bk, .int pr])), (tr, .inr (4, [.int (nI a2), .ref rk, .ref rv, .ref ro, .ref rp, .ref rl, .ref rf, .int (nI n2), .int (nI pl2)])), (ou, .inl (cL, 1, .inr (.inl fo)))] sz) := by
  refine va_MetW (hh := [(0, 12, 15, 19), (0, 12, 19, 13)]) (cc := cL_sorted) (maxL := 6) (ret := (some .int)) (by decide) rfl ?_
  intro p e s m args below meth c s₁ B hml hv
  obtain ⟨rfl, hsz, hP, hK, hN, hD0, hZ⟩ := hv
  have hx := B.exec
  have hb := B.bytes
  have hr := B.returns
  have hts := atoms_spec (ws := wsL_sorted) B.pre
  have hown : s.vm.findClass RL = some m.cls := findClass_of_methodNamed B.named
  have hlocks := B.notSynchronized
  subst hsz
  have hD := hD0.self (sz := s.heap.size)
  generalize hAe : va_A [(h0, .inr (5, [.ref tl, .ref tr, .ref cu, .ref bk, .int pr])), (tr, .inr (4, [.int (nI a2), .ref rk, .ref rv, .ref ro, .ref rp, .ref rl, .ref rf, .int (nI n2), .int (nI pl2)])), (ou, .inl (cL, 1, .inr (.inl fo)))] s.heap.size = A at hD ⊢
  have hA : ∀ q : Nat, s.heap.size ≤ q → A q := fun q h => by rw [← hAe]; exact Or.inr h
  have hS : va_S A s.heap s.heap [] := va_S.rf
  have hl := lv_entry ([.ref h0, .int 0, .int x, .int y, .ref ou]) (n := 6) (Nat.le_of_ble_eq_true rfl)
  rw [lg_entry_eq]
  generalize (lg_sl ([.ref h0, .int 0, .int x, .int y, .ref ou]) ++ List.replicate (6 - (lg_sl ([.ref h0, .int 0, .int x, .int y, .ref ou])).length) Slot.unset).toArray = ls at hl ⊢
  have hl : lv_has ls 6 [(0, .ref h0), (1, .int 0), (2, .int x), (3, .int y), (4, .ref ou)] := hl
  refine lv_aload hx hb dL_sorted_0 (lv_at hl 4 rfl) ?_
  refine lv_iconst (v := 0) hx hb dL_sorted_2 (by decide) ?_
  refine lv_aload_n hx hb dL_sorted_3 rfl (lv_at hl 0 rfl) ?_
  refine lv_iload_n hx hb dL_sorted_4 rfl (lv_at hl 1 rfl) ?_
  refine lv_iload_n hx hb dL_sorted_5 rfl (lv_at hl 2 rfl) ?_
  refine lv_iload_n hx hb dL_sorted_6 rfl (lv_at hl 3 rfl) ?_
  refine jx_thr (vx_runV (As := [.int 0, .int x, .int y]) (rest := [.int 0, .ref ou]) ⟨hx, hb, hml, hown, hts⟩ (gJ_sorted_0a l hnt D cI cL cQ h0 tl tr cu bk a2 n2 pl2 rk rv ro rp rl rf pr x y (by first | assumption | decide | omega)) (cwV 3 hts gL_sorted_X5_sorted rfl rfl rfl (by decide +kernel) ⟨Nat.le_of_ble_eq_true rfl, Nat.le_of_ble_eq_true rfl⟩) (jt_V hK hN hZ hP [0, 1] rfl 5 0 rfl rfl rfl) rfl rfl hl.1 rfl (lv_room (Nat.le_of_ble_eq_true rfl)) dL_sorted_7 ⟨Nat.le_of_ble_eq_true rfl, Nat.le_of_ble_eq_true rfl⟩) (fun ce q9 H1 hz hk hce hcv hcl => ?_)
  have hP : va_P D vwCl [(h0, .inr (5, [.ref tl, .ref tr, .ref cu, .ref bk, .int pr])), (tr, .inr (4, [.int (nI a2), .ref rk, .ref rv, .ref ro, .ref rp, .ref rl, .ref rf, .int (nI n2), .int (nI pl2)])), (ou, .inl (cL, 1, .inr (.inl fo)))] H1 := hP.kept (fun k x hx => hk x.1 (hP k x hx).lt)
  have hS : va_S A s.heap H1 [] := ⟨hz, fun q h1 _ => hk q h1, fun _ h => nomatch h⟩
  generalize H1 = H at hP hS hce ⊢
  have htab : c.exceptionTable.toList = [⟨0, 12, 15, 19⟩, ⟨0, 12, 19, 13⟩] := vx_table (x := yL_sorted) B (hts _ List.mem_cons_self)
  refine jc_first (name := "") hown ⟨0, 12, 15, 19⟩ [⟨0, 12, 19, 13⟩] htab (by decide) (by decide) (hts (.classLink RL 19 "java/lang/IllegalArgumentException") (by decide +kernel)) hce hcv hcl ?_
  refine W.eq (g2 := F0 m 15 ls [.ref q9]) rfl ?_
  refine W.widen (k := 1) (n := 6) (by omega) (by omega) ?_
  refine lv_astore (lv' := [(5, .ref q9), (0, .ref h0), (1, .int 0), (2, .int x), (3, .int y), (4, .ref ou)]) hx hb dL_sorted_15 hl (by decide) rfl (fun ls hl => ?_)
  refine lv_iconst (v := 1) hx hb dL_sorted_17 (by decide) ?_
  refine W.widen (k := 1) (n := 6) (by omega) (by omega) ?_
  exact W.iret (v := 1) hx hb hr (fun t ht hW => ⟨⟨1, [(h0, .inr (5, [.ref tl, .ref tr, .ref cu, .ref bk, .int pr])), (tr, .inr (4, [.int (nI a2), .ref rk, .ref rv, .ref ro, .ref rp, .ref rl, .ref rf, .int (nI n2), .int (nI pl2)])), (ou, .inl (cL, 1, .inr (.inl fo)))], rfl, (by exact ⟨rfl, rfl⟩), by rw [ht]; exact hP, hD⟩, hS.F ht⟩) hS.2.2 dL_sorted_18
set_option maxHeartbeats 1000000 in
set_option maxRecDepth 100000 in
theorem kL_sorted_0s (l : Launch) (hnt : l.stackTraces = false) (D : va_G) (cI cL cQ : ClassId) (h0 : Nat) (tl : Nat) (tr : Nat) (cu : Nat) (bk : Nat) (a2 : Nat) (n2 : Nat) (pl2 : Nat) (rk : Nat) (rv : Nat) (ro : Nat) (rp : Nat) (rl : Nat) (rf : Nat) (x : Int32) (y : Int32) (ou : Nat) (fo : Nat → Int64) (sz : Nat) (h1 : ¬ x < 0) (h2 : ¬ nI n2 ≤ x) (h3 : ¬ y < 0) (h4 : ¬ 3 ≤ y) : Met l yL_sorted wsL_sorted ({ frames := 8, cells := 1, slots := 6, locals := 126 }) (jh_P D vwCl (jT cI cL cQ) cL cQ [.ref h0, .int 0, .int x, .int y, .ref ou] [(h0, .inr (5, [.ref tl, .ref tr, .ref cu, .ref bk, .int 0])), (tr, .inr (4, [.int (nI a2), .ref rk, .ref rv, .ref ro, .ref rp, .ref rl, .ref rf, .int (nI n2), .int (nI pl2)])), (ou, .inl (cL, 1, .inr (.inl fo)))] sz) (va_Qi (fun (r : Int32) (u : va_W) => r = 2 ∧ u = [(h0, .inr (5, [.ref tl, .ref tr, .ref cu, .ref bk, .int 0])), (tr, .inr (4, [.int (nI a2), .ref rk, .ref rv, .ref ro, .ref rp, .ref rl, .ref rf, .int (nI n2), .int (nI pl2)])), (ou, .inl (cL, 1, .inr (.inl fo)))]) (jw_B D vwCl (va_A [(h0, .inr (5, [.ref tl, .ref tr, .ref cu, .ref bk, .int 0])), (tr, .inr (4, [.int (nI a2), .ref rk, .ref rv, .ref ro, .ref rp, .ref rl, .ref rf, .int (nI n2), .int (nI pl2)])), (ou, .inl (cL, 1, .inr (.inl fo)))] sz) (fun u : va_W => u)) (va_A [(h0, .inr (5, [.ref tl, .ref tr, .ref cu, .ref bk, .int 0])), (tr, .inr (4, [.int (nI a2), .ref rk, .ref rv, .ref ro, .ref rp, .ref rl, .ref rf, .int (nI n2), .int (nI pl2)])), (ou, .inl (cL, 1, .inr (.inl fo)))] sz)) 1 6 (va_A [(h0, .inr (5, [.ref tl, .ref tr, .ref cu, .ref bk, .int 0])), (tr, .inr (4, [.int (nI a2), .ref rk, .ref rv, .ref ro, .ref rp, .ref rl, .ref rf, .int (nI n2), .int (nI pl2)])), (ou, .inl (cL, 1, .inr (.inl fo)))] sz) := by
  refine va_MetW (hh := [(0, 12, 15, 19), (0, 12, 19, 13)]) (cc := cL_sorted) (maxL := 6) (ret := (some .int)) (by decide) rfl ?_
  intro p e s m args below meth c s₁ B hml hv
  obtain ⟨rfl, hsz, hP, hK, hN, hD0, hZ⟩ := hv
  have hx := B.exec
  have hb := B.bytes
  have hr := B.returns
  have hts := atoms_spec (ws := wsL_sorted) B.pre
  have hown : s.vm.findClass RL = some m.cls := findClass_of_methodNamed B.named
  have hlocks := B.notSynchronized
  subst hsz
  have hD := hD0.self (sz := s.heap.size)
  generalize hAe : va_A [(h0, .inr (5, [.ref tl, .ref tr, .ref cu, .ref bk, .int 0])), (tr, .inr (4, [.int (nI a2), .ref rk, .ref rv, .ref ro, .ref rp, .ref rl, .ref rf, .int (nI n2), .int (nI pl2)])), (ou, .inl (cL, 1, .inr (.inl fo)))] s.heap.size = A at hD ⊢
  have hA : ∀ q : Nat, s.heap.size ≤ q → A q := fun q h => by rw [← hAe]; exact Or.inr h
  have hS : va_S A s.heap s.heap [] := va_S.rf
  have hl := lv_entry ([.ref h0, .int 0, .int x, .int y, .ref ou]) (n := 6) (Nat.le_of_ble_eq_true rfl)
  rw [lg_entry_eq]
  generalize (lg_sl ([.ref h0, .int 0, .int x, .int y, .ref ou]) ++ List.replicate (6 - (lg_sl ([.ref h0, .int 0, .int x, .int y, .ref ou])).length) Slot.unset).toArray = ls at hl ⊢
  have hl : lv_has ls 6 [(0, .ref h0), (1, .int 0), (2, .int x), (3, .int y), (4, .ref ou)] := hl
  refine lv_aload hx hb dL_sorted_0 (lv_at hl 4 rfl) ?_
  refine lv_iconst (v := 0) hx hb dL_sorted_2 (by decide) ?_
  refine lv_aload_n hx hb dL_sorted_3 rfl (lv_at hl 0 rfl) ?_
  refine lv_iload_n hx hb dL_sorted_4 rfl (lv_at hl 1 rfl) ?_
  refine lv_iload_n hx hb dL_sorted_5 rfl (lv_at hl 2 rfl) ?_
  refine lv_iload_n hx hb dL_sorted_6 rfl (lv_at hl 3 rfl) ?_
  refine jx_thr (vx_runV (As := [.int 0, .int x, .int y]) (rest := [.int 0, .ref ou]) ⟨hx, hb, hml, hown, hts⟩ (gJ_sorted_0s l hnt D cI cL cQ h0 tl tr cu bk a2 n2 pl2 rk rv ro rp rl rf x y (by first | assumption | decide | omega) (by first | assumption | decide | omega) (by first | assumption | decide | omega) (by first | assumption | decide | omega)) (cwV 3 hts gL_sorted_X5_sorted rfl rfl rfl (by decide +kernel) ⟨Nat.le_of_ble_eq_true rfl, Nat.le_of_ble_eq_true rfl⟩) (jt_V hK hN hZ hP [0, 1] rfl 5 0 rfl rfl rfl) rfl rfl hl.1 rfl (lv_room (Nat.le_of_ble_eq_true rfl)) dL_sorted_7 ⟨Nat.le_of_ble_eq_true rfl, Nat.le_of_ble_eq_true rfl⟩) (fun ce q9 H1 hz hk hce hcv hcl => ?_)
  have hP : va_P D vwCl [(h0, .inr (5, [.ref tl, .ref tr, .ref cu, .ref bk, .int 0])), (tr, .inr (4, [.int (nI a2), .ref rk, .ref rv, .ref ro, .ref rp, .ref rl, .ref rf, .int (nI n2), .int (nI pl2)])), (ou, .inl (cL, 1, .inr (.inl fo)))] H1 := hP.kept (fun k x hx => hk x.1 (hP k x hx).lt)
  have hS : va_S A s.heap H1 [] := ⟨hz, fun q h1 _ => hk q h1, fun _ h => nomatch h⟩
  generalize H1 = H at hP hS hce ⊢
  have htab : c.exceptionTable.toList = [⟨0, 12, 15, 19⟩, ⟨0, 12, 19, 13⟩] := vx_table (x := yL_sorted) B (hts _ List.mem_cons_self)
  refine jc_second hown ⟨0, 12, 15, 19⟩ ⟨0, 12, 19, 13⟩ [] htab (by decide) (by decide) (by decide) (by decide) (hts (.classLink RL 19 "java/lang/IllegalArgumentException") (by decide +kernel)) (hZ.2.2.2.2.2.2.1 _ (by decide +kernel) _ (by decide +kernel) (by decide +kernel)) (hts (.classLink RL 13 "java/lang/IllegalStateException") (by decide +kernel)) hce hcv hcl ?_
  refine W.eq (g2 := F0 m 19 ls [.ref q9]) rfl ?_
  refine W.widen (k := 1) (n := 6) (by omega) (by omega) ?_
  refine lv_astore (lv' := [(5, .ref q9), (0, .ref h0), (1, .int 0), (2, .int x), (3, .int y), (4, .ref ou)]) hx hb dL_sorted_19 hl (by decide) rfl (fun ls hl => ?_)
  refine lv_iconst (v := 2) hx hb dL_sorted_21 (by decide) ?_
  refine W.widen (k := 1) (n := 6) (by omega) (by omega) ?_
  exact W.iret (v := 2) hx hb hr (fun t ht hW => ⟨⟨2, [(h0, .inr (5, [.ref tl, .ref tr, .ref cu, .ref bk, .int 0])), (tr, .inr (4, [.int (nI a2), .ref rk, .ref rv, .ref ro, .ref rp, .ref rl, .ref rf, .int (nI n2), .int (nI pl2)])), (ou, .inl (cL, 1, .inr (.inl fo)))], rfl, (by exact ⟨rfl, rfl⟩), by rw [ht]; exact hP, hD⟩, hS.F ht⟩) hS.2.2 dL_sorted_22
set_option maxHeartbeats 1000000 in
set_option maxRecDepth 100000 in
theorem kL_pair_t (l : Launch) (hnt : l.stackTraces = false) (D : va_G) (cI cL cQ : ClassId) (h0 : Nat) (tl : Nat) (tr : Nat) (cu : Nat) (bk : Nat) (pr : Int32) (x : Int32) (ou : Nat) (fo : Nat → Int64) (sz : Nat) (h1 : x < 0 ∨ 5 ≤ x) : Met l yL_pair wsL_pair ({ frames := 8, cells := 1, slots := 6, locals := 125 }) (jh_P D vwCl (jT cI cL cQ) cL cQ [.ref h0, .int x, .ref ou] [(h0, .inr (5, [.ref tl, .ref tr, .ref cu, .ref bk, .int pr])), (ou, .inl (cL, 1, .inr (.inl fo)))] sz) (va_Qi (fun (r : Int32) (u : va_W) => r = 1 ∧ u = [(h0, .inr (5, [.ref tl, .ref tr, .ref cu, .ref bk, .int pr])), (ou, .inl (cL, 1, .inr (.inl fo)))]) (jw_B D vwCl (va_A [(h0, .inr (5, [.ref tl, .ref tr, .ref cu, .ref bk, .int pr])), (ou, .inl (cL, 1, .inr (.inl fo)))] sz) (fun u : va_W => u)) (va_A [(h0, .inr (5, [.ref tl, .ref tr, .ref cu, .ref bk, .int pr])), (ou, .inl (cL, 1, .inr (.inl fo)))] sz)) 1 6 (va_A [(h0, .inr (5, [.ref tl, .ref tr, .ref cu, .ref bk, .int pr])), (ou, .inl (cL, 1, .inr (.inl fo)))] sz) := by
  refine va_MetW (hh := [(0, 9, 12, 19)]) (cc := cL_pair) (maxL := 4) (ret := (some .int)) (by decide) rfl ?_
  intro p e s m args below meth c s₁ B hml hv
  obtain ⟨rfl, hsz, hP, hK, hN, hD0, hZ⟩ := hv
  have hx := B.exec
  have hb := B.bytes
  have hr := B.returns
  have hts := atoms_spec (ws := wsL_pair) B.pre
  have hown : s.vm.findClass RL = some m.cls := findClass_of_methodNamed B.named
  have hlocks := B.notSynchronized
  subst hsz
  have hD := hD0.self (sz := s.heap.size)
  generalize hAe : va_A [(h0, .inr (5, [.ref tl, .ref tr, .ref cu, .ref bk, .int pr])), (ou, .inl (cL, 1, .inr (.inl fo)))] s.heap.size = A at hD ⊢
  have hA : ∀ q : Nat, s.heap.size ≤ q → A q := fun q h => by rw [← hAe]; exact Or.inr h
  have hS : va_S A s.heap s.heap [] := va_S.rf
  have hl := lv_entry ([.ref h0, .int x, .ref ou]) (n := 4) (Nat.le_of_ble_eq_true rfl)
  rw [lg_entry_eq]
  generalize (lg_sl ([.ref h0, .int x, .ref ou]) ++ List.replicate (4 - (lg_sl ([.ref h0, .int x, .ref ou])).length) Slot.unset).toArray = ls at hl ⊢
  have hl : lv_has ls 4 [(0, .ref h0), (1, .int x), (2, .ref ou)] := hl
  refine lv_aload_n hx hb dL_pair_0 rfl (lv_at hl 2 rfl) ?_
  refine lv_iconst (v := 0) hx hb dL_pair_1 (by decide) ?_
  refine lv_aload_n hx hb dL_pair_2 rfl (lv_at hl 0 rfl) ?_
  refine lv_iload_n hx hb dL_pair_3 rfl (lv_at hl 1 rfl) ?_
  refine jx_thr (vx_runV (As := [.int x]) (rest := [.int 0, .ref ou]) ⟨hx, hb, hml, hown, hts⟩ (gJ_pair_t l hnt D cI cL cQ h0 tl tr cu bk pr x (by first | assumption | decide | omega)) (cwV 1 hts gL_pair_X5_pair rfl rfl rfl (by decide +kernel) ⟨Nat.le_of_ble_eq_true rfl, Nat.le_of_ble_eq_true rfl⟩) (jt_V hK hN hZ hP [0] rfl 5 0 rfl rfl rfl) rfl rfl hl.1 rfl (lv_room (Nat.le_of_ble_eq_true rfl)) dL_pair_4 ⟨Nat.le_of_ble_eq_true rfl, Nat.le_of_ble_eq_true rfl⟩) (fun ce q9 H1 hz hk hce hcv hcl => ?_)
  have hP : va_P D vwCl [(h0, .inr (5, [.ref tl, .ref tr, .ref cu, .ref bk, .int pr])), (ou, .inl (cL, 1, .inr (.inl fo)))] H1 := hP.kept (fun k x hx => hk x.1 (hP k x hx).lt)
  have hS : va_S A s.heap H1 [] := ⟨hz, fun q h1 _ => hk q h1, fun _ h => nomatch h⟩
  generalize H1 = H at hP hS hce ⊢
  have htab : c.exceptionTable.toList = [⟨0, 9, 12, 19⟩] := vx_table (x := yL_pair) B (hts _ List.mem_cons_self)
  refine jc_first (name := "") hown ⟨0, 9, 12, 19⟩ [] htab (by decide) (by decide) (hts (.classLink RL 19 "java/lang/IllegalArgumentException") (by decide +kernel)) hce hcv hcl ?_
  refine W.eq (g2 := F0 m 12 ls [.ref q9]) rfl ?_
  refine W.widen (k := 1) (n := 6) (by omega) (by omega) ?_
  refine lv_astore_n (lv' := [(3, .ref q9), (0, .ref h0), (1, .int x), (2, .ref ou)]) hx hb dL_pair_12 rfl hl (by decide) rfl (fun ls hl => ?_)
  refine lv_iconst (v := 1) hx hb dL_pair_13 (by decide) ?_
  refine W.widen (k := 1) (n := 6) (by omega) (by omega) ?_
  exact W.iret (v := 1) hx hb hr (fun t ht hW => ⟨⟨1, [(h0, .inr (5, [.ref tl, .ref tr, .ref cu, .ref bk, .int pr])), (ou, .inl (cL, 1, .inr (.inl fo)))], rfl, (by exact ⟨rfl, rfl⟩), by rw [ht]; exact hP, hD⟩, hS.F ht⟩) hS.2.2 dL_pair_14
set_option maxHeartbeats 1000000 in
set_option maxRecDepth 100000 in
theorem kL_pair_10 (l : Launch) (hnt : l.stackTraces = false) (D : va_G) (cI cL cQ : ClassId) (h0 : Nat) (tl : Nat) (tr : Nat) (cu : Nat) (bk : Nat) (he : Nat) (ma : Nat) (hm : Int32) (kd : Int32) (cc0 : Int64) (p0 : Int32) (p1 : Int32) (p2 : Int32) (p3 : Int32) (p4 : Int32) (p5 : Int32) (p6 : Int32) (a : Nat) (n : Nat) (pl : Nat) (a2 : Nat) (n2 : Nat) (pl2 : Nat) (lk : Nat) (lv : Nat) (lo : Nat) (lp : Nat) (ll : Nat) (lf : Nat) (rk : Nat) (rv : Nat) (ro : Nat) (rp : Nat) (rl : Nat) (rf : Nat) (gk : Nat → Int32) (gv : Nat → Int32) (go : Nat → Int32) (hk : Nat → Int32) (hv : Nat → Int32) (ho_ : Nat → Int32) (ou : Nat) (fo : Nat → Int64) (sz : Nat) (ha : a ≤ 400) (hn : n ≤ a) (hol : jord a go) (ha2 : a2 ≤ 400) (hn2 : n2 ≤ a2) (hor : jord a2 ho_) : Met l yL_pair wsL_pair ({ frames := 3, cells := 0, slots := 0, locals := 65 }) (jh_P D vwCl (jT cI cL cQ) cL cQ [.ref h0, .int 0, .ref ou] [(h0, .inr (5, [.ref tl, .ref tr, .ref cu, .ref bk, .int 1])), (cu, .inr (0, [.ref tl, .ref tr, .ref he, .ref ma, .int hm, .int kd, .long cc0])), (he, .inr (2, [.int p0, .int p1, .int p2, .int p3, .int p4, .int p5, .int p6])), (tl, .inr (4, [.int (nI a), .ref lk, .ref lv, .ref lo, .ref lp, .ref ll, .ref lf, .int (nI n), .int (nI pl)])), (lk, .inl (cI, a, .inl gk)), (lv, .inl (cI, a, .inl gv)), (lo, .inl (cI, a, .inl go)), (tr, .inr (4, [.int (nI a2), .ref rk, .ref rv, .ref ro, .ref rp, .ref rl, .ref rf, .int (nI n2), .int (nI pl2)])), (rk, .inl (cI, a2, .inl hk)), (rv, .inl (cI, a2, .inl hv)), (ro, .inl (cI, a2, .inl ho_)), (ou, .inl (cL, 1, .inr (.inl fo)))] sz) (va_Qi (fun (r : Int32) (u : va_W) => ∃ (fo9 : Nat → Int64), r = 0 ∧ u = [(h0, .inr (5, [.ref tl, .ref tr, .ref cu, .ref bk, .int 1])), (cu, .inr (0, [.ref tl, .ref tr, .ref he, .ref ma, .int hm, .int kd, .long cc0])), (he, .inr (2, [.int p0, .int p1, .int p2, .int p3, .int p4, .int p5, .int p6])), (tl, .inr (4, [.int (nI a), .ref lk, .ref lv, .ref lo, .ref lp, .ref ll, .ref lf, .int (nI n), .int (nI pl)])), (lk, .inl (cI, a, .inl gk)), (lv, .inl (cI, a, .inl gv)), (lo, .inl (cI, a, .inl go)), (tr, .inr (4, [.int (nI a2), .ref rk, .ref rv, .ref ro, .ref rp, .ref rl, .ref rf, .int (nI n2), .int (nI pl2)])), (rk, .inl (cI, a2, .inl hk)), (rv, .inl (cI, a2, .inl hv)), (ro, .inl (cI, a2, .inl ho_)), (ou, .inl (cL, 1, .inr (.inl fo9)))]) (jw_B D vwCl (va_A [(h0, .inr (5, [.ref tl, .ref tr, .ref cu, .ref bk, .int 1])), (cu, .inr (0, [.ref tl, .ref tr, .ref he, .ref ma, .int hm, .int kd, .long cc0])), (he, .inr (2, [.int p0, .int p1, .int p2, .int p3, .int p4, .int p5, .int p6])), (tl, .inr (4, [.int (nI a), .ref lk, .ref lv, .ref lo, .ref lp, .ref ll, .ref lf, .int (nI n), .int (nI pl)])), (lk, .inl (cI, a, .inl gk)), (lv, .inl (cI, a, .inl gv)), (lo, .inl (cI, a, .inl go)), (tr, .inr (4, [.int (nI a2), .ref rk, .ref rv, .ref ro, .ref rp, .ref rl, .ref rf, .int (nI n2), .int (nI pl2)])), (rk, .inl (cI, a2, .inl hk)), (rv, .inl (cI, a2, .inl hv)), (ro, .inl (cI, a2, .inl ho_)), (ou, .inl (cL, 1, .inr (.inl fo)))] sz) (fun u : va_W => u)) (va_A [(h0, .inr (5, [.ref tl, .ref tr, .ref cu, .ref bk, .int 1])), (cu, .inr (0, [.ref tl, .ref tr, .ref he, .ref ma, .int hm, .int kd, .long cc0])), (he, .inr (2, [.int p0, .int p1, .int p2, .int p3, .int p4, .int p5, .int p6])), (tl, .inr (4, [.int (nI a), .ref lk, .ref lv, .ref lo, .ref lp, .ref ll, .ref lf, .int (nI n), .int (nI pl)])), (lk, .inl (cI, a, .inl gk)), (lv, .inl (cI, a, .inl gv)), (lo, .inl (cI, a, .inl go)), (tr, .inr (4, [.int (nI a2), .ref rk, .ref rv, .ref ro, .ref rp, .ref rl, .ref rf, .int (nI n2), .int (nI pl2)])), (rk, .inl (cI, a2, .inl hk)), (rv, .inl (cI, a2, .inl hv)), (ro, .inl (cI, a2, .inl ho_)), (ou, .inl (cL, 1, .inr (.inl fo)))] sz)) 0 0 (va_A [(h0, .inr (5, [.ref tl, .ref tr, .ref cu, .ref bk, .int 1])), (cu, .inr (0, [.ref tl, .ref tr, .ref he, .ref ma, .int hm, .int kd, .long cc0])), (he, .inr (2, [.int p0, .int p1, .int p2, .int p3, .int p4, .int p5, .int p6])), (tl, .inr (4, [.int (nI a), .ref lk, .ref lv, .ref lo, .ref lp, .ref ll, .ref lf, .int (nI n), .int (nI pl)])), (lk, .inl (cI, a, .inl gk)), (lv, .inl (cI, a, .inl gv)), (lo, .inl (cI, a, .inl go)), (tr, .inr (4, [.int (nI a2), .ref rk, .ref rv, .ref ro, .ref rp, .ref rl, .ref rf, .int (nI n2), .int (nI pl2)])), (rk, .inl (cI, a2, .inl hk)), (rv, .inl (cI, a2, .inl hv)), (ro, .inl (cI, a2, .inl ho_)), (ou, .inl (cL, 1, .inr (.inl fo)))] sz) := by
  refine va_MetW (hh := [(0, 9, 12, 19)]) (cc := cL_pair) (maxL := 4) (ret := (some .int)) (by decide) rfl ?_
  intro p e s m args below meth c s₁ B hml hv
  obtain ⟨rfl, hsz, hP, hK, hN, hD0, hZ⟩ := hv
  have hx := B.exec
  have hb := B.bytes
  have hr := B.returns
  have hts := atoms_spec (ws := wsL_pair) B.pre
  have hown : s.vm.findClass RL = some m.cls := findClass_of_methodNamed B.named
  have hlocks := B.notSynchronized
  subst hsz
  have hD := hD0.self (sz := s.heap.size)
  generalize hAe : va_A [(h0, .inr (5, [.ref tl, .ref tr, .ref cu, .ref bk, .int 1])), (cu, .inr (0, [.ref tl, .ref tr, .ref he, .ref ma, .int hm, .int kd, .long cc0])), (he, .inr (2, [.int p0, .int p1, .int p2, .int p3, .int p4, .int p5, .int p6])), (tl, .inr (4, [.int (nI a), .ref lk, .ref lv, .ref lo, .ref lp, .ref ll, .ref lf, .int (nI n), .int (nI pl)])), (lk, .inl (cI, a, .inl gk)), (lv, .inl (cI, a, .inl gv)), (lo, .inl (cI, a, .inl go)), (tr, .inr (4, [.int (nI a2), .ref rk, .ref rv, .ref ro, .ref rp, .ref rl, .ref rf, .int (nI n2), .int (nI pl2)])), (rk, .inl (cI, a2, .inl hk)), (rv, .inl (cI, a2, .inl hv)), (ro, .inl (cI, a2, .inl ho_)), (ou, .inl (cL, 1, .inr (.inl fo)))] s.heap.size = A at hD ⊢
  have hA : ∀ q : Nat, s.heap.size ≤ q → A q := fun q h => by rw [← hAe]; exact Or.inr h
  have hS : va_S A s.heap s.heap [] := va_S.rf
  have hl := lv_entry ([.ref h0, .int 0, .ref ou]) (n := 4) (Nat.le_of_ble_eq_true rfl)
  rw [lg_entry_eq]
  generalize (lg_sl ([.ref h0, .int 0, .ref ou]) ++ List.replicate (4 - (lg_sl ([.ref h0, .int 0, .ref ou])).length) Slot.unset).toArray = ls at hl ⊢
  have hl : lv_has ls 4 [(0, .ref h0), (1, .int 0), (2, .ref ou)] := hl
  refine lv_aload_n hx hb dL_pair_0 rfl (lv_at hl 2 rfl) ?_
  refine lv_iconst (v := 0) hx hb dL_pair_1 (by decide) ?_
  refine lv_aload_n hx hb dL_pair_2 rfl (lv_at hl 0 rfl) ?_
  refine lv_iload_n hx hb dL_pair_3 rfl (lv_at hl 1 rfl) ?_
  refine vp_callSi (va_Run.run (va_runV (As := [.int 0]) (rest := [.int 0, .ref ou]) ⟨hx, hb, hml, hown, hts⟩ (gJ_pair_10 l D cI cL cQ h0 tl tr cu bk he ma hm kd cc0 p0 p1 p2 p3 p4 p5 p6 a n pl a2 n2 pl2 lk lv lo lp ll lf rk rv ro rp rl rf gk gv go hk hv ho_ (by first | assumption | decide | omega) (by first | assumption | decide | omega) (by first | assumption | decide | omega) (by first | assumption | decide | omega) (by first | assumption | decide | omega) (by first | assumption | decide | omega)) (cwV 1 hts gL_pair_X5_pair rfl rfl rfl (by decide +kernel) ⟨Nat.le_of_ble_eq_true rfl, Nat.le_of_ble_eq_true rfl⟩) (jr_V hK hN hP [0, 1, 2, 3, 4, 5, 6, 7, 8, 9, 10] rfl 5 0 rfl rfl rfl) rfl rfl hl.1 rfl (lv_room (Nat.le_of_ble_eq_true rfl)) dL_pair_4 ⟨Nat.le_of_ble_eq_true rfl, Nat.le_of_ble_eq_true rfl⟩)) (fun r f_1 => ?_)
  obtain ⟨z9, er_2⟩ := f_1
  subst r
  refine lv_i2l (v := z9.toInt64) hx hb dL_pair_7 (by first | rfl | decide) ?_
  refine va_last hx hb hK hP hD hS 11 1 rfl rfl (by unfold vp_in; decide) dL_pair_8 (fun H locs hP hD hS => ?_)
  have hP : va_P D vwCl [(h0, .inr (5, [.ref tl, .ref tr, .ref cu, .ref bk, .int 1])), (cu, .inr (0, [.ref tl, .ref tr, .ref he, .ref ma, .int hm, .int kd, .long cc0])), (he, .inr (2, [.int p0, .int p1, .int p2, .int p3, .int p4, .int p5, .int p6])), (tl, .inr (4, [.int (nI a), .ref lk, .ref lv, .ref lo, .ref lp, .ref ll, .ref lf, .int (nI n), .int (nI pl)])), (lk, .inl (cI, a, .inl gk)), (lv, .inl (cI, a, .inl gv)), (lo, .inl (cI, a, .inl go)), (tr, .inr (4, [.int (nI a2), .ref rk, .ref rv, .ref ro, .ref rp, .ref rl, .ref rf, .int (nI n2), .int (nI pl2)])), (rk, .inl (cI, a2, .inl hk)), (rv, .inl (cI, a2, .inl hv)), (ro, .inl (cI, a2, .inl ho_)), (ou, .inl (cL, 1, .inr (.inl (vp_updL fo (0 : Int32).toNatClampNeg z9.toInt64))))] H := hP
  have hD : va_D A [(h0, .inr (5, [.ref tl, .ref tr, .ref cu, .ref bk, .int 1])), (cu, .inr (0, [.ref tl, .ref tr, .ref he, .ref ma, .int hm, .int kd, .long cc0])), (he, .inr (2, [.int p0, .int p1, .int p2, .int p3, .int p4, .int p5, .int p6])), (tl, .inr (4, [.int (nI a), .ref lk, .ref lv, .ref lo, .ref lp, .ref ll, .ref lf, .int (nI n), .int (nI pl)])), (lk, .inl (cI, a, .inl gk)), (lv, .inl (cI, a, .inl gv)), (lo, .inl (cI, a, .inl go)), (tr, .inr (4, [.int (nI a2), .ref rk, .ref rv, .ref ro, .ref rp, .ref rl, .ref rf, .int (nI n2), .int (nI pl2)])), (rk, .inl (cI, a2, .inl hk)), (rv, .inl (cI, a2, .inl hv)), (ro, .inl (cI, a2, .inl ho_)), (ou, .inl (cL, 1, .inr (.inl (vp_updL fo (0 : Int32).toNatClampNeg z9.toInt64))))] := hD
  refine lv_goto (tgt := 15) hx hb dL_pair_9 (by decide) ?_
  refine lv_iconst (v := 0) hx hb dL_pair_15 (by decide) ?_
  refine W.widen (k := 0) (n := 0) (by omega) (by omega) ?_
  exact W.iret (v := 0) hx hb hr (fun t ht hW => ⟨⟨0, [(h0, .inr (5, [.ref tl, .ref tr, .ref cu, .ref bk, .int 1])), (cu, .inr (0, [.ref tl, .ref tr, .ref he, .ref ma, .int hm, .int kd, .long cc0])), (he, .inr (2, [.int p0, .int p1, .int p2, .int p3, .int p4, .int p5, .int p6])), (tl, .inr (4, [.int (nI a), .ref lk, .ref lv, .ref lo, .ref lp, .ref ll, .ref lf, .int (nI n), .int (nI pl)])), (lk, .inl (cI, a, .inl gk)), (lv, .inl (cI, a, .inl gv)), (lo, .inl (cI, a, .inl go)), (tr, .inr (4, [.int (nI a2), .ref rk, .ref rv, .ref ro, .ref rp, .ref rl, .ref rf, .int (nI n2), .int (nI pl2)])), (rk, .inl (cI, a2, .inl hk)), (rv, .inl (cI, a2, .inl hv)), (ro, .inl (cI, a2, .inl ho_)), (ou, .inl (cL, 1, .inr (.inl (vp_updL fo (0 : Int32).toNatClampNeg z9.toInt64))))], rfl, (⟨_, rfl, rfl⟩), by rw [ht]; exact hP, hD⟩, hS.F ht⟩) hS.2.2 dL_pair_16
set_option maxHeartbeats 1000000 in
set_option maxRecDepth 100000 in
theorem kL_pair_11 (l : Launch) (hnt : l.stackTraces = false) (D : va_G) (cI cL cQ : ClassId) (h0 : Nat) (tl : Nat) (tr : Nat) (cu : Nat) (bk : Nat) (he : Nat) (ma : Nat) (hm : Int32) (kd : Int32) (cc0 : Int64) (p0 : Int32) (p1 : Int32) (p2 : Int32) (p3 : Int32) (p4 : Int32) (p5 : Int32) (p6 : Int32) (a : Nat) (n : Nat) (pl : Nat) (a2 : Nat) (n2 : Nat) (pl2 : Nat) (lk : Nat) (lv : Nat) (lo : Nat) (lp : Nat) (ll : Nat) (lf : Nat) (rk : Nat) (rv : Nat) (ro : Nat) (rp : Nat) (rl : Nat) (rf : Nat) (gk : Nat → Int32) (gv : Nat → Int32) (go : Nat → Int32) (hk : Nat → Int32) (hv : Nat → Int32) (ho_ : Nat → Int32) (ou : Nat) (fo : Nat → Int64) (sz : Nat) (ha : a ≤ 400) (hn : n ≤ a) (hol : jord a go) (ha2 : a2 ≤ 400) (hn2 : n2 ≤ a2) (hor : jord a2 ho_) : Met l yL_pair wsL_pair ({ frames := 3, cells := 0, slots := 0, locals := 65 }) (jh_P D vwCl (jT cI cL cQ) cL cQ [.ref h0, .int 1, .ref ou] [(h0, .inr (5, [.ref tl, .ref tr, .ref cu, .ref bk, .int 1])), (cu, .inr (0, [.ref tl, .ref tr, .ref he, .ref ma, .int hm, .int kd, .long cc0])), (he, .inr (2, [.int p0, .int p1, .int p2, .int p3, .int p4, .int p5, .int p6])), (tl, .inr (4, [.int (nI a), .ref lk, .ref lv, .ref lo, .ref lp, .ref ll, .ref lf, .int (nI n), .int (nI pl)])), (lk, .inl (cI, a, .inl gk)), (lv, .inl (cI, a, .inl gv)), (lo, .inl (cI, a, .inl go)), (tr, .inr (4, [.int (nI a2), .ref rk, .ref rv, .ref ro, .ref rp, .ref rl, .ref rf, .int (nI n2), .int (nI pl2)])), (rk, .inl (cI, a2, .inl hk)), (rv, .inl (cI, a2, .inl hv)), (ro, .inl (cI, a2, .inl ho_)), (ou, .inl (cL, 1, .inr (.inl fo)))] sz) (va_Qi (fun (r : Int32) (u : va_W) => ∃ (fo9 : Nat → Int64), r = 0 ∧ u = [(h0, .inr (5, [.ref tl, .ref tr, .ref cu, .ref bk, .int 1])), (cu, .inr (0, [.ref tl, .ref tr, .ref he, .ref ma, .int hm, .int kd, .long cc0])), (he, .inr (2, [.int p0, .int p1, .int p2, .int p3, .int p4, .int p5, .int p6])), (tl, .inr (4, [.int (nI a), .ref lk, .ref lv, .ref lo, .ref lp, .ref ll, .ref lf, .int (nI n), .int (nI pl)])), (lk, .inl (cI, a, .inl gk)), (lv, .inl (cI, a, .inl gv)), (lo, .inl (cI, a, .inl go)), (tr, .inr (4, [.int (nI a2), .ref rk, .ref rv, .ref ro, .ref rp, .ref rl, .ref rf, .int (nI n2), .int (nI pl2)])), (rk, .inl (cI, a2, .inl hk)), (rv, .inl (cI, a2, .inl hv)), (ro, .inl (cI, a2, .inl ho_)), (ou, .inl (cL, 1, .inr (.inl fo9)))]) (jw_B D vwCl (va_A [(h0, .inr (5, [.ref tl, .ref tr, .ref cu, .ref bk, .int 1])), (cu, .inr (0, [.ref tl, .ref tr, .ref he, .ref ma, .int hm, .int kd, .long cc0])), (he, .inr (2, [.int p0, .int p1, .int p2, .int p3, .int p4, .int p5, .int p6])), (tl, .inr (4, [.int (nI a), .ref lk, .ref lv, .ref lo, .ref lp, .ref ll, .ref lf, .int (nI n), .int (nI pl)])), (lk, .inl (cI, a, .inl gk)), (lv, .inl (cI, a, .inl gv)), (lo, .inl (cI, a, .inl go)), (tr, .inr (4, [.int (nI a2), .ref rk, .ref rv, .ref ro, .ref rp, .ref rl, .ref rf, .int (nI n2), .int (nI pl2)])), (rk, .inl (cI, a2, .inl hk)), (rv, .inl (cI, a2, .inl hv)), (ro, .inl (cI, a2, .inl ho_)), (ou, .inl (cL, 1, .inr (.inl fo)))] sz) (fun u : va_W => u)) (va_A [(h0, .inr (5, [.ref tl, .ref tr, .ref cu, .ref bk, .int 1])), (cu, .inr (0, [.ref tl, .ref tr, .ref he, .ref ma, .int hm, .int kd, .long cc0])), (he, .inr (2, [.int p0, .int p1, .int p2, .int p3, .int p4, .int p5, .int p6])), (tl, .inr (4, [.int (nI a), .ref lk, .ref lv, .ref lo, .ref lp, .ref ll, .ref lf, .int (nI n), .int (nI pl)])), (lk, .inl (cI, a, .inl gk)), (lv, .inl (cI, a, .inl gv)), (lo, .inl (cI, a, .inl go)), (tr, .inr (4, [.int (nI a2), .ref rk, .ref rv, .ref ro, .ref rp, .ref rl, .ref rf, .int (nI n2), .int (nI pl2)])), (rk, .inl (cI, a2, .inl hk)), (rv, .inl (cI, a2, .inl hv)), (ro, .inl (cI, a2, .inl ho_)), (ou, .inl (cL, 1, .inr (.inl fo)))] sz)) 0 0 (va_A [(h0, .inr (5, [.ref tl, .ref tr, .ref cu, .ref bk, .int 1])), (cu, .inr (0, [.ref tl, .ref tr, .ref he, .ref ma, .int hm, .int kd, .long cc0])), (he, .inr (2, [.int p0, .int p1, .int p2, .int p3, .int p4, .int p5, .int p6])), (tl, .inr (4, [.int (nI a), .ref lk, .ref lv, .ref lo, .ref lp, .ref ll, .ref lf, .int (nI n), .int (nI pl)])), (lk, .inl (cI, a, .inl gk)), (lv, .inl (cI, a, .inl gv)), (lo, .inl (cI, a, .inl go)), (tr, .inr (4, [.int (nI a2), .ref rk, .ref rv, .ref ro, .ref rp, .ref rl, .ref rf, .int (nI n2), .int (nI pl2)])), (rk, .inl (cI, a2, .inl hk)), (rv, .inl (cI, a2, .inl hv)), (ro, .inl (cI, a2, .inl ho_)), (ou, .inl (cL, 1, .inr (.inl fo)))] sz) := by
  refine va_MetW (hh := [(0, 9, 12, 19)]) (cc := cL_pair) (maxL := 4) (ret := (some .int)) (by decide) rfl ?_
  intro p e s m args below meth c s₁ B hml hv
  obtain ⟨rfl, hsz, hP, hK, hN, hD0, hZ⟩ := hv
  have hx := B.exec
  have hb := B.bytes
  have hr := B.returns
  have hts := atoms_spec (ws := wsL_pair) B.pre
  have hown : s.vm.findClass RL = some m.cls := findClass_of_methodNamed B.named
  have hlocks := B.notSynchronized
  subst hsz
  have hD := hD0.self (sz := s.heap.size)
  generalize hAe : va_A [(h0, .inr (5, [.ref tl, .ref tr, .ref cu, .ref bk, .int 1])), (cu, .inr (0, [.ref tl, .ref tr, .ref he, .ref ma, .int hm, .int kd, .long cc0])), (he, .inr (2, [.int p0, .int p1, .int p2, .int p3, .int p4, .int p5, .int p6])), (tl, .inr (4, [.int (nI a), .ref lk, .ref lv, .ref lo, .ref lp, .ref ll, .ref lf, .int (nI n), .int (nI pl)])), (lk, .inl (cI, a, .inl gk)), (lv, .inl (cI, a, .inl gv)), (lo, .inl (cI, a, .inl go)), (tr, .inr (4, [.int (nI a2), .ref rk, .ref rv, .ref ro, .ref rp, .ref rl, .ref rf, .int (nI n2), .int (nI pl2)])), (rk, .inl (cI, a2, .inl hk)), (rv, .inl (cI, a2, .inl hv)), (ro, .inl (cI, a2, .inl ho_)), (ou, .inl (cL, 1, .inr (.inl fo)))] s.heap.size = A at hD ⊢
  have hA : ∀ q : Nat, s.heap.size ≤ q → A q := fun q h => by rw [← hAe]; exact Or.inr h
  have hS : va_S A s.heap s.heap [] := va_S.rf
  have hl := lv_entry ([.ref h0, .int 1, .ref ou]) (n := 4) (Nat.le_of_ble_eq_true rfl)
  rw [lg_entry_eq]
  generalize (lg_sl ([.ref h0, .int 1, .ref ou]) ++ List.replicate (4 - (lg_sl ([.ref h0, .int 1, .ref ou])).length) Slot.unset).toArray = ls at hl ⊢
  have hl : lv_has ls 4 [(0, .ref h0), (1, .int 1), (2, .ref ou)] := hl
  refine lv_aload_n hx hb dL_pair_0 rfl (lv_at hl 2 rfl) ?_
  refine lv_iconst (v := 0) hx hb dL_pair_1 (by decide) ?_
  refine lv_aload_n hx hb dL_pair_2 rfl (lv_at hl 0 rfl) ?_
  refine lv_iload_n hx hb dL_pair_3 rfl (lv_at hl 1 rfl) ?_
  refine vp_callSi (va_Run.run (va_runV (As := [.int 1]) (rest := [.int 0, .ref ou]) ⟨hx, hb, hml, hown, hts⟩ (gJ_pair_11 l D cI cL cQ h0 tl tr cu bk he ma hm kd cc0 p0 p1 p2 p3 p4 p5 p6 a n pl a2 n2 pl2 lk lv lo lp ll lf rk rv ro rp rl rf gk gv go hk hv ho_ (by first | assumption | decide | omega) (by first | assumption | decide | omega) (by first | assumption | decide | omega) (by first | assumption | decide | omega) (by first | assumption | decide | omega) (by first | assumption | decide | omega)) (cwV 1 hts gL_pair_X5_pair rfl rfl rfl (by decide +kernel) ⟨Nat.le_of_ble_eq_true rfl, Nat.le_of_ble_eq_true rfl⟩) (jr_V hK hN hP [0, 1, 2, 3, 4, 5, 6, 7, 8, 9, 10] rfl 5 0 rfl rfl rfl) rfl rfl hl.1 rfl (lv_room (Nat.le_of_ble_eq_true rfl)) dL_pair_4 ⟨Nat.le_of_ble_eq_true rfl, Nat.le_of_ble_eq_true rfl⟩)) (fun r f_1 => ?_)
  obtain ⟨z9, er_2⟩ := f_1
  subst r
  refine lv_i2l (v := z9.toInt64) hx hb dL_pair_7 (by first | rfl | decide) ?_
  refine va_last hx hb hK hP hD hS 11 1 rfl rfl (by unfold vp_in; decide) dL_pair_8 (fun H locs hP hD hS => ?_)
  have hP : va_P D vwCl [(h0, .inr (5, [.ref tl, .ref tr, .ref cu, .ref bk, .int 1])), (cu, .inr (0, [.ref tl, .ref tr, .ref he, .ref ma, .int hm, .int kd, .long cc0])), (he, .inr (2, [.int p0, .int p1, .int p2, .int p3, .int p4, .int p5, .int p6])), (tl, .inr (4, [.int (nI a), .ref lk, .ref lv, .ref lo, .ref lp, .ref ll, .ref lf, .int (nI n), .int (nI pl)])), (lk, .inl (cI, a, .inl gk)), (lv, .inl (cI, a, .inl gv)), (lo, .inl (cI, a, .inl go)), (tr, .inr (4, [.int (nI a2), .ref rk, .ref rv, .ref ro, .ref rp, .ref rl, .ref rf, .int (nI n2), .int (nI pl2)])), (rk, .inl (cI, a2, .inl hk)), (rv, .inl (cI, a2, .inl hv)), (ro, .inl (cI, a2, .inl ho_)), (ou, .inl (cL, 1, .inr (.inl (vp_updL fo (0 : Int32).toNatClampNeg z9.toInt64))))] H := hP
  have hD : va_D A [(h0, .inr (5, [.ref tl, .ref tr, .ref cu, .ref bk, .int 1])), (cu, .inr (0, [.ref tl, .ref tr, .ref he, .ref ma, .int hm, .int kd, .long cc0])), (he, .inr (2, [.int p0, .int p1, .int p2, .int p3, .int p4, .int p5, .int p6])), (tl, .inr (4, [.int (nI a), .ref lk, .ref lv, .ref lo, .ref lp, .ref ll, .ref lf, .int (nI n), .int (nI pl)])), (lk, .inl (cI, a, .inl gk)), (lv, .inl (cI, a, .inl gv)), (lo, .inl (cI, a, .inl go)), (tr, .inr (4, [.int (nI a2), .ref rk, .ref rv, .ref ro, .ref rp, .ref rl, .ref rf, .int (nI n2), .int (nI pl2)])), (rk, .inl (cI, a2, .inl hk)), (rv, .inl (cI, a2, .inl hv)), (ro, .inl (cI, a2, .inl ho_)), (ou, .inl (cL, 1, .inr (.inl (vp_updL fo (0 : Int32).toNatClampNeg z9.toInt64))))] := hD
  refine lv_goto (tgt := 15) hx hb dL_pair_9 (by decide) ?_
  refine lv_iconst (v := 0) hx hb dL_pair_15 (by decide) ?_
  refine W.widen (k := 0) (n := 0) (by omega) (by omega) ?_
  exact W.iret (v := 0) hx hb hr (fun t ht hW => ⟨⟨0, [(h0, .inr (5, [.ref tl, .ref tr, .ref cu, .ref bk, .int 1])), (cu, .inr (0, [.ref tl, .ref tr, .ref he, .ref ma, .int hm, .int kd, .long cc0])), (he, .inr (2, [.int p0, .int p1, .int p2, .int p3, .int p4, .int p5, .int p6])), (tl, .inr (4, [.int (nI a), .ref lk, .ref lv, .ref lo, .ref lp, .ref ll, .ref lf, .int (nI n), .int (nI pl)])), (lk, .inl (cI, a, .inl gk)), (lv, .inl (cI, a, .inl gv)), (lo, .inl (cI, a, .inl go)), (tr, .inr (4, [.int (nI a2), .ref rk, .ref rv, .ref ro, .ref rp, .ref rl, .ref rf, .int (nI n2), .int (nI pl2)])), (rk, .inl (cI, a2, .inl hk)), (rv, .inl (cI, a2, .inl hv)), (ro, .inl (cI, a2, .inl ho_)), (ou, .inl (cL, 1, .inr (.inl (vp_updL fo (0 : Int32).toNatClampNeg z9.toInt64))))], rfl, (⟨_, rfl, rfl⟩), by rw [ht]; exact hP, hD⟩, hS.F ht⟩) hS.2.2 dL_pair_16
set_option maxHeartbeats 1000000 in
set_option maxRecDepth 100000 in
theorem kL_pair_12 (l : Launch) (hnt : l.stackTraces = false) (D : va_G) (cI cL cQ : ClassId) (h0 : Nat) (tl : Nat) (tr : Nat) (cu : Nat) (bk : Nat) (he : Nat) (ma : Nat) (hm : Int32) (kd : Int32) (cc0 : Int64) (p0 : Int32) (p1 : Int32) (p2 : Int32) (p3 : Int32) (p4 : Int32) (p5 : Int32) (p6 : Int32) (a : Nat) (n : Nat) (pl : Nat) (a2 : Nat) (n2 : Nat) (pl2 : Nat) (lk : Nat) (lv : Nat) (lo : Nat) (lp : Nat) (ll : Nat) (lf : Nat) (rk : Nat) (rv : Nat) (ro : Nat) (rp : Nat) (rl : Nat) (rf : Nat) (gk : Nat → Int32) (gv : Nat → Int32) (go : Nat → Int32) (hk : Nat → Int32) (hv : Nat → Int32) (ho_ : Nat → Int32) (ou : Nat) (fo : Nat → Int64) (sz : Nat) (ha : a ≤ 400) (hn : n ≤ a) (hol : jord a go) (ha2 : a2 ≤ 400) (hn2 : n2 ≤ a2) (hor : jord a2 ho_) : Met l yL_pair wsL_pair ({ frames := 3, cells := 0, slots := 0, locals := 65 }) (jh_P D vwCl (jT cI cL cQ) cL cQ [.ref h0, .int 2, .ref ou] [(h0, .inr (5, [.ref tl, .ref tr, .ref cu, .ref bk, .int 1])), (cu, .inr (0, [.ref tl, .ref tr, .ref he, .ref ma, .int hm, .int kd, .long cc0])), (he, .inr (2, [.int p0, .int p1, .int p2, .int p3, .int p4, .int p5, .int p6])), (tl, .inr (4, [.int (nI a), .ref lk, .ref lv, .ref lo, .ref lp, .ref ll, .ref lf, .int (nI n), .int (nI pl)])), (lk, .inl (cI, a, .inl gk)), (lv, .inl (cI, a, .inl gv)), (lo, .inl (cI, a, .inl go)), (tr, .inr (4, [.int (nI a2), .ref rk, .ref rv, .ref ro, .ref rp, .ref rl, .ref rf, .int (nI n2), .int (nI pl2)])), (rk, .inl (cI, a2, .inl hk)), (rv, .inl (cI, a2, .inl hv)), (ro, .inl (cI, a2, .inl ho_)), (ou, .inl (cL, 1, .inr (.inl fo)))] sz) (va_Qi (fun (r : Int32) (u : va_W) => ∃ (fo9 : Nat → Int64), r = 0 ∧ u = [(h0, .inr (5, [.ref tl, .ref tr, .ref cu, .ref bk, .int 1])), (cu, .inr (0, [.ref tl, .ref tr, .ref he, .ref ma, .int hm, .int kd, .long cc0])), (he, .inr (2, [.int p0, .int p1, .int p2, .int p3, .int p4, .int p5, .int p6])), (tl, .inr (4, [.int (nI a), .ref lk, .ref lv, .ref lo, .ref lp, .ref ll, .ref lf, .int (nI n), .int (nI pl)])), (lk, .inl (cI, a, .inl gk)), (lv, .inl (cI, a, .inl gv)), (lo, .inl (cI, a, .inl go)), (tr, .inr (4, [.int (nI a2), .ref rk, .ref rv, .ref ro, .ref rp, .ref rl, .ref rf, .int (nI n2), .int (nI pl2)])), (rk, .inl (cI, a2, .inl hk)), (rv, .inl (cI, a2, .inl hv)), (ro, .inl (cI, a2, .inl ho_)), (ou, .inl (cL, 1, .inr (.inl fo9)))]) (jw_B D vwCl (va_A [(h0, .inr (5, [.ref tl, .ref tr, .ref cu, .ref bk, .int 1])), (cu, .inr (0, [.ref tl, .ref tr, .ref he, .ref ma, .int hm, .int kd, .long cc0])), (he, .inr (2, [.int p0, .int p1, .int p2, .int p3, .int p4, .int p5, .int p6])), (tl, .inr (4, [.int (nI a), .ref lk, .ref lv, .ref lo, .ref lp, .ref ll, .ref lf, .int (nI n), .int (nI pl)])), (lk, .inl (cI, a, .inl gk)), (lv, .inl (cI, a, .inl gv)), (lo, .inl (cI, a, .inl go)), (tr, .inr (4, [.int (nI a2), .ref rk, .ref rv, .ref ro, .ref rp, .ref rl, .ref rf, .int (nI n2), .int (nI pl2)])), (rk, .inl (cI, a2, .inl hk)), (rv, .inl (cI, a2, .inl hv)), (ro, .inl (cI, a2, .inl ho_)), (ou, .inl (cL, 1, .inr (.inl fo)))] sz) (fun u : va_W => u)) (va_A [(h0, .inr (5, [.ref tl, .ref tr, .ref cu, .ref bk, .int 1])), (cu, .inr (0, [.ref tl, .ref tr, .ref he, .ref ma, .int hm, .int kd, .long cc0])), (he, .inr (2, [.int p0, .int p1, .int p2, .int p3, .int p4, .int p5, .int p6])), (tl, .inr (4, [.int (nI a), .ref lk, .ref lv, .ref lo, .ref lp, .ref ll, .ref lf, .int (nI n), .int (nI pl)])), (lk, .inl (cI, a, .inl gk)), (lv, .inl (cI, a, .inl gv)), (lo, .inl (cI, a, .inl go)), (tr, .inr (4, [.int (nI a2), .ref rk, .ref rv, .ref ro, .ref rp, .ref rl, .ref rf, .int (nI n2), .int (nI pl2)])), (rk, .inl (cI, a2, .inl hk)), (rv, .inl (cI, a2, .inl hv)), (ro, .inl (cI, a2, .inl ho_)), (ou, .inl (cL, 1, .inr (.inl fo)))] sz)) 0 0 (va_A [(h0, .inr (5, [.ref tl, .ref tr, .ref cu, .ref bk, .int 1])), (cu, .inr (0, [.ref tl, .ref tr, .ref he, .ref ma, .int hm, .int kd, .long cc0])), (he, .inr (2, [.int p0, .int p1, .int p2, .int p3, .int p4, .int p5, .int p6])), (tl, .inr (4, [.int (nI a), .ref lk, .ref lv, .ref lo, .ref lp, .ref ll, .ref lf, .int (nI n), .int (nI pl)])), (lk, .inl (cI, a, .inl gk)), (lv, .inl (cI, a, .inl gv)), (lo, .inl (cI, a, .inl go)), (tr, .inr (4, [.int (nI a2), .ref rk, .ref rv, .ref ro, .ref rp, .ref rl, .ref rf, .int (nI n2), .int (nI pl2)])), (rk, .inl (cI, a2, .inl hk)), (rv, .inl (cI, a2, .inl hv)), (ro, .inl (cI, a2, .inl ho_)), (ou, .inl (cL, 1, .inr (.inl fo)))] sz) := by
  refine va_MetW (hh := [(0, 9, 12, 19)]) (cc := cL_pair) (maxL := 4) (ret := (some .int)) (by decide) rfl ?_
  intro p e s m args below meth c s₁ B hml hv
  obtain ⟨rfl, hsz, hP, hK, hN, hD0, hZ⟩ := hv
  have hx := B.exec
  have hb := B.bytes
  have hr := B.returns
  have hts := atoms_spec (ws := wsL_pair) B.pre
  have hown : s.vm.findClass RL = some m.cls := findClass_of_methodNamed B.named
  have hlocks := B.notSynchronized
  subst hsz
  have hD := hD0.self (sz := s.heap.size)
  generalize hAe : va_A [(h0, .inr (5, [.ref tl, .ref tr, .ref cu, .ref bk, .int 1])), (cu, .inr (0, [.ref tl, .ref tr, .ref he, .ref ma, .int hm, .int kd, .long cc0])), (he, .inr (2, [.int p0, .int p1, .int p2, .int p3, .int p4, .int p5, .int p6])), (tl, .inr (4, [.int (nI a), .ref lk, .ref lv, .ref lo, .ref lp, .ref ll, .ref lf, .int (nI n), .int (nI pl)])), (lk, .inl (cI, a, .inl gk)), (lv, .inl (cI, a, .inl gv)), (lo, .inl (cI, a, .inl go)), (tr, .inr (4, [.int (nI a2), .ref rk, .ref rv, .ref ro, .ref rp, .ref rl, .ref rf, .int (nI n2), .int (nI pl2)])), (rk, .inl (cI, a2, .inl hk)), (rv, .inl (cI, a2, .inl hv)), (ro, .inl (cI, a2, .inl ho_)), (ou, .inl (cL, 1, .inr (.inl fo)))] s.heap.size = A at hD ⊢
  have hA : ∀ q : Nat, s.heap.size ≤ q → A q := fun q h => by rw [← hAe]; exact Or.inr h
  have hS : va_S A s.heap s.heap [] := va_S.rf
  have hl := lv_entry ([.ref h0, .int 2, .ref ou]) (n := 4) (Nat.le_of_ble_eq_true rfl)
  rw [lg_entry_eq]
  generalize (lg_sl ([.ref h0, .int 2, .ref ou]) ++ List.replicate (4 - (lg_sl ([.ref h0, .int 2, .ref ou])).length) Slot.unset).toArray = ls at hl ⊢
  have hl : lv_has ls 4 [(0, .ref h0), (1, .int 2), (2, .ref ou)] := hl
  refine lv_aload_n hx hb dL_pair_0 rfl (lv_at hl 2 rfl) ?_
  refine lv_iconst (v := 0) hx hb dL_pair_1 (by decide) ?_
  refine lv_aload_n hx hb dL_pair_2 rfl (lv_at hl 0 rfl) ?_
  refine lv_iload_n hx hb dL_pair_3 rfl (lv_at hl 1 rfl) ?_
  refine vp_callSi (va_Run.run (va_runV (As := [.int 2]) (rest := [.int 0, .ref ou]) ⟨hx, hb, hml, hown, hts⟩ (gJ_pair_12 l D cI cL cQ h0 tl tr cu bk he ma hm kd cc0 p0 p1 p2 p3 p4 p5 p6 a n pl a2 n2 pl2 lk lv lo lp ll lf rk rv ro rp rl rf gk gv go hk hv ho_ (by first | assumption | decide | omega) (by first | assumption | decide | omega) (by first | assumption | decide | omega) (by first | assumption | decide | omega) (by first | assumption | decide | omega) (by first | assumption | decide | omega)) (cwV 1 hts gL_pair_X5_pair rfl rfl rfl (by decide +kernel) ⟨Nat.le_of_ble_eq_true rfl, Nat.le_of_ble_eq_true rfl⟩) (jr_V hK hN hP [0, 1, 2, 3, 4, 5, 6, 7, 8, 9, 10] rfl 5 0 rfl rfl rfl) rfl rfl hl.1 rfl (lv_room (Nat.le_of_ble_eq_true rfl)) dL_pair_4 ⟨Nat.le_of_ble_eq_true rfl, Nat.le_of_ble_eq_true rfl⟩)) (fun r f_1 => ?_)
  obtain ⟨z9, er_2⟩ := f_1
  subst r
  refine lv_i2l (v := z9.toInt64) hx hb dL_pair_7 (by first | rfl | decide) ?_
  refine va_last hx hb hK hP hD hS 11 1 rfl rfl (by unfold vp_in; decide) dL_pair_8 (fun H locs hP hD hS => ?_)
  have hP : va_P D vwCl [(h0, .inr (5, [.ref tl, .ref tr, .ref cu, .ref bk, .int 1])), (cu, .inr (0, [.ref tl, .ref tr, .ref he, .ref ma, .int hm, .int kd, .long cc0])), (he, .inr (2, [.int p0, .int p1, .int p2, .int p3, .int p4, .int p5, .int p6])), (tl, .inr (4, [.int (nI a), .ref lk, .ref lv, .ref lo, .ref lp, .ref ll, .ref lf, .int (nI n), .int (nI pl)])), (lk, .inl (cI, a, .inl gk)), (lv, .inl (cI, a, .inl gv)), (lo, .inl (cI, a, .inl go)), (tr, .inr (4, [.int (nI a2), .ref rk, .ref rv, .ref ro, .ref rp, .ref rl, .ref rf, .int (nI n2), .int (nI pl2)])), (rk, .inl (cI, a2, .inl hk)), (rv, .inl (cI, a2, .inl hv)), (ro, .inl (cI, a2, .inl ho_)), (ou, .inl (cL, 1, .inr (.inl (vp_updL fo (0 : Int32).toNatClampNeg z9.toInt64))))] H := hP
  have hD : va_D A [(h0, .inr (5, [.ref tl, .ref tr, .ref cu, .ref bk, .int 1])), (cu, .inr (0, [.ref tl, .ref tr, .ref he, .ref ma, .int hm, .int kd, .long cc0])), (he, .inr (2, [.int p0, .int p1, .int p2, .int p3, .int p4, .int p5, .int p6])), (tl, .inr (4, [.int (nI a), .ref lk, .ref lv, .ref lo, .ref lp, .ref ll, .ref lf, .int (nI n), .int (nI pl)])), (lk, .inl (cI, a, .inl gk)), (lv, .inl (cI, a, .inl gv)), (lo, .inl (cI, a, .inl go)), (tr, .inr (4, [.int (nI a2), .ref rk, .ref rv, .ref ro, .ref rp, .ref rl, .ref rf, .int (nI n2), .int (nI pl2)])), (rk, .inl (cI, a2, .inl hk)), (rv, .inl (cI, a2, .inl hv)), (ro, .inl (cI, a2, .inl ho_)), (ou, .inl (cL, 1, .inr (.inl (vp_updL fo (0 : Int32).toNatClampNeg z9.toInt64))))] := hD
  refine lv_goto (tgt := 15) hx hb dL_pair_9 (by decide) ?_
  refine lv_iconst (v := 0) hx hb dL_pair_15 (by decide) ?_
  refine W.widen (k := 0) (n := 0) (by omega) (by omega) ?_
  exact W.iret (v := 0) hx hb hr (fun t ht hW => ⟨⟨0, [(h0, .inr (5, [.ref tl, .ref tr, .ref cu, .ref bk, .int 1])), (cu, .inr (0, [.ref tl, .ref tr, .ref he, .ref ma, .int hm, .int kd, .long cc0])), (he, .inr (2, [.int p0, .int p1, .int p2, .int p3, .int p4, .int p5, .int p6])), (tl, .inr (4, [.int (nI a), .ref lk, .ref lv, .ref lo, .ref lp, .ref ll, .ref lf, .int (nI n), .int (nI pl)])), (lk, .inl (cI, a, .inl gk)), (lv, .inl (cI, a, .inl gv)), (lo, .inl (cI, a, .inl go)), (tr, .inr (4, [.int (nI a2), .ref rk, .ref rv, .ref ro, .ref rp, .ref rl, .ref rf, .int (nI n2), .int (nI pl2)])), (rk, .inl (cI, a2, .inl hk)), (rv, .inl (cI, a2, .inl hv)), (ro, .inl (cI, a2, .inl ho_)), (ou, .inl (cL, 1, .inr (.inl (vp_updL fo (0 : Int32).toNatClampNeg z9.toInt64))))], rfl, (⟨_, rfl, rfl⟩), by rw [ht]; exact hP, hD⟩, hS.F ht⟩) hS.2.2 dL_pair_16
set_option maxHeartbeats 1000000 in
set_option maxRecDepth 100000 in
theorem kL_pair_13 (l : Launch) (hnt : l.stackTraces = false) (D : va_G) (cI cL cQ : ClassId) (h0 : Nat) (tl : Nat) (tr : Nat) (cu : Nat) (bk : Nat) (he : Nat) (ma : Nat) (hm : Int32) (kd : Int32) (cc0 : Int64) (p0 : Int32) (p1 : Int32) (p2 : Int32) (p3 : Int32) (p4 : Int32) (p5 : Int32) (p6 : Int32) (a : Nat) (n : Nat) (pl : Nat) (a2 : Nat) (n2 : Nat) (pl2 : Nat) (lk : Nat) (lv : Nat) (lo : Nat) (lp : Nat) (ll : Nat) (lf : Nat) (rk : Nat) (rv : Nat) (ro : Nat) (rp : Nat) (rl : Nat) (rf : Nat) (gk : Nat → Int32) (gv : Nat → Int32) (go : Nat → Int32) (hk : Nat → Int32) (hv : Nat → Int32) (ho_ : Nat → Int32) (ou : Nat) (fo : Nat → Int64) (sz : Nat) (ha : a ≤ 400) (hn : n ≤ a) (hol : jord a go) (ha2 : a2 ≤ 400) (hn2 : n2 ≤ a2) (hor : jord a2 ho_) : Met l yL_pair wsL_pair ({ frames := 3, cells := 0, slots := 0, locals := 65 }) (jh_P D vwCl (jT cI cL cQ) cL cQ [.ref h0, .int 3, .ref ou] [(h0, .inr (5, [.ref tl, .ref tr, .ref cu, .ref bk, .int 1])), (cu, .inr (0, [.ref tl, .ref tr, .ref he, .ref ma, .int hm, .int kd, .long cc0])), (he, .inr (2, [.int p0, .int p1, .int p2, .int p3, .int p4, .int p5, .int p6])), (tl, .inr (4, [.int (nI a), .ref lk, .ref lv, .ref lo, .ref lp, .ref ll, .ref lf, .int (nI n), .int (nI pl)])), (lk, .inl (cI, a, .inl gk)), (lv, .inl (cI, a, .inl gv)), (lo, .inl (cI, a, .inl go)), (tr, .inr (4, [.int (nI a2), .ref rk, .ref rv, .ref ro, .ref rp, .ref rl, .ref rf, .int (nI n2), .int (nI pl2)])), (rk, .inl (cI, a2, .inl hk)), (rv, .inl (cI, a2, .inl hv)), (ro, .inl (cI, a2, .inl ho_)), (ou, .inl (cL, 1, .inr (.inl fo)))] sz) (va_Qi (fun (r : Int32) (u : va_W) => ∃ (fo9 : Nat → Int64), r = 0 ∧ u = [(h0, .inr (5, [.ref tl, .ref tr, .ref cu, .ref bk, .int 1])), (cu, .inr (0, [.ref tl, .ref tr, .ref he, .ref ma, .int hm, .int kd, .long cc0])), (he, .inr (2, [.int p0, .int p1, .int p2, .int p3, .int p4, .int p5, .int p6])), (tl, .inr (4, [.int (nI a), .ref lk, .ref lv, .ref lo, .ref lp, .ref ll, .ref lf, .int (nI n), .int (nI pl)])), (lk, .inl (cI, a, .inl gk)), (lv, .inl (cI, a, .inl gv)), (lo, .inl (cI, a, .inl go)), (tr, .inr (4, [.int (nI a2), .ref rk, .ref rv, .ref ro, .ref rp, .ref rl, .ref rf, .int (nI n2), .int (nI pl2)])), (rk, .inl (cI, a2, .inl hk)), (rv, .inl (cI, a2, .inl hv)), (ro, .inl (cI, a2, .inl ho_)), (ou, .inl (cL, 1, .inr (.inl fo9)))]) (jw_B D vwCl (va_A [(h0, .inr (5, [.ref tl, .ref tr, .ref cu, .ref bk, .int 1])), (cu, .inr (0, [.ref tl, .ref tr, .ref he, .ref ma, .int hm, .int kd, .long cc0])), (he, .inr (2, [.int p0, .int p1, .int p2, .int p3, .int p4, .int p5, .int p6])), (tl, .inr (4, [.int (nI a), .ref lk, .ref lv, .ref lo, .ref lp, .ref ll, .ref lf, .int (nI n), .int (nI pl)])), (lk, .inl (cI, a, .inl gk)), (lv, .inl (cI, a, .inl gv)), (lo, .inl (cI, a, .inl go)), (tr, .inr (4, [.int (nI a2), .ref rk, .ref rv, .ref ro, .ref rp, .ref rl, .ref rf, .int (nI n2), .int (nI pl2)])), (rk, .inl (cI, a2, .inl hk)), (rv, .inl (cI, a2, .inl hv)), (ro, .inl (cI, a2, .inl ho_)), (ou, .inl (cL, 1, .inr (.inl fo)))] sz) (fun u : va_W => u)) (va_A [(h0, .inr (5, [.ref tl, .ref tr, .ref cu, .ref bk, .int 1])), (cu, .inr (0, [.ref tl, .ref tr, .ref he, .ref ma, .int hm, .int kd, .long cc0])), (he, .inr (2, [.int p0, .int p1, .int p2, .int p3, .int p4, .int p5, .int p6])), (tl, .inr (4, [.int (nI a), .ref lk, .ref lv, .ref lo, .ref lp, .ref ll, .ref lf, .int (nI n), .int (nI pl)])), (lk, .inl (cI, a, .inl gk)), (lv, .inl (cI, a, .inl gv)), (lo, .inl (cI, a, .inl go)), (tr, .inr (4, [.int (nI a2), .ref rk, .ref rv, .ref ro, .ref rp, .ref rl, .ref rf, .int (nI n2), .int (nI pl2)])), (rk, .inl (cI, a2, .inl hk)), (rv, .inl (cI, a2, .inl hv)), (ro, .inl (cI, a2, .inl ho_)), (ou, .inl (cL, 1, .inr (.inl fo)))] sz)) 0 0 (va_A [(h0, .inr (5, [.ref tl, .ref tr, .ref cu, .ref bk, .int 1])), (cu, .inr (0, [.ref tl, .ref tr, .ref he, .ref ma, .int hm, .int kd, .long cc0])), (he, .inr (2, [.int p0, .int p1, .int p2, .int p3, .int p4, .int p5, .int p6])), (tl, .inr (4, [.int (nI a), .ref lk, .ref lv, .ref lo, .ref lp, .ref ll, .ref lf, .int (nI n), .int (nI pl)])), (lk, .inl (cI, a, .inl gk)), (lv, .inl (cI, a, .inl gv)), (lo, .inl (cI, a, .inl go)), (tr, .inr (4, [.int (nI a2), .ref rk, .ref rv, .ref ro, .ref rp, .ref rl, .ref rf, .int (nI n2), .int (nI pl2)])), (rk, .inl (cI, a2, .inl hk)), (rv, .inl (cI, a2, .inl hv)), (ro, .inl (cI, a2, .inl ho_)), (ou, .inl (cL, 1, .inr (.inl fo)))] sz) := by
  refine va_MetW (hh := [(0, 9, 12, 19)]) (cc := cL_pair) (maxL := 4) (ret := (some .int)) (by decide) rfl ?_
  intro p e s m args below meth c s₁ B hml hv
  obtain ⟨rfl, hsz, hP, hK, hN, hD0, hZ⟩ := hv
  have hx := B.exec
  have hb := B.bytes
  have hr := B.returns
  have hts := atoms_spec (ws := wsL_pair) B.pre
  have hown : s.vm.findClass RL = some m.cls := findClass_of_methodNamed B.named
  have hlocks := B.notSynchronized
  subst hsz
  have hD := hD0.self (sz := s.heap.size)
  generalize hAe : va_A [(h0, .inr (5, [.ref tl, .ref tr, .ref cu, .ref bk, .int 1])), (cu, .inr (0, [.ref tl, .ref tr, .ref he, .ref ma, .int hm, .int kd, .long cc0])), (he, .inr (2, [.int p0, .int p1, .int p2, .int p3, .int p4, .int p5, .int p6])), (tl, .inr (4, [.int (nI a), .ref lk, .ref lv, .ref lo, .ref lp, .ref ll, .ref lf, .int (nI n), .int (nI pl)])), (lk, .inl (cI, a, .inl gk)), (lv, .inl (cI, a, .inl gv)), (lo, .inl (cI, a, .inl go)), (tr, .inr (4, [.int (nI a2), .ref rk, .ref rv, .ref ro, .ref rp, .ref rl, .ref rf, .int (nI n2), .int (nI pl2)])), (rk, .inl (cI, a2, .inl hk)), (rv, .inl (cI, a2, .inl hv)), (ro, .inl (cI, a2, .inl ho_)), (ou, .inl (cL, 1, .inr (.inl fo)))] s.heap.size = A at hD ⊢
  have hA : ∀ q : Nat, s.heap.size ≤ q → A q := fun q h => by rw [← hAe]; exact Or.inr h
  have hS : va_S A s.heap s.heap [] := va_S.rf
  have hl := lv_entry ([.ref h0, .int 3, .ref ou]) (n := 4) (Nat.le_of_ble_eq_true rfl)
  rw [lg_entry_eq]
  generalize (lg_sl ([.ref h0, .int 3, .ref ou]) ++ List.replicate (4 - (lg_sl ([.ref h0, .int 3, .ref ou])).length) Slot.unset).toArray = ls at hl ⊢
  have hl : lv_has ls 4 [(0, .ref h0), (1, .int 3), (2, .ref ou)] := hl
  refine lv_aload_n hx hb dL_pair_0 rfl (lv_at hl 2 rfl) ?_
  refine lv_iconst (v := 0) hx hb dL_pair_1 (by decide) ?_
  refine lv_aload_n hx hb dL_pair_2 rfl (lv_at hl 0 rfl) ?_
  refine lv_iload_n hx hb dL_pair_3 rfl (lv_at hl 1 rfl) ?_
  refine vp_callSi (va_Run.run (va_runV (As := [.int 3]) (rest := [.int 0, .ref ou]) ⟨hx, hb, hml, hown, hts⟩ (gJ_pair_13 l D cI cL cQ h0 tl tr cu bk he ma hm kd cc0 p0 p1 p2 p3 p4 p5 p6 a n pl a2 n2 pl2 lk lv lo lp ll lf rk rv ro rp rl rf gk gv go hk hv ho_ (by first | assumption | decide | omega) (by first | assumption | decide | omega) (by first | assumption | decide | omega) (by first | assumption | decide | omega) (by first | assumption | decide | omega) (by first | assumption | decide | omega)) (cwV 1 hts gL_pair_X5_pair rfl rfl rfl (by decide +kernel) ⟨Nat.le_of_ble_eq_true rfl, Nat.le_of_ble_eq_true rfl⟩) (jr_V hK hN hP [0, 1, 2, 3, 4, 5, 6, 7, 8, 9, 10] rfl 5 0 rfl rfl rfl) rfl rfl hl.1 rfl (lv_room (Nat.le_of_ble_eq_true rfl)) dL_pair_4 ⟨Nat.le_of_ble_eq_true rfl, Nat.le_of_ble_eq_true rfl⟩)) (fun r f_1 => ?_)
  obtain ⟨z9, er_2⟩ := f_1
  subst r
  refine lv_i2l (v := z9.toInt64) hx hb dL_pair_7 (by first | rfl | decide) ?_
  refine va_last hx hb hK hP hD hS 11 1 rfl rfl (by unfold vp_in; decide) dL_pair_8 (fun H locs hP hD hS => ?_)
  have hP : va_P D vwCl [(h0, .inr (5, [.ref tl, .ref tr, .ref cu, .ref bk, .int 1])), (cu, .inr (0, [.ref tl, .ref tr, .ref he, .ref ma, .int hm, .int kd, .long cc0])), (he, .inr (2, [.int p0, .int p1, .int p2, .int p3, .int p4, .int p5, .int p6])), (tl, .inr (4, [.int (nI a), .ref lk, .ref lv, .ref lo, .ref lp, .ref ll, .ref lf, .int (nI n), .int (nI pl)])), (lk, .inl (cI, a, .inl gk)), (lv, .inl (cI, a, .inl gv)), (lo, .inl (cI, a, .inl go)), (tr, .inr (4, [.int (nI a2), .ref rk, .ref rv, .ref ro, .ref rp, .ref rl, .ref rf, .int (nI n2), .int (nI pl2)])), (rk, .inl (cI, a2, .inl hk)), (rv, .inl (cI, a2, .inl hv)), (ro, .inl (cI, a2, .inl ho_)), (ou, .inl (cL, 1, .inr (.inl (vp_updL fo (0 : Int32).toNatClampNeg z9.toInt64))))] H := hP
  have hD : va_D A [(h0, .inr (5, [.ref tl, .ref tr, .ref cu, .ref bk, .int 1])), (cu, .inr (0, [.ref tl, .ref tr, .ref he, .ref ma, .int hm, .int kd, .long cc0])), (he, .inr (2, [.int p0, .int p1, .int p2, .int p3, .int p4, .int p5, .int p6])), (tl, .inr (4, [.int (nI a), .ref lk, .ref lv, .ref lo, .ref lp, .ref ll, .ref lf, .int (nI n), .int (nI pl)])), (lk, .inl (cI, a, .inl gk)), (lv, .inl (cI, a, .inl gv)), (lo, .inl (cI, a, .inl go)), (tr, .inr (4, [.int (nI a2), .ref rk, .ref rv, .ref ro, .ref rp, .ref rl, .ref rf, .int (nI n2), .int (nI pl2)])), (rk, .inl (cI, a2, .inl hk)), (rv, .inl (cI, a2, .inl hv)), (ro, .inl (cI, a2, .inl ho_)), (ou, .inl (cL, 1, .inr (.inl (vp_updL fo (0 : Int32).toNatClampNeg z9.toInt64))))] := hD
  refine lv_goto (tgt := 15) hx hb dL_pair_9 (by decide) ?_
  refine lv_iconst (v := 0) hx hb dL_pair_15 (by decide) ?_
  refine W.widen (k := 0) (n := 0) (by omega) (by omega) ?_
  exact W.iret (v := 0) hx hb hr (fun t ht hW => ⟨⟨0, [(h0, .inr (5, [.ref tl, .ref tr, .ref cu, .ref bk, .int 1])), (cu, .inr (0, [.ref tl, .ref tr, .ref he, .ref ma, .int hm, .int kd, .long cc0])), (he, .inr (2, [.int p0, .int p1, .int p2, .int p3, .int p4, .int p5, .int p6])), (tl, .inr (4, [.int (nI a), .ref lk, .ref lv, .ref lo, .ref lp, .ref ll, .ref lf, .int (nI n), .int (nI pl)])), (lk, .inl (cI, a, .inl gk)), (lv, .inl (cI, a, .inl gv)), (lo, .inl (cI, a, .inl go)), (tr, .inr (4, [.int (nI a2), .ref rk, .ref rv, .ref ro, .ref rp, .ref rl, .ref rf, .int (nI n2), .int (nI pl2)])), (rk, .inl (cI, a2, .inl hk)), (rv, .inl (cI, a2, .inl hv)), (ro, .inl (cI, a2, .inl ho_)), (ou, .inl (cL, 1, .inr (.inl (vp_updL fo (0 : Int32).toNatClampNeg z9.toInt64))))], rfl, (⟨_, rfl, rfl⟩), by rw [ht]; exact hP, hD⟩, hS.F ht⟩) hS.2.2 dL_pair_16
set_option maxHeartbeats 1000000 in
set_option maxRecDepth 100000 in
theorem kL_pair_14 (l : Launch) (hnt : l.stackTraces = false) (D : va_G) (cI cL cQ : ClassId) (h0 : Nat) (tl : Nat) (tr : Nat) (cu : Nat) (bk : Nat) (he : Nat) (ma : Nat) (hm : Int32) (kd : Int32) (cc0 : Int64) (p0 : Int32) (p1 : Int32) (p2 : Int32) (p3 : Int32) (p4 : Int32) (p5 : Int32) (p6 : Int32) (a : Nat) (n : Nat) (pl : Nat) (a2 : Nat) (n2 : Nat) (pl2 : Nat) (lk : Nat) (lv : Nat) (lo : Nat) (lp : Nat) (ll : Nat) (lf : Nat) (rk : Nat) (rv : Nat) (ro : Nat) (rp : Nat) (rl : Nat) (rf : Nat) (gk : Nat → Int32) (gv : Nat → Int32) (go : Nat → Int32) (hk : Nat → Int32) (hv : Nat → Int32) (ho_ : Nat → Int32) (ou : Nat) (fo : Nat → Int64) (sz : Nat) (ha : a ≤ 400) (hn : n ≤ a) (hol : jord a go) (ha2 : a2 ≤ 400) (hn2 : n2 ≤ a2) (hor : jord a2 ho_) : Met l yL_pair wsL_pair ({ frames := 3, cells := 0, slots := 0, locals := 65 }) (jh_P D vwCl (jT cI cL cQ) cL cQ [.ref h0, .int 4, .ref ou] [(h0, .inr (5, [.ref tl, .ref tr, .ref cu, .ref bk, .int 1])), (cu, .inr (0, [.ref tl, .ref tr, .ref he, .ref ma, .int hm, .int kd, .long cc0])), (he, .inr (2, [.int p0, .int p1, .int p2, .int p3, .int p4, .int p5, .int p6])), (tl, .inr (4, [.int (nI a), .ref lk, .ref lv, .ref lo, .ref lp, .ref ll, .ref lf, .int (nI n), .int (nI pl)])), (lk, .inl (cI, a, .inl gk)), (lv, .inl (cI, a, .inl gv)), (lo, .inl (cI, a, .inl go)), (tr, .inr (4, [.int (nI a2), .ref rk, .ref rv, .ref ro, .ref rp, .ref rl, .ref rf, .int (nI n2), .int (nI pl2)])), (rk, .inl (cI, a2, .inl hk)), (rv, .inl (cI, a2, .inl hv)), (ro, .inl (cI, a2, .inl ho_)), (ou, .inl (cL, 1, .inr (.inl fo)))] sz) (va_Qi (fun (r : Int32) (u : va_W) => ∃ (fo9 : Nat → Int64), r = 0 ∧ u = [(h0, .inr (5, [.ref tl, .ref tr, .ref cu, .ref bk, .int 1])), (cu, .inr (0, [.ref tl, .ref tr, .ref he, .ref ma, .int hm, .int kd, .long cc0])), (he, .inr (2, [.int p0, .int p1, .int p2, .int p3, .int p4, .int p5, .int p6])), (tl, .inr (4, [.int (nI a), .ref lk, .ref lv, .ref lo, .ref lp, .ref ll, .ref lf, .int (nI n), .int (nI pl)])), (lk, .inl (cI, a, .inl gk)), (lv, .inl (cI, a, .inl gv)), (lo, .inl (cI, a, .inl go)), (tr, .inr (4, [.int (nI a2), .ref rk, .ref rv, .ref ro, .ref rp, .ref rl, .ref rf, .int (nI n2), .int (nI pl2)])), (rk, .inl (cI, a2, .inl hk)), (rv, .inl (cI, a2, .inl hv)), (ro, .inl (cI, a2, .inl ho_)), (ou, .inl (cL, 1, .inr (.inl fo9)))]) (jw_B D vwCl (va_A [(h0, .inr (5, [.ref tl, .ref tr, .ref cu, .ref bk, .int 1])), (cu, .inr (0, [.ref tl, .ref tr, .ref he, .ref ma, .int hm, .int kd, .long cc0])), (he, .inr (2, [.int p0, .int p1, .int p2, .int p3, .int p4, .int p5, .int p6])), (tl, .inr (4, [.int (nI a), .ref lk, .ref lv, .ref lo, .ref lp, .ref ll, .ref lf, .int (nI n), .int (nI pl)])), (lk, .inl (cI, a, .inl gk)), (lv, .inl (cI, a, .inl gv)), (lo, .inl (cI, a, .inl go)), (tr, .inr (4, [.int (nI a2), .ref rk, .ref rv, .ref ro, .ref rp, .ref rl, .ref rf, .int (nI n2), .int (nI pl2)])), (rk, .inl (cI, a2, .inl hk)), (rv, .inl (cI, a2, .inl hv)), (ro, .inl (cI, a2, .inl ho_)), (ou, .inl (cL, 1, .inr (.inl fo)))] sz) (fun u : va_W => u)) (va_A [(h0, .inr (5, [.ref tl, .ref tr, .ref cu, .ref bk, .int 1])), (cu, .inr (0, [.ref tl, .ref tr, .ref he, .ref ma, .int hm, .int kd, .long cc0])), (he, .inr (2, [.int p0, .int p1, .int p2, .int p3, .int p4, .int p5, .int p6])), (tl, .inr (4, [.int (nI a), .ref lk, .ref lv, .ref lo, .ref lp, .ref ll, .ref lf, .int (nI n), .int (nI pl)])), (lk, .inl (cI, a, .inl gk)), (lv, .inl (cI, a, .inl gv)), (lo, .inl (cI, a, .inl go)), (tr, .inr (4, [.int (nI a2), .ref rk, .ref rv, .ref ro, .ref rp, .ref rl, .ref rf, .int (nI n2), .int (nI pl2)])), (rk, .inl (cI, a2, .inl hk)), (rv, .inl (cI, a2, .inl hv)), (ro, .inl (cI, a2, .inl ho_)), (ou, .inl (cL, 1, .inr (.inl fo)))] sz)) 0 0 (va_A [(h0, .inr (5, [.ref tl, .ref tr, .ref cu, .ref bk, .int 1])), (cu, .inr (0, [.ref tl, .ref tr, .ref he, .ref ma, .int hm, .int kd, .long cc0])), (he, .inr (2, [.int p0, .int p1, .int p2, .int p3, .int p4, .int p5, .int p6])), (tl, .inr (4, [.int (nI a), .ref lk, .ref lv, .ref lo, .ref lp, .ref ll, .ref lf, .int (nI n), .int (nI pl)])), (lk, .inl (cI, a, .inl gk)), (lv, .inl (cI, a, .inl gv)), (lo, .inl (cI, a, .inl go)), (tr, .inr (4, [.int (nI a2), .ref rk, .ref rv, .ref ro, .ref rp, .ref rl, .ref rf, .int (nI n2), .int (nI pl2)])), (rk, .inl (cI, a2, .inl hk)), (rv, .inl (cI, a2, .inl hv)), (ro, .inl (cI, a2, .inl ho_)), (ou, .inl (cL, 1, .inr (.inl fo)))] sz) := by
  refine va_MetW (hh := [(0, 9, 12, 19)]) (cc := cL_pair) (maxL := 4) (ret := (some .int)) (by decide) rfl ?_
  intro p e s m args below meth c s₁ B hml hv
  obtain ⟨rfl, hsz, hP, hK, hN, hD0, hZ⟩ := hv
  have hx := B.exec
  have hb := B.bytes
  have hr := B.returns
  have hts := atoms_spec (ws := wsL_pair) B.pre
  have hown : s.vm.findClass RL = some m.cls := findClass_of_methodNamed B.named
  have hlocks := B.notSynchronized
  subst hsz
  have hD := hD0.self (sz := s.heap.size)
  generalize hAe : va_A [(h0, .inr (5, [.ref tl, .ref tr, .ref cu, .ref bk, .int 1])), (cu, .inr (0, [.ref tl, .ref tr, .ref he, .ref ma, .int hm, .int kd, .long cc0])), (he, .inr (2, [.int p0, .int p1, .int p2, .int p3, .int p4, .int p5, .int p6])), (tl, .inr (4, [.int (nI a), .ref lk, .ref lv, .ref lo, .ref lp, .ref ll, .ref lf, .int (nI n), .int (nI pl)])), (lk, .inl (cI, a, .inl gk)), (lv, .inl (cI, a, .inl gv)), (lo, .inl (cI, a, .inl go)), (tr, .inr (4, [.int (nI a2), .ref rk, .ref rv, .ref ro, .ref rp, .ref rl, .ref rf, .int (nI n2), .int (nI pl2)])), (rk, .inl (cI, a2, .inl hk)), (rv, .inl (cI, a2, .inl hv)), (ro, .inl (cI, a2, .inl ho_)), (ou, .inl (cL, 1, .inr (.inl fo)))] s.heap.size = A at hD ⊢
  have hA : ∀ q : Nat, s.heap.size ≤ q → A q := fun q h => by rw [← hAe]; exact Or.inr h
  have hS : va_S A s.heap s.heap [] := va_S.rf
  have hl := lv_entry ([.ref h0, .int 4, .ref ou]) (n := 4) (Nat.le_of_ble_eq_true rfl)
  rw [lg_entry_eq]
  generalize (lg_sl ([.ref h0, .int 4, .ref ou]) ++ List.replicate (4 - (lg_sl ([.ref h0, .int 4, .ref ou])).length) Slot.unset).toArray = ls at hl ⊢
  have hl : lv_has ls 4 [(0, .ref h0), (1, .int 4), (2, .ref ou)] := hl
  refine lv_aload_n hx hb dL_pair_0 rfl (lv_at hl 2 rfl) ?_
  refine lv_iconst (v := 0) hx hb dL_pair_1 (by decide) ?_
  refine lv_aload_n hx hb dL_pair_2 rfl (lv_at hl 0 rfl) ?_
  refine lv_iload_n hx hb dL_pair_3 rfl (lv_at hl 1 rfl) ?_
  refine vp_callSi (va_Run.run (va_runV (As := [.int 4]) (rest := [.int 0, .ref ou]) ⟨hx, hb, hml, hown, hts⟩ (gJ_pair_14 l D cI cL cQ h0 tl tr cu bk he ma hm kd cc0 p0 p1 p2 p3 p4 p5 p6 a n pl a2 n2 pl2 lk lv lo lp ll lf rk rv ro rp rl rf gk gv go hk hv ho_ (by first | assumption | decide | omega) (by first | assumption | decide | omega) (by first | assumption | decide | omega) (by first | assumption | decide | omega) (by first | assumption | decide | omega) (by first | assumption | decide | omega)) (cwV 1 hts gL_pair_X5_pair rfl rfl rfl (by decide +kernel) ⟨Nat.le_of_ble_eq_true rfl, Nat.le_of_ble_eq_true rfl⟩) (jr_V hK hN hP [0, 1, 2, 3, 4, 5, 6, 7, 8, 9, 10] rfl 5 0 rfl rfl rfl) rfl rfl hl.1 rfl (lv_room (Nat.le_of_ble_eq_true rfl)) dL_pair_4 ⟨Nat.le_of_ble_eq_true rfl, Nat.le_of_ble_eq_true rfl⟩)) (fun r f_1 => ?_)
  obtain ⟨z9, er_2⟩ := f_1
  subst r
  refine lv_i2l (v := z9.toInt64) hx hb dL_pair_7 (by first | rfl | decide) ?_
  refine va_last hx hb hK hP hD hS 11 1 rfl rfl (by unfold vp_in; decide) dL_pair_8 (fun H locs hP hD hS => ?_)
  have hP : va_P D vwCl [(h0, .inr (5, [.ref tl, .ref tr, .ref cu, .ref bk, .int 1])), (cu, .inr (0, [.ref tl, .ref tr, .ref he, .ref ma, .int hm, .int kd, .long cc0])), (he, .inr (2, [.int p0, .int p1, .int p2, .int p3, .int p4, .int p5, .int p6])), (tl, .inr (4, [.int (nI a), .ref lk, .ref lv, .ref lo, .ref lp, .ref ll, .ref lf, .int (nI n), .int (nI pl)])), (lk, .inl (cI, a, .inl gk)), (lv, .inl (cI, a, .inl gv)), (lo, .inl (cI, a, .inl go)), (tr, .inr (4, [.int (nI a2), .ref rk, .ref rv, .ref ro, .ref rp, .ref rl, .ref rf, .int (nI n2), .int (nI pl2)])), (rk, .inl (cI, a2, .inl hk)), (rv, .inl (cI, a2, .inl hv)), (ro, .inl (cI, a2, .inl ho_)), (ou, .inl (cL, 1, .inr (.inl (vp_updL fo (0 : Int32).toNatClampNeg z9.toInt64))))] H := hP
  have hD : va_D A [(h0, .inr (5, [.ref tl, .ref tr, .ref cu, .ref bk, .int 1])), (cu, .inr (0, [.ref tl, .ref tr, .ref he, .ref ma, .int hm, .int kd, .long cc0])), (he, .inr (2, [.int p0, .int p1, .int p2, .int p3, .int p4, .int p5, .int p6])), (tl, .inr (4, [.int (nI a), .ref lk, .ref lv, .ref lo, .ref lp, .ref ll, .ref lf, .int (nI n), .int (nI pl)])), (lk, .inl (cI, a, .inl gk)), (lv, .inl (cI, a, .inl gv)), (lo, .inl (cI, a, .inl go)), (tr, .inr (4, [.int (nI a2), .ref rk, .ref rv, .ref ro, .ref rp, .ref rl, .ref rf, .int (nI n2), .int (nI pl2)])), (rk, .inl (cI, a2, .inl hk)), (rv, .inl (cI, a2, .inl hv)), (ro, .inl (cI, a2, .inl ho_)), (ou, .inl (cL, 1, .inr (.inl (vp_updL fo (0 : Int32).toNatClampNeg z9.toInt64))))] := hD
  refine lv_goto (tgt := 15) hx hb dL_pair_9 (by decide) ?_
  refine lv_iconst (v := 0) hx hb dL_pair_15 (by decide) ?_
  refine W.widen (k := 0) (n := 0) (by omega) (by omega) ?_
  exact W.iret (v := 0) hx hb hr (fun t ht hW => ⟨⟨0, [(h0, .inr (5, [.ref tl, .ref tr, .ref cu, .ref bk, .int 1])), (cu, .inr (0, [.ref tl, .ref tr, .ref he, .ref ma, .int hm, .int kd, .long cc0])), (he, .inr (2, [.int p0, .int p1, .int p2, .int p3, .int p4, .int p5, .int p6])), (tl, .inr (4, [.int (nI a), .ref lk, .ref lv, .ref lo, .ref lp, .ref ll, .ref lf, .int (nI n), .int (nI pl)])), (lk, .inl (cI, a, .inl gk)), (lv, .inl (cI, a, .inl gv)), (lo, .inl (cI, a, .inl go)), (tr, .inr (4, [.int (nI a2), .ref rk, .ref rv, .ref ro, .ref rp, .ref rl, .ref rf, .int (nI n2), .int (nI pl2)])), (rk, .inl (cI, a2, .inl hk)), (rv, .inl (cI, a2, .inl hv)), (ro, .inl (cI, a2, .inl ho_)), (ou, .inl (cL, 1, .inr (.inl (vp_updL fo (0 : Int32).toNatClampNeg z9.toInt64))))], rfl, (⟨_, rfl, rfl⟩), by rw [ht]; exact hP, hD⟩, hS.F ht⟩) hS.2.2 dL_pair_16
set_option maxHeartbeats 1000000 in
set_option maxRecDepth 100000 in
theorem kL_pair_00 (l : Launch) (hnt : l.stackTraces = false) (D : va_G) (cI cL cQ : ClassId) (h0 : Nat) (tl : Nat) (tr : Nat) (cu : Nat) (bk : Nat) (he : Nat) (ma : Nat) (hm : Int32) (kd : Int32) (cc0 : Int64) (p0 : Int32) (p1 : Int32) (p2 : Int32) (p3 : Int32) (p4 : Int32) (p5 : Int32) (p6 : Int32) (a : Nat) (n : Nat) (pl : Nat) (a2 : Nat) (n2 : Nat) (pl2 : Nat) (lk : Nat) (lv : Nat) (lo : Nat) (lp : Nat) (ll : Nat) (lf : Nat) (rk : Nat) (rv : Nat) (ro : Nat) (rp : Nat) (rl : Nat) (rf : Nat) (gk : Nat → Int32) (gv : Nat → Int32) (go : Nat → Int32) (hk : Nat → Int32) (hv : Nat → Int32) (ho_ : Nat → Int32) (ou : Nat) (fo : Nat → Int64) (sz : Nat) (ha : a ≤ 400) (hn : n ≤ a) (hol : jord a go) (ha2 : a2 ≤ 400) (hn2 : n2 ≤ a2) (hor : jord a2 ho_) : Met l yL_pair wsL_pair ({ frames := 3, cells := 0, slots := 0, locals := 65 }) (jh_P D vwCl (jT cI cL cQ) cL cQ [.ref h0, .int 0, .ref ou] [(h0, .inr (5, [.ref tl, .ref tr, .ref cu, .ref bk, .int 0])), (cu, .inr (0, [.ref tl, .ref tr, .ref he, .ref ma, .int hm, .int kd, .long cc0])), (he, .inr (2, [.int p0, .int p1, .int p2, .int p3, .int p4, .int p5, .int p6])), (tl, .inr (4, [.int (nI a), .ref lk, .ref lv, .ref lo, .ref lp, .ref ll, .ref lf, .int (nI n), .int (nI pl)])), (lk, .inl (cI, a, .inl gk)), (lv, .inl (cI, a, .inl gv)), (lo, .inl (cI, a, .inl go)), (tr, .inr (4, [.int (nI a2), .ref rk, .ref rv, .ref ro, .ref rp, .ref rl, .ref rf, .int (nI n2), .int (nI pl2)])), (rk, .inl (cI, a2, .inl hk)), (rv, .inl (cI, a2, .inl hv)), (ro, .inl (cI, a2, .inl ho_)), (ou, .inl (cL, 1, .inr (.inl fo)))] sz) (va_Qi (fun (r : Int32) (u : va_W) => ∃ (fo9 : Nat → Int64), r = 0 ∧ u = [(h0, .inr (5, [.ref tl, .ref tr, .ref cu, .ref bk, .int 0])), (cu, .inr (0, [.ref tl, .ref tr, .ref he, .ref ma, .int hm, .int kd, .long cc0])), (he, .inr (2, [.int p0, .int p1, .int p2, .int p3, .int p4, .int p5, .int p6])), (tl, .inr (4, [.int (nI a), .ref lk, .ref lv, .ref lo, .ref lp, .ref ll, .ref lf, .int (nI n), .int (nI pl)])), (lk, .inl (cI, a, .inl gk)), (lv, .inl (cI, a, .inl gv)), (lo, .inl (cI, a, .inl go)), (tr, .inr (4, [.int (nI a2), .ref rk, .ref rv, .ref ro, .ref rp, .ref rl, .ref rf, .int (nI n2), .int (nI pl2)])), (rk, .inl (cI, a2, .inl hk)), (rv, .inl (cI, a2, .inl hv)), (ro, .inl (cI, a2, .inl ho_)), (ou, .inl (cL, 1, .inr (.inl fo9)))]) (jw_B D vwCl (va_A [(h0, .inr (5, [.ref tl, .ref tr, .ref cu, .ref bk, .int 0])), (cu, .inr (0, [.ref tl, .ref tr, .ref he, .ref ma, .int hm, .int kd, .long cc0])), (he, .inr (2, [.int p0, .int p1, .int p2, .int p3, .int p4, .int p5, .int p6])), (tl, .inr (4, [.int (nI a), .ref lk, .ref lv, .ref lo, .ref lp, .ref ll, .ref lf, .int (nI n), .int (nI pl)])), (lk, .inl (cI, a, .inl gk)), (lv, .inl (cI, a, .inl gv)), (lo, .inl (cI, a, .inl go)), (tr, .inr (4, [.int (nI a2), .ref rk, .ref rv, .ref ro, .ref rp, .ref rl, .ref rf, .int (nI n2), .int (nI pl2)])), (rk, .inl (cI, a2, .inl hk)), (rv, .inl (cI, a2, .inl hv)), (ro, .inl (cI, a2, .inl ho_)), (ou, .inl (cL, 1, .inr (.inl fo)))] sz) (fun u : va_W => u)) (va_A [(h0, .inr (5, [.ref tl, .ref tr, .ref cu, .ref bk, .int 0])), (cu, .inr (0, [.ref tl, .ref tr, .ref he, .ref ma, .int hm, .int kd, .long cc0])), (he, .inr (2, [.int p0, .int p1, .int p2, .int p3, .int p4, .int p5, .int p6])), (tl, .inr (4, [.int (nI a), .ref lk, .ref lv, .ref lo, .ref lp, .ref ll, .ref lf, .int (nI n), .int (nI pl)])), (lk, .inl (cI, a, .inl gk)), (lv, .inl (cI, a, .inl gv)), (lo, .inl (cI, a, .inl go)), (tr, .inr (4, [.int (nI a2), .ref rk, .ref rv, .ref ro, .ref rp, .ref rl, .ref rf, .int (nI n2), .int (nI pl2)])), (rk, .inl (cI, a2, .inl hk)), (rv, .inl (cI, a2, .inl hv)), (ro, .inl (cI, a2, .inl ho_)), (ou, .inl (cL, 1, .inr (.inl fo)))] sz)) 0 0 (va_A [(h0, .inr (5, [.ref tl, .ref tr, .ref cu, .ref bk, .int 0])), (cu, .inr (0, [.ref tl, .ref tr, .ref he, .ref ma, .int hm, .int kd, .long cc0])), (he, .inr (2, [.int p0, .int p1, .int p2, .int p3, .int p4, .int p5, .int p6])), (tl, .inr (4, [.int (nI a), .ref lk, .ref lv, .ref lo, .ref lp, .ref ll, .ref lf, .int (nI n), .int (nI pl)])), (lk, .inl (cI, a, .inl gk)), (lv, .inl (cI, a, .inl gv)), (lo, .inl (cI, a, .inl go)), (tr, .inr (4, [.int (nI a2), .ref rk, .ref rv, .ref ro, .ref rp, .ref rl, .ref rf, .int (nI n2), .int (nI pl2)])), (rk, .inl (cI, a2, .inl hk)), (rv, .inl (cI, a2, .inl hv)), (ro, .inl (cI, a2, .inl ho_)), (ou, .inl (cL, 1, .inr (.inl fo)))] sz) := by
  refine va_MetW (hh := [(0, 9, 12, 19)]) (cc := cL_pair) (maxL := 4) (ret := (some .int)) (by decide) rfl ?_
  intro p e s m args below meth c s₁ B hml hv
  obtain ⟨rfl, hsz, hP, hK, hN, hD0, hZ⟩ := hv
  have hx := B.exec
  have hb := B.bytes
  have hr := B.returns
  have hts := atoms_spec (ws := wsL_pair) B.pre
  have hown : s.vm.findClass RL = some m.cls := findClass_of_methodNamed B.named
  have hlocks := B.notSynchronized
  subst hsz
  have hD := hD0.self (sz := s.heap.size)
  generalize hAe : va_A [(h0, .inr (5, [.ref tl, .ref tr, .ref cu, .ref bk, .int 0])), (cu, .inr (0, [.ref tl, .ref tr, .ref he, .ref ma, .int hm, .int kd, .long cc0])), (he, .inr (2, [.int p0, .int p1, .int p2, .int p3, .int p4, .int p5, .int p6])), (tl, .inr (4, [.int (nI a), .ref lk, .ref lv, .ref lo, .ref lp, .ref ll, .ref lf, .int (nI n), .int (nI pl)])), (lk, .inl (cI, a, .inl gk)), (lv, .inl (cI, a, .inl gv)), (lo, .inl (cI, a, .inl go)), (tr, .inr (4, [.int (nI a2), .ref rk, .ref rv, .ref ro, .ref rp, .ref rl, .ref rf, .int (nI n2), .int (nI pl2)])), (rk, .inl (cI, a2, .inl hk)), (rv, .inl (cI, a2, .inl hv)), (ro, .inl (cI, a2, .inl ho_)), (ou, .inl (cL, 1, .inr (.inl fo)))] s.heap.size = A at hD ⊢
  have hA : ∀ q : Nat, s.heap.size ≤ q → A q := fun q h => by rw [← hAe]; exact Or.inr h
  have hS : va_S A s.heap s.heap [] := va_S.rf
  have hl := lv_entry ([.ref h0, .int 0, .ref ou]) (n := 4) (Nat.le_of_ble_eq_true rfl)
  rw [lg_entry_eq]
  generalize (lg_sl ([.ref h0, .int 0, .ref ou]) ++ List.replicate (4 - (lg_sl ([.ref h0, .int 0, .ref ou])).length) Slot.unset).toArray = ls at hl ⊢
  have hl : lv_has ls 4 [(0, .ref h0), (1, .int 0), (2, .ref ou)] := hl
  refine lv_aload_n hx hb dL_pair_0 rfl (lv_at hl 2 rfl) ?_
  refine lv_iconst (v := 0) hx hb dL_pair_1 (by decide) ?_
  refine lv_aload_n hx hb dL_pair_2 rfl (lv_at hl 0 rfl) ?_
  refine lv_iload_n hx hb dL_pair_3 rfl (lv_at hl 1 rfl) ?_
  refine vp_callSi (va_Run.run (va_runV (As := [.int 0]) (rest := [.int 0, .ref ou]) ⟨hx, hb, hml, hown, hts⟩ (gJ_pair_00 l D cI cL cQ h0 tl tr cu bk he ma hm kd cc0 p0 p1 p2 p3 p4 p5 p6 a n pl a2 n2 pl2 lk lv lo lp ll lf rk rv ro rp rl rf gk gv go hk hv ho_ (by first | assumption | decide | omega) (by first | assumption | decide | omega) (by first | assumption | decide | omega) (by first | assumption | decide | omega) (by first | assumption | decide | omega) (by first | assumption | decide | omega)) (cwV 1 hts gL_pair_X5_pair rfl rfl rfl (by decide +kernel) ⟨Nat.le_of_ble_eq_true rfl, Nat.le_of_ble_eq_true rfl⟩) (jr_V hK hN hP [0, 1, 2, 3, 4, 5, 6, 7, 8, 9, 10] rfl 5 0 rfl rfl rfl) rfl rfl hl.1 rfl (lv_room (Nat.le_of_ble_eq_true rfl)) dL_pair_4 ⟨Nat.le_of_ble_eq_true rfl, Nat.le_of_ble_eq_true rfl⟩)) (fun r f_1 => ?_)
  obtain ⟨z9, er_2⟩ := f_1
  subst r
  refine lv_i2l (v := z9.toInt64) hx hb dL_pair_7 (by first | rfl | decide) ?_
  refine va_last hx hb hK hP hD hS 11 1 rfl rfl (by unfold vp_in; decide) dL_pair_8 (fun H locs hP hD hS => ?_)
  have hP : va_P D vwCl [(h0, .inr (5, [.ref tl, .ref tr, .ref cu, .ref bk, .int 0])), (cu, .inr (0, [.ref tl, .ref tr, .ref he, .ref ma, .int hm, .int kd, .long cc0])), (he, .inr (2, [.int p0, .int p1, .int p2, .int p3, .int p4, .int p5, .int p6])), (tl, .inr (4, [.int (nI a), .ref lk, .ref lv, .ref lo, .ref lp, .ref ll, .ref lf, .int (nI n), .int (nI pl)])), (lk, .inl (cI, a, .inl gk)), (lv, .inl (cI, a, .inl gv)), (lo, .inl (cI, a, .inl go)), (tr, .inr (4, [.int (nI a2), .ref rk, .ref rv, .ref ro, .ref rp, .ref rl, .ref rf, .int (nI n2), .int (nI pl2)])), (rk, .inl (cI, a2, .inl hk)), (rv, .inl (cI, a2, .inl hv)), (ro, .inl (cI, a2, .inl ho_)), (ou, .inl (cL, 1, .inr (.inl (vp_updL fo (0 : Int32).toNatClampNeg z9.toInt64))))] H := hP
  have hD : va_D A [(h0, .inr (5, [.ref tl, .ref tr, .ref cu, .ref bk, .int 0])), (cu, .inr (0, [.ref tl, .ref tr, .ref he, .ref ma, .int hm, .int kd, .long cc0])), (he, .inr (2, [.int p0, .int p1, .int p2, .int p3, .int p4, .int p5, .int p6])), (tl, .inr (4, [.int (nI a), .ref lk, .ref lv, .ref lo, .ref lp, .ref ll, .ref lf, .int (nI n), .int (nI pl)])), (lk, .inl (cI, a, .inl gk)), (lv, .inl (cI, a, .inl gv)), (lo, .inl (cI, a, .inl go)), (tr, .inr (4, [.int (nI a2), .ref rk, .ref rv, .ref ro, .ref rp, .ref rl, .ref rf, .int (nI n2), .int (nI pl2)])), (rk, .inl (cI, a2, .inl hk)), (rv, .inl (cI, a2, .inl hv)), (ro, .inl (cI, a2, .inl ho_)), (ou, .inl (cL, 1, .inr (.inl (vp_updL fo (0 : Int32).toNatClampNeg z9.toInt64))))] := hD
  refine lv_goto (tgt := 15) hx hb dL_pair_9 (by decide) ?_
  refine lv_iconst (v := 0) hx hb dL_pair_15 (by decide) ?_
  refine W.widen (k := 0) (n := 0) (by omega) (by omega) ?_
  exact W.iret (v := 0) hx hb hr (fun t ht hW => ⟨⟨0, [(h0, .inr (5, [.ref tl, .ref tr, .ref cu, .ref bk, .int 0])), (cu, .inr (0, [.ref tl, .ref tr, .ref he, .ref ma, .int hm, .int kd, .long cc0])), (he, .inr (2, [.int p0, .int p1, .int p2, .int p3, .int p4, .int p5, .int p6])), (tl, .inr (4, [.int (nI a), .ref lk, .ref lv, .ref lo, .ref lp, .ref ll, .ref lf, .int (nI n), .int (nI pl)])), (lk, .inl (cI, a, .inl gk)), (lv, .inl (cI, a, .inl gv)), (lo, .inl (cI, a, .inl go)), (tr, .inr (4, [.int (nI a2), .ref rk, .ref rv, .ref ro, .ref rp, .ref rl, .ref rf, .int (nI n2), .int (nI pl2)])), (rk, .inl (cI, a2, .inl hk)), (rv, .inl (cI, a2, .inl hv)), (ro, .inl (cI, a2, .inl ho_)), (ou, .inl (cL, 1, .inr (.inl (vp_updL fo (0 : Int32).toNatClampNeg z9.toInt64))))], rfl, (⟨_, rfl, rfl⟩), by rw [ht]; exact hP, hD⟩, hS.F ht⟩) hS.2.2 dL_pair_16
set_option maxHeartbeats 1000000 in
set_option maxRecDepth 100000 in
theorem kL_pair_01 (l : Launch) (hnt : l.stackTraces = false) (D : va_G) (cI cL cQ : ClassId) (h0 : Nat) (tl : Nat) (tr : Nat) (cu : Nat) (bk : Nat) (he : Nat) (ma : Nat) (hm : Int32) (kd : Int32) (cc0 : Int64) (p0 : Int32) (p1 : Int32) (p2 : Int32) (p3 : Int32) (p4 : Int32) (p5 : Int32) (p6 : Int32) (a : Nat) (n : Nat) (pl : Nat) (a2 : Nat) (n2 : Nat) (pl2 : Nat) (lk : Nat) (lv : Nat) (lo : Nat) (lp : Nat) (ll : Nat) (lf : Nat) (rk : Nat) (rv : Nat) (ro : Nat) (rp : Nat) (rl : Nat) (rf : Nat) (gk : Nat → Int32) (gv : Nat → Int32) (go : Nat → Int32) (hk : Nat → Int32) (hv : Nat → Int32) (ho_ : Nat → Int32) (ou : Nat) (fo : Nat → Int64) (sz : Nat) (ha : a ≤ 400) (hn : n ≤ a) (hol : jord a go) (ha2 : a2 ≤ 400) (hn2 : n2 ≤ a2) (hor : jord a2 ho_) : Met l yL_pair wsL_pair ({ frames := 3, cells := 0, slots := 0, locals := 65 }) (jh_P D vwCl (jT cI cL cQ) cL cQ [.ref h0, .int 1, .ref ou] [(h0, .inr (5, [.ref tl, .ref tr, .ref cu, .ref bk, .int 0])), (cu, .inr (0, [.ref tl, .ref tr, .ref he, .ref ma, .int hm, .int kd, .long cc0])), (he, .inr (2, [.int p0, .int p1, .int p2, .int p3, .int p4, .int p5, .int p6])), (tl, .inr (4, [.int (nI a), .ref lk, .ref lv, .ref lo, .ref lp, .ref ll, .ref lf, .int (nI n), .int (nI pl)])), (lk, .inl (cI, a, .inl gk)), (lv, .inl (cI, a, .inl gv)), (lo, .inl (cI, a, .inl go)), (tr, .inr (4, [.int (nI a2), .ref rk, .ref rv, .ref ro, .ref rp, .ref rl, .ref rf, .int (nI n2), .int (nI pl2)])), (rk, .inl (cI, a2, .inl hk)), (rv, .inl (cI, a2, .inl hv)), (ro, .inl (cI, a2, .inl ho_)), (ou, .inl (cL, 1, .inr (.inl fo)))] sz) (va_Qi (fun (r : Int32) (u : va_W) => ∃ (fo9 : Nat → Int64), r = 0 ∧ u = [(h0, .inr (5, [.ref tl, .ref tr, .ref cu, .ref bk, .int 0])), (cu, .inr (0, [.ref tl, .ref tr, .ref he, .ref ma, .int hm, .int kd, .long cc0])), (he, .inr (2, [.int p0, .int p1, .int p2, .int p3, .int p4, .int p5, .int p6])), (tl, .inr (4, [.int (nI a), .ref lk, .ref lv, .ref lo, .ref lp, .ref ll, .ref lf, .int (nI n), .int (nI pl)])), (lk, .inl (cI, a, .inl gk)), (lv, .inl (cI, a, .inl gv)), (lo, .inl (cI, a, .inl go)), (tr, .inr (4, [.int (nI a2), .ref rk, .ref rv, .ref ro, .ref rp, .ref rl, .ref rf, .int (nI n2), .int (nI pl2)])), (rk, .inl (cI, a2, .inl hk)), (rv, .inl (cI, a2, .inl hv)), (ro, .inl (cI, a2, .inl ho_)), (ou, .inl (cL, 1, .inr (.inl fo9)))]) (jw_B D vwCl (va_A [(h0, .inr (5, [.ref tl, .ref tr, .ref cu, .ref bk, .int 0])), (cu, .inr (0, [.ref tl, .ref tr, .ref he, .ref ma, .int hm, .int kd, .long cc0])), (he, .inr (2, [.int p0, .int p1, .int p2, .int p3, .int p4, .int p5, .int p6])), (tl, .inr (4, [.int (nI a), .ref lk, .ref lv, .ref lo, .ref lp, .ref ll, .ref lf, .int (nI n), .int (nI pl)])), (lk, .inl (cI, a, .inl gk)), (lv, .inl (cI, a, .inl gv)), (lo, .inl (cI, a, .inl go)), (tr, .inr (4, [.int (nI a2), .ref rk, .ref rv, .ref ro, .ref rp, .ref rl, .ref rf, .int (nI n2), .int (nI pl2)])), (rk, .inl (cI, a2, .inl hk)), (rv, .inl (cI, a2, .inl hv)), (ro, .inl (cI, a2, .inl ho_)), (ou, .inl (cL, 1, .inr (.inl fo)))] sz) (fun u : va_W => u)) (va_A [(h0, .inr (5, [.ref tl, .ref tr, .ref cu, .ref bk, .int 0])), (cu, .inr (0, [.ref tl, .ref tr, .ref he, .ref ma, .int hm, .int kd, .long cc0])), (he, .inr (2, [.int p0, .int p1, .int p2, .int p3, .int p4, .int p5, .int p6])), (tl, .inr (4, [.int (nI a), .ref lk, .ref lv, .ref lo, .ref lp, .ref ll, .ref lf, .int (nI n), .int (nI pl)])), (lk, .inl (cI, a, .inl gk)), (lv, .inl (cI, a, .inl gv)), (lo, .inl (cI, a, .inl go)), (tr, .inr (4, [.int (nI a2), .ref rk, .ref rv, .ref ro, .ref rp, .ref rl, .ref rf, .int (nI n2), .int (nI pl2)])), (rk, .inl (cI, a2, .inl hk)), (rv, .inl (cI, a2, .inl hv)), (ro, .inl (cI, a2, .inl ho_)), (ou, .inl (cL, 1, .inr (.inl fo)))] sz)) 0 0 (va_A [(h0, .inr (5, [.ref tl, .ref tr, .ref cu, .ref bk, .int 0])), (cu, .inr (0, [.ref tl, .ref tr, .ref he, .ref ma, .int hm, .int kd, .long cc0])), (he, .inr (2, [.int p0, .int p1, .int p2, .int p3, .int p4, .int p5, .int p6])), (tl, .inr (4, [.int (nI a), .ref lk, .ref lv, .ref lo, .ref lp, .ref ll, .ref lf, .int (nI n), .int (nI pl)])), (lk, .inl (cI, a, .inl gk)), (lv, .inl (cI, a, .inl gv)), (lo, .inl (cI, a, .inl go)), (tr, .inr (4, [.int (nI a2), .ref rk, .ref rv, .ref ro, .ref rp, .ref rl, .ref rf, .int (nI n2), .int (nI pl2)])), (rk, .inl (cI, a2, .inl hk)), (rv, .inl (cI, a2, .inl hv)), (ro, .inl (cI, a2, .inl ho_)), (ou, .inl (cL, 1, .inr (.inl fo)))] sz) := by
  refine va_MetW (hh := [(0, 9, 12, 19)]) (cc := cL_pair) (maxL := 4) (ret := (some .int)) (by decide) rfl ?_
  intro p e s m args below meth c s₁ B hml hv
  obtain ⟨rfl, hsz, hP, hK, hN, hD0, hZ⟩ := hv
  have hx := B.exec
  have hb := B.bytes
  have hr := B.returns
  have hts := atoms_spec (ws := wsL_pair) B.pre
  have hown : s.vm.findClass RL = some m.cls := findClass_of_methodNamed B.named
  have hlocks := B.notSynchronized
  subst hsz
  have hD := hD0.self (sz := s.heap.size)
  generalize hAe : va_A [(h0, .inr (5, [.ref tl, .ref tr, .ref cu, .ref bk, .int 0])), (cu, .inr (0, [.ref tl, .ref tr, .ref he, .ref ma, .int hm, .int kd, .long cc0])), (he, .inr (2, [.int p0, .int p1, .int p2, .int p3, .int p4, .int p5, .int p6])), (tl, .inr (4, [.int (nI a), .ref lk, .ref lv, .ref lo, .ref lp, .ref ll, .ref lf, .int (nI n), .int (nI pl)])), (lk, .inl (cI, a, .inl gk)), (lv, .inl (cI, a, .inl gv)), (lo, .inl (cI, a, .inl go)), (tr, .inr (4, [.int (nI a2), .ref rk, .ref rv, .ref ro, .ref rp, .ref rl, .ref rf, .int (nI n2), .int (nI pl2)])), (rk, .inl (cI, a2, .inl hk)), (rv, .inl (cI, a2, .inl hv)), (ro, .inl (cI, a2, .inl ho_)), (ou, .inl (cL, 1, .inr (.inl fo)))] s.heap.size = A at hD ⊢
  have hA : ∀ q : Nat, s.heap.size ≤ q → A q := fun q h => by rw [← hAe]; exact Or.inr h
  have hS : va_S A s.heap s.heap [] := va_S.rf
  have hl := lv_entry ([.ref h0, .int 1, .ref ou]) (n := 4) (Nat.le_of_ble_eq_true rfl)
  rw [lg_entry_eq]
  generalize (lg_sl ([.ref h0, .int 1, .ref ou]) ++ List.replicate (4 - (lg_sl ([.ref h0, .int 1, .ref ou])).length) Slot.unset).toArray = ls at hl ⊢
  have hl : lv_has ls 4 [(0, .ref h0), (1, .int 1), (2, .ref ou)] := hl
  refine lv_aload_n hx hb dL_pair_0 rfl (lv_at hl 2 rfl) ?_
  refine lv_iconst (v := 0) hx hb dL_pair_1 (by decide) ?_
  refine lv_aload_n hx hb dL_pair_2 rfl (lv_at hl 0 rfl) ?_
  refine lv_iload_n hx hb dL_pair_3 rfl (lv_at hl 1 rfl) ?_
  refine vp_callSi (va_Run.run (va_runV (As := [.int 1]) (rest := [.int 0, .ref ou]) ⟨hx, hb, hml, hown, hts⟩ (gJ_pair_01 l D cI cL cQ h0 tl tr cu bk he ma hm kd cc0 p0 p1 p2 p3 p4 p5 p6 a n pl a2 n2 pl2 lk lv lo lp ll lf rk rv ro rp rl rf gk gv go hk hv ho_ (by first | assumption | decide | omega) (by first | assumption | decide | omega) (by first | assumption | decide | omega) (by first | assumption | decide | omega) (by first | assumption | decide | omega) (by first | assumption | decide | omega)) (cwV 1 hts gL_pair_X5_pair rfl rfl rfl (by decide +kernel) ⟨Nat.le_of_ble_eq_true rfl, Nat.le_of_ble_eq_true rfl⟩) (jr_V hK hN hP [0, 1, 2, 3, 4, 5, 6, 7, 8, 9, 10] rfl 5 0 rfl rfl rfl) rfl rfl hl.1 rfl (lv_room (Nat.le_of_ble_eq_true rfl)) dL_pair_4 ⟨Nat.le_of_ble_eq_true rfl, Nat.le_of_ble_eq_true rfl⟩)) (fun r f_1 => ?_)
  obtain ⟨z9, er_2⟩ := f_1
  subst r
  refine lv_i2l (v := z9.toInt64) hx hb dL_pair_7 (by first | rfl | decide) ?_
  refine va_last hx hb hK hP hD hS 11 1 rfl rfl (by unfold vp_in; decide) dL_pair_8 (fun H locs hP hD hS => ?_)
  have hP : va_P D vwCl [(h0, .inr (5, [.ref tl, .ref tr, .ref cu, .ref bk, .int 0])), (cu, .inr (0, [.ref tl, .ref tr, .ref he, .ref ma, .int hm, .int kd, .long cc0])), (he, .inr (2, [.int p0, .int p1, .int p2, .int p3, .int p4, .int p5, .int p6])), (tl, .inr (4, [.int (nI a), .ref lk, .ref lv, .ref lo, .ref lp, .ref ll, .ref lf, .int (nI n), .int (nI pl)])), (lk, .inl (cI, a, .inl gk)), (lv, .inl (cI, a, .inl gv)), (lo, .inl (cI, a, .inl go)), (tr, .inr (4, [.int (nI a2), .ref rk, .ref rv, .ref ro, .ref rp, .ref rl, .ref rf, .int (nI n2), .int (nI pl2)])), (rk, .inl (cI, a2, .inl hk)), (rv, .inl (cI, a2, .inl hv)), (ro, .inl (cI, a2, .inl ho_)), (ou, .inl (cL, 1, .inr (.inl (vp_updL fo (0 : Int32).toNatClampNeg z9.toInt64))))] H := hP
  have hD : va_D A [(h0, .inr (5, [.ref tl, .ref tr, .ref cu, .ref bk, .int 0])), (cu, .inr (0, [.ref tl, .ref tr, .ref he, .ref ma, .int hm, .int kd, .long cc0])), (he, .inr (2, [.int p0, .int p1, .int p2, .int p3, .int p4, .int p5, .int p6])), (tl, .inr (4, [.int (nI a), .ref lk, .ref lv, .ref lo, .ref lp, .ref ll, .ref lf, .int (nI n), .int (nI pl)])), (lk, .inl (cI, a, .inl gk)), (lv, .inl (cI, a, .inl gv)), (lo, .inl (cI, a, .inl go)), (tr, .inr (4, [.int (nI a2), .ref rk, .ref rv, .ref ro, .ref rp, .ref rl, .ref rf, .int (nI n2), .int (nI pl2)])), (rk, .inl (cI, a2, .inl hk)), (rv, .inl (cI, a2, .inl hv)), (ro, .inl (cI, a2, .inl ho_)), (ou, .inl (cL, 1, .inr (.inl (vp_updL fo (0 : Int32).toNatClampNeg z9.toInt64))))] := hD
  refine lv_goto (tgt := 15) hx hb dL_pair_9 (by decide) ?_
  refine lv_iconst (v := 0) hx hb dL_pair_15 (by decide) ?_
  refine W.widen (k := 0) (n := 0) (by omega) (by omega) ?_
  exact W.iret (v := 0) hx hb hr (fun t ht hW => ⟨⟨0, [(h0, .inr (5, [.ref tl, .ref tr, .ref cu, .ref bk, .int 0])), (cu, .inr (0, [.ref tl, .ref tr, .ref he, .ref ma, .int hm, .int kd, .long cc0])), (he, .inr (2, [.int p0, .int p1, .int p2, .int p3, .int p4, .int p5, .int p6])), (tl, .inr (4, [.int (nI a), .ref lk, .ref lv, .ref lo, .ref lp, .ref ll, .ref lf, .int (nI n), .int (nI pl)])), (lk, .inl (cI, a, .inl gk)), (lv, .inl (cI, a, .inl gv)), (lo, .inl (cI, a, .inl go)), (tr, .inr (4, [.int (nI a2), .ref rk, .ref rv, .ref ro, .ref rp, .ref rl, .ref rf, .int (nI n2), .int (nI pl2)])), (rk, .inl (cI, a2, .inl hk)), (rv, .inl (cI, a2, .inl hv)), (ro, .inl (cI, a2, .inl ho_)), (ou, .inl (cL, 1, .inr (.inl (vp_updL fo (0 : Int32).toNatClampNeg z9.toInt64))))], rfl, (⟨_, rfl, rfl⟩), by rw [ht]; exact hP, hD⟩, hS.F ht⟩) hS.2.2 dL_pair_16
set_option maxHeartbeats 1000000 in
set_option maxRecDepth 100000 in
theorem kL_pair_02 (l : Launch) (hnt : l.stackTraces = false) (D : va_G) (cI cL cQ : ClassId) (h0 : Nat) (tl : Nat) (tr : Nat) (cu : Nat) (bk : Nat) (he : Nat) (ma : Nat) (hm : Int32) (kd : Int32) (cc0 : Int64) (p0 : Int32) (p1 : Int32) (p2 : Int32) (p3 : Int32) (p4 : Int32) (p5 : Int32) (p6 : Int32) (a : Nat) (n : Nat) (pl : Nat) (a2 : Nat) (n2 : Nat) (pl2 : Nat) (lk : Nat) (lv : Nat) (lo : Nat) (lp : Nat) (ll : Nat) (lf : Nat) (rk : Nat) (rv : Nat) (ro : Nat) (rp : Nat) (rl : Nat) (rf : Nat) (gk : Nat → Int32) (gv : Nat → Int32) (go : Nat → Int32) (hk : Nat → Int32) (hv : Nat → Int32) (ho_ : Nat → Int32) (ou : Nat) (fo : Nat → Int64) (sz : Nat) (ha : a ≤ 400) (hn : n ≤ a) (hol : jord a go) (ha2 : a2 ≤ 400) (hn2 : n2 ≤ a2) (hor : jord a2 ho_) : Met l yL_pair wsL_pair ({ frames := 3, cells := 0, slots := 0, locals := 65 }) (jh_P D vwCl (jT cI cL cQ) cL cQ [.ref h0, .int 2, .ref ou] [(h0, .inr (5, [.ref tl, .ref tr, .ref cu, .ref bk, .int 0])), (cu, .inr (0, [.ref tl, .ref tr, .ref he, .ref ma, .int hm, .int kd, .long cc0])), (he, .inr (2, [.int p0, .int p1, .int p2, .int p3, .int p4, .int p5, .int p6])), (tl, .inr (4, [.int (nI a), .ref lk, .ref lv, .ref lo, .ref lp, .ref ll, .ref lf, .int (nI n), .int (nI pl)])), (lk, .inl (cI, a, .inl gk)), (lv, .inl (cI, a, .inl gv)), (lo, .inl (cI, a, .inl go)), (tr, .inr (4, [.int (nI a2), .ref rk, .ref rv, .ref ro, .ref rp, .ref rl, .ref rf, .int (nI n2), .int (nI pl2)])), (rk, .inl (cI, a2, .inl hk)), (rv, .inl (cI, a2, .inl hv)), (ro, .inl (cI, a2, .inl ho_)), (ou, .inl (cL, 1, .inr (.inl fo)))] sz) (va_Qi (fun (r : Int32) (u : va_W) => ∃ (fo9 : Nat → Int64), r = 0 ∧ u = [(h0, .inr (5, [.ref tl, .ref tr, .ref cu, .ref bk, .int 0])), (cu, .inr (0, [.ref tl, .ref tr, .ref he, .ref ma, .int hm, .int kd, .long cc0])), (he, .inr (2, [.int p0, .int p1, .int p2, .int p3, .int p4, .int p5, .int p6])), (tl, .inr (4, [.int (nI a), .ref lk, .ref lv, .ref lo, .ref lp, .ref ll, .ref lf, .int (nI n), .int (nI pl)])), (lk, .inl (cI, a, .inl gk)), (lv, .inl (cI, a, .inl gv)), (lo, .inl (cI, a, .inl go)), (tr, .inr (4, [.int (nI a2), .ref rk, .ref rv, .ref ro, .ref rp, .ref rl, .ref rf, .int (nI n2), .int (nI pl2)])), (rk, .inl (cI, a2, .inl hk)), (rv, .inl (cI, a2, .inl hv)), (ro, .inl (cI, a2, .inl ho_)), (ou, .inl (cL, 1, .inr (.inl fo9)))]) (jw_B D vwCl (va_A [(h0, .inr (5, [.ref tl, .ref tr, .ref cu, .ref bk, .int 0])), (cu, .inr (0, [.ref tl, .ref tr, .ref he, .ref ma, .int hm, .int kd, .long cc0])), (he, .inr (2, [.int p0, .int p1, .int p2, .int p3, .int p4, .int p5, .int p6])), (tl, .inr (4, [.int (nI a), .ref lk, .ref lv, .ref lo, .ref lp, .ref ll, .ref lf, .int (nI n), .int (nI pl)])), (lk, .inl (cI, a, .inl gk)), (lv, .inl (cI, a, .inl gv)), (lo, .inl (cI, a, .inl go)), (tr, .inr (4, [.int (nI a2), .ref rk, .ref rv, .ref ro, .ref rp, .ref rl, .ref rf, .int (nI n2), .int (nI pl2)])), (rk, .inl (cI, a2, .inl hk)), (rv, .inl (cI, a2, .inl hv)), (ro, .inl (cI, a2, .inl ho_)), (ou, .inl (cL, 1, .inr (.inl fo)))] sz) (fun u : va_W => u)) (va_A [(h0, .inr (5, [.ref tl, .ref tr, .ref cu, .ref bk, .int 0])), (cu, .inr (0, [.ref tl, .ref tr, .ref he, .ref ma, .int hm, .int kd, .long cc0])), (he, .inr (2, [.int p0, .int p1, .int p2, .int p3, .int p4, .int p5, .int p6])), (tl, .inr (4, [.int (nI a), .ref lk, .ref lv, .ref lo, .ref lp, .ref ll, .ref lf, .int (nI n), .int (nI pl)])), (lk, .inl (cI, a, .inl gk)), (lv, .inl (cI, a, .inl gv)), (lo, .inl (cI, a, .inl go)), (tr, .inr (4, [.int (nI a2), .ref rk, .ref rv, .ref ro, .ref rp, .ref rl, .ref rf, .int (nI n2), .int (nI pl2)])), (rk, .inl (cI, a2, .inl hk)), (rv, .inl (cI, a2, .inl hv)), (ro, .inl (cI, a2, .inl ho_)), (ou, .inl (cL, 1, .inr (.inl fo)))] sz)) 0 0 (va_A [(h0, .inr (5, [.ref tl, .ref tr, .ref cu, .ref bk, .int 0])), (cu, .inr (0, [.ref tl, .ref tr, .ref he, .ref ma, .int hm, .int kd, .long cc0])), (he, .inr (2, [.int p0, .int p1, .int p2, .int p3, .int p4, .int p5, .int p6])), (tl, .inr (4, [.int (nI a), .ref lk, .ref lv, .ref lo, .ref lp, .ref ll, .ref lf, .int (nI n), .int (nI pl)])), (lk, .inl (cI, a, .inl gk)), (lv, .inl (cI, a, .inl gv)), (lo, .inl (cI, a, .inl go)), (tr, .inr (4, [.int (nI a2), .ref rk, .ref rv, .ref ro, .ref rp, .ref rl, .ref rf, .int (nI n2), .int (nI pl2)])), (rk, .inl (cI, a2, .inl hk)), (rv, .inl (cI, a2, .inl hv)), (ro, .inl (cI, a2, .inl ho_)), (ou, .inl (cL, 1, .inr (.inl fo)))] sz) := by
  refine va_MetW (hh := [(0, 9, 12, 19)]) (cc := cL_pair) (maxL := 4) (ret := (some .int)) (by decide) rfl ?_
  intro p e s m args below meth c s₁ B hml hv
  obtain ⟨rfl, hsz, hP, hK, hN, hD0, hZ⟩ := hv
  have hx := B.exec
  have hb := B.bytes
  have hr := B.returns
  have hts := atoms_spec (ws := wsL_pair) B.pre
  have hown : s.vm.findClass RL = some m.cls := findClass_of_methodNamed B.named
  have hlocks := B.notSynchronized
  subst hsz
  have hD := hD0.self (sz := s.heap.size)
  generalize hAe : va_A [(h0, .inr (5, [.ref tl, .ref tr, .ref cu, .ref bk, .int 0])), (cu, .inr (0, [.ref tl, .ref tr, .ref he, .ref ma, .int hm, .int kd, .long cc0])), (he, .inr (2, [.int p0, .int p1, .int p2, .int p3, .int p4, .int p5, .int p6])), (tl, .inr (4, [.int (nI a), .ref lk, .ref lv, .ref lo, .ref lp, .ref ll, .ref lf, .int (nI n), .int (nI pl)])), (lk, .inl (cI, a, .inl gk)), (lv, .inl (cI, a, .inl gv)), (lo, .inl (cI, a, .inl go)), (tr, .inr (4, [.int (nI a2), .ref rk, .ref rv, .ref ro, .ref rp, .ref rl, .ref rf, .int (nI n2), .int (nI pl2)])), (rk, .inl (cI, a2, .inl hk)), (rv, .inl (cI, a2, .inl hv)), (ro, .inl (cI, a2, .inl ho_)), (ou, .inl (cL, 1, .inr (.inl fo)))] s.heap.size = A at hD ⊢
  have hA : ∀ q : Nat, s.heap.size ≤ q → A q := fun q h => by rw [← hAe]; exact Or.inr h
  have hS : va_S A s.heap s.heap [] := va_S.rf
  have hl := lv_entry ([.ref h0, .int 2, .ref ou]) (n := 4) (Nat.le_of_ble_eq_true rfl)
  rw [lg_entry_eq]
  generalize (lg_sl ([.ref h0, .int 2, .ref ou]) ++ List.replicate (4 - (lg_sl ([.ref h0, .int 2, .ref ou])).length) Slot.unset).toArray = ls at hl ⊢
  have hl : lv_has ls 4 [(0, .ref h0), (1, .int 2), (2, .ref ou)] := hl
  refine lv_aload_n hx hb dL_pair_0 rfl (lv_at hl 2 rfl) ?_
  refine lv_iconst (v := 0) hx hb dL_pair_1 (by decide) ?_
  refine lv_aload_n hx hb dL_pair_2 rfl (lv_at hl 0 rfl) ?_
  refine lv_iload_n hx hb dL_pair_3 rfl (lv_at hl 1 rfl) ?_
  refine vp_callSi (va_Run.run (va_runV (As := [.int 2]) (rest := [.int 0, .ref ou]) ⟨hx, hb, hml, hown, hts⟩ (gJ_pair_02 l D cI cL cQ h0 tl tr cu bk he ma hm kd cc0 p0 p1 p2 p3 p4 p5 p6 a n pl a2 n2 pl2 lk lv lo lp ll lf rk rv ro rp rl rf gk gv go hk hv ho_ (by first | assumption | decide | omega) (by first | assumption | decide | omega) (by first | assumption | decide | omega) (by first | assumption | decide | omega) (by first | assumption | decide | omega) (by first | assumption | decide | omega)) (cwV 1 hts gL_pair_X5_pair rfl rfl rfl (by decide +kernel) ⟨Nat.le_of_ble_eq_true rfl, Nat.le_of_ble_eq_true rfl⟩) (jr_V hK hN hP [0, 1, 2, 3, 4, 5, 6, 7, 8, 9, 10] rfl 5 0 rfl rfl rfl) rfl rfl hl.1 rfl (lv_room (Nat.le_of_ble_eq_true rfl)) dL_pair_4 ⟨Nat.le_of_ble_eq_true rfl, Nat.le_of_ble_eq_true rfl⟩)) (fun r f_1 => ?_)
  obtain ⟨z9, er_2⟩ := f_1
  subst r
  refine lv_i2l (v := z9.toInt64) hx hb dL_pair_7 (by first | rfl | decide) ?_
  refine va_last hx hb hK hP hD hS 11 1 rfl rfl (by unfold vp_in; decide) dL_pair_8 (fun H locs hP hD hS => ?_)
  have hP : va_P D vwCl [(h0, .inr (5, [.ref tl, .ref tr, .ref cu, .ref bk, .int 0])), (cu, .inr (0, [.ref tl, .ref tr, .ref he, .ref ma, .int hm, .int kd, .long cc0])), (he, .inr (2, [.int p0, .int p1, .int p2, .int p3, .int p4, .int p5, .int p6])), (tl, .inr (4, [.int (nI a), .ref lk, .ref lv, .ref lo, .ref lp, .ref ll, .ref lf, .int (nI n), .int (nI pl)])), (lk, .inl (cI, a, .inl gk)), (lv, .inl (cI, a, .inl gv)), (lo, .inl (cI, a, .inl go)), (tr, .inr (4, [.int (nI a2), .ref rk, .ref rv, .ref ro, .ref rp, .ref rl, .ref rf, .int (nI n2), .int (nI pl2)])), (rk, .inl (cI, a2, .inl hk)), (rv, .inl (cI, a2, .inl hv)), (ro, .inl (cI, a2, .inl ho_)), (ou, .inl (cL, 1, .inr (.inl (vp_updL fo (0 : Int32).toNatClampNeg z9.toInt64))))] H := hP
  have hD : va_D A [(h0, .inr (5, [.ref tl, .ref tr, .ref cu, .ref bk, .int 0])), (cu, .inr (0, [.ref tl, .ref tr, .ref he, .ref ma, .int hm, .int kd, .long cc0])), (he, .inr (2, [.int p0, .int p1, .int p2, .int p3, .int p4, .int p5, .int p6])), (tl, .inr (4, [.int (nI a), .ref lk, .ref lv, .ref lo, .ref lp, .ref ll, .ref lf, .int (nI n), .int (nI pl)])), (lk, .inl (cI, a, .inl gk)), (lv, .inl (cI, a, .inl gv)), (lo, .inl (cI, a, .inl go)), (tr, .inr (4, [.int (nI a2), .ref rk, .ref rv, .ref ro, .ref rp, .ref rl, .ref rf, .int (nI n2), .int (nI pl2)])), (rk, .inl (cI, a2, .inl hk)), (rv, .inl (cI, a2, .inl hv)), (ro, .inl (cI, a2, .inl ho_)), (ou, .inl (cL, 1, .inr (.inl (vp_updL fo (0 : Int32).toNatClampNeg z9.toInt64))))] := hD
  refine lv_goto (tgt := 15) hx hb dL_pair_9 (by decide) ?_
  refine lv_iconst (v := 0) hx hb dL_pair_15 (by decide) ?_
  refine W.widen (k := 0) (n := 0) (by omega) (by omega) ?_
  exact W.iret (v := 0) hx hb hr (fun t ht hW => ⟨⟨0, [(h0, .inr (5, [.ref tl, .ref tr, .ref cu, .ref bk, .int 0])), (cu, .inr (0, [.ref tl, .ref tr, .ref he, .ref ma, .int hm, .int kd, .long cc0])), (he, .inr (2, [.int p0, .int p1, .int p2, .int p3, .int p4, .int p5, .int p6])), (tl, .inr (4, [.int (nI a), .ref lk, .ref lv, .ref lo, .ref lp, .ref ll, .ref lf, .int (nI n), .int (nI pl)])), (lk, .inl (cI, a, .inl gk)), (lv, .inl (cI, a, .inl gv)), (lo, .inl (cI, a, .inl go)), (tr, .inr (4, [.int (nI a2), .ref rk, .ref rv, .ref ro, .ref rp, .ref rl, .ref rf, .int (nI n2), .int (nI pl2)])), (rk, .inl (cI, a2, .inl hk)), (rv, .inl (cI, a2, .inl hv)), (ro, .inl (cI, a2, .inl ho_)), (ou, .inl (cL, 1, .inr (.inl (vp_updL fo (0 : Int32).toNatClampNeg z9.toInt64))))], rfl, (⟨_, rfl, rfl⟩), by rw [ht]; exact hP, hD⟩, hS.F ht⟩) hS.2.2 dL_pair_16
set_option maxHeartbeats 1000000 in
set_option maxRecDepth 100000 in
theorem kL_pair_03 (l : Launch) (hnt : l.stackTraces = false) (D : va_G) (cI cL cQ : ClassId) (h0 : Nat) (tl : Nat) (tr : Nat) (cu : Nat) (bk : Nat) (he : Nat) (ma : Nat) (hm : Int32) (kd : Int32) (cc0 : Int64) (p0 : Int32) (p1 : Int32) (p2 : Int32) (p3 : Int32) (p4 : Int32) (p5 : Int32) (p6 : Int32) (a : Nat) (n : Nat) (pl : Nat) (a2 : Nat) (n2 : Nat) (pl2 : Nat) (lk : Nat) (lv : Nat) (lo : Nat) (lp : Nat) (ll : Nat) (lf : Nat) (rk : Nat) (rv : Nat) (ro : Nat) (rp : Nat) (rl : Nat) (rf : Nat) (gk : Nat → Int32) (gv : Nat → Int32) (go : Nat → Int32) (hk : Nat → Int32) (hv : Nat → Int32) (ho_ : Nat → Int32) (ou : Nat) (fo : Nat → Int64) (sz : Nat) (ha : a ≤ 400) (hn : n ≤ a) (hol : jord a go) (ha2 : a2 ≤ 400) (hn2 : n2 ≤ a2) (hor : jord a2 ho_) : Met l yL_pair wsL_pair ({ frames := 3, cells := 0, slots := 0, locals := 65 }) (jh_P D vwCl (jT cI cL cQ) cL cQ [.ref h0, .int 3, .ref ou] [(h0, .inr (5, [.ref tl, .ref tr, .ref cu, .ref bk, .int 0])), (cu, .inr (0, [.ref tl, .ref tr, .ref he, .ref ma, .int hm, .int kd, .long cc0])), (he, .inr (2, [.int p0, .int p1, .int p2, .int p3, .int p4, .int p5, .int p6])), (tl, .inr (4, [.int (nI a), .ref lk, .ref lv, .ref lo, .ref lp, .ref ll, .ref lf, .int (nI n), .int (nI pl)])), (lk, .inl (cI, a, .inl gk)), (lv, .inl (cI, a, .inl gv)), (lo, .inl (cI, a, .inl go)), (tr, .inr (4, [.int (nI a2), .ref rk, .ref rv, .ref ro, .ref rp, .ref rl, .ref rf, .int (nI n2), .int (nI pl2)])), (rk, .inl (cI, a2, .inl hk)), (rv, .inl (cI, a2, .inl hv)), (ro, .inl (cI, a2, .inl ho_)), (ou, .inl (cL, 1, .inr (.inl fo)))] sz) (va_Qi (fun (r : Int32) (u : va_W) => ∃ (fo9 : Nat → Int64), r = 0 ∧ u = [(h0, .inr (5, [.ref tl, .ref tr, .ref cu, .ref bk, .int 0])), (cu, .inr (0, [.ref tl, .ref tr, .ref he, .ref ma, .int hm, .int kd, .long cc0])), (he, .inr (2, [.int p0, .int p1, .int p2, .int p3, .int p4, .int p5, .int p6])), (tl, .inr (4, [.int (nI a), .ref lk, .ref lv, .ref lo, .ref lp, .ref ll, .ref lf, .int (nI n), .int (nI pl)])), (lk, .inl (cI, a, .inl gk)), (lv, .inl (cI, a, .inl gv)), (lo, .inl (cI, a, .inl go)), (tr, .inr (4, [.int (nI a2), .ref rk, .ref rv, .ref ro, .ref rp, .ref rl, .ref rf, .int (nI n2), .int (nI pl2)])), (rk, .inl (cI, a2, .inl hk)), (rv, .inl (cI, a2, .inl hv)), (ro, .inl (cI, a2, .inl ho_)), (ou, .inl (cL, 1, .inr (.inl fo9)))]) (jw_B D vwCl (va_A [(h0, .inr (5, [.ref tl, .ref tr, .ref cu, .ref bk, .int 0])), (cu, .inr (0, [.ref tl, .ref tr, .ref he, .ref ma, .int hm, .int kd, .long cc0])), (he, .inr (2, [.int p0, .int p1, .int p2, .int p3, .int p4, .int p5, .int p6])), (tl, .inr (4, [.int (nI a), .ref lk, .ref lv, .ref lo, .ref lp, .ref ll, .ref lf, .int (nI n), .int (nI pl)])), (lk, .inl (cI, a, .inl gk)), (lv, .inl (cI, a, .inl gv)), (lo, .inl (cI, a, .inl go)), (tr, .inr (4, [.int (nI a2), .ref rk, .ref rv, .ref ro, .ref rp, .ref rl, .ref rf, .int (nI n2), .int (nI pl2)])), (rk, .inl (cI, a2, .inl hk)), (rv, .inl (cI, a2, .inl hv)), (ro, .inl (cI, a2, .inl ho_)), (ou, .inl (cL, 1, .inr (.inl fo)))] sz) (fun u : va_W => u)) (va_A [(h0, .inr (5, [.ref tl, .ref tr, .ref cu, .ref bk, .int 0])), (cu, .inr (0, [.ref tl, .ref tr, .ref he, .ref ma, .int hm, .int kd, .long cc0])), (he, .inr (2, [.int p0, .int p1, .int p2, .int p3, .int p4, .int p5, .int p6])), (tl, .inr (4, [.int (nI a), .ref lk, .ref lv, .ref lo, .ref lp, .ref ll, .ref lf, .int (nI n), .int (nI pl)])), (lk, .inl (cI, a, .inl gk)), (lv, .inl (cI, a, .inl gv)), (lo, .inl (cI, a, .inl go)), (tr, .inr (4, [.int (nI a2), .ref rk, .ref rv, .ref ro, .ref rp, .ref rl, .ref rf, .int (nI n2), .int (nI pl2)])), (rk, .inl (cI, a2, .inl hk)), (rv, .inl (cI, a2, .inl hv)), (ro, .inl (cI, a2, .inl ho_)), (ou, .inl (cL, 1, .inr (.inl fo)))] sz)) 0 0 (va_A [(h0, .inr (5, [.ref tl, .ref tr, .ref cu, .ref bk, .int 0])), (cu, .inr (0, [.ref tl, .ref tr, .ref he, .ref ma, .int hm, .int kd, .long cc0])), (he, .inr (2, [.int p0, .int p1, .int p2, .int p3, .int p4, .int p5, .int p6])), (tl, .inr (4, [.int (nI a), .ref lk, .ref lv, .ref lo, .ref lp, .ref ll, .ref lf, .int (nI n), .int (nI pl)])), (lk, .inl (cI, a, .inl gk)), (lv, .inl (cI, a, .inl gv)), (lo, .inl (cI, a, .inl go)), (tr, .inr (4, [.int (nI a2), .ref rk, .ref rv, .ref ro, .ref rp, .ref rl, .ref rf, .int (nI n2), .int (nI pl2)])), (rk, .inl (cI, a2, .inl hk)), (rv, .inl (cI, a2, .inl hv)), (ro, .inl (cI, a2, .inl ho_)), (ou, .inl (cL, 1, .inr (.inl fo)))] sz) := by
  refine va_MetW (hh := [(0, 9, 12, 19)]) (cc := cL_pair) (maxL := 4) (ret := (some .int)) (by decide) rfl ?_
  intro p e s m args below meth c s₁ B hml hv
  obtain ⟨rfl, hsz, hP, hK, hN, hD0, hZ⟩ := hv
  have hx := B.exec
  have hb := B.bytes
  have hr := B.returns
  have hts := atoms_spec (ws := wsL_pair) B.pre
  have hown : s.vm.findClass RL = some m.cls := findClass_of_methodNamed B.named
  have hlocks := B.notSynchronized
  subst hsz
  have hD := hD0.self (sz := s.heap.size)
  generalize hAe : va_A [(h0, .inr (5, [.ref tl, .ref tr, .ref cu, .ref bk, .int 0])), (cu, .inr (0, [.ref tl, .ref tr, .ref he, .ref ma, .int hm, .int kd, .long cc0])), (he, .inr (2, [.int p0, .int p1, .int p2, .int p3, .int p4, .int p5, .int p6])), (tl, .inr (4, [.int (nI a), .ref lk, .ref lv, .ref lo, .ref lp, .ref ll, .ref lf, .int (nI n), .int (nI pl)])), (lk, .inl (cI, a, .inl gk)), (lv, .inl (cI, a, .inl gv)), (lo, .inl (cI, a, .inl go)), (tr, .inr (4, [.int (nI a2), .ref rk, .ref rv, .ref ro, .ref rp, .ref rl, .ref rf, .int (nI n2), .int (nI pl2)])), (rk, .inl (cI, a2, .inl hk)), (rv, .inl (cI, a2, .inl hv)), (ro, .inl (cI, a2, .inl ho_)), (ou, .inl (cL, 1, .inr (.inl fo)))] s.heap.size = A at hD ⊢
  have hA : ∀ q : Nat, s.heap.size ≤ q → A q := fun q h => by rw [← hAe]; exact Or.inr h
  have hS : va_S A s.heap s.heap [] := va_S.rf
  have hl := lv_entry ([.ref h0, .int 3, .ref ou]) (n := 4) (Nat.le_of_ble_eq_true rfl)
  rw [lg_entry_eq]
  generalize (lg_sl ([.ref h0, .int 3, .ref ou]) ++ List.replicate (4 - (lg_sl ([.ref h0, .int 3, .ref ou])).length) Slot.unset).toArray = ls at hl ⊢
  have hl : lv_has ls 4 [(0, .ref h0), (1, .int 3), (2, .ref ou)] := hl
  refine lv_aload_n hx hb dL_pair_0 rfl (lv_at hl 2 rfl) ?_
  refine lv_iconst (v := 0) hx hb dL_pair_1 (by decide) ?_
  refine lv_aload_n hx hb dL_pair_2 rfl (lv_at hl 0 rfl) ?_
  refine lv_iload_n hx hb dL_pair_3 rfl (lv_at hl 1 rfl) ?_
  refine vp_callSi (va_Run.run (va_runV (As := [.int 3]) (rest := [.int 0, .ref ou]) ⟨hx, hb, hml, hown, hts⟩ (gJ_pair_03 l D cI cL cQ h0 tl tr cu bk he ma hm kd cc0 p0 p1 p2 p3 p4 p5 p6 a n pl a2 n2 pl2 lk lv lo lp ll lf rk rv ro rp rl rf gk gv go hk hv ho_ (by first | assumption | decide | omega) (by first | assumption | decide | omega) (by first | assumption | decide | omega) (by first | assumption | decide | omega) (by first | assumption | decide | omega) (by first | assumption | decide | omega)) (cwV 1 hts gL_pair_X5_pair rfl rfl rfl (by decide +kernel) ⟨Nat.le_of_ble_eq_true rfl, Nat.le_of_ble_eq_true rfl⟩) (jr_V hK hN hP [0, 1, 2, 3, 4, 5, 6, 7, 8, 9, 10] rfl 5 0 rfl rfl rfl) rfl rfl hl.1 rfl (lv_room (Nat.le_of_ble_eq_true rfl)) dL_pair_4 ⟨Nat.le_of_ble_eq_true rfl, Nat.le_of_ble_eq_true rfl⟩)) (fun r f_1 => ?_)
  obtain ⟨z9, er_2⟩ := f_1
  subst r
  refine lv_i2l (v := z9.toInt64) hx hb dL_pair_7 (by first | rfl | decide) ?_
  refine va_last hx hb hK hP hD hS 11 1 rfl rfl (by unfold vp_in; decide) dL_pair_8 (fun H locs hP hD hS => ?_)
  have hP : va_P D vwCl [(h0, .inr (5, [.ref tl, .ref tr, .ref cu, .ref bk, .int 0])), (cu, .inr (0, [.ref tl, .ref tr, .ref he, .ref ma, .int hm, .int kd, .long cc0])), (he, .inr (2, [.int p0, .int p1, .int p2, .int p3, .int p4, .int p5, .int p6])), (tl, .inr (4, [.int (nI a), .ref lk, .ref lv, .ref lo, .ref lp, .ref ll, .ref lf, .int (nI n), .int (nI pl)])), (lk, .inl (cI, a, .inl gk)), (lv, .inl (cI, a, .inl gv)), (lo, .inl (cI, a, .inl go)), (tr, .inr (4, [.int (nI a2), .ref rk, .ref rv, .ref ro, .ref rp, .ref rl, .ref rf, .int (nI n2), .int (nI pl2)])), (rk, .inl (cI, a2, .inl hk)), (rv, .inl (cI, a2, .inl hv)), (ro, .inl (cI, a2, .inl ho_)), (ou, .inl (cL, 1, .inr (.inl (vp_updL fo (0 : Int32).toNatClampNeg z9.toInt64))))] H := hP
  have hD : va_D A [(h0, .inr (5, [.ref tl, .ref tr, .ref cu, .ref bk, .int 0])), (cu, .inr (0, [.ref tl, .ref tr, .ref he, .ref ma, .int hm, .int kd, .long cc0])), (he, .inr (2, [.int p0, .int p1, .int p2, .int p3, .int p4, .int p5, .int p6])), (tl, .inr (4, [.int (nI a), .ref lk, .ref lv, .ref lo, .ref lp, .ref ll, .ref lf, .int (nI n), .int (nI pl)])), (lk, .inl (cI, a, .inl gk)), (lv, .inl (cI, a, .inl gv)), (lo, .inl (cI, a, .inl go)), (tr, .inr (4, [.int (nI a2), .ref rk, .ref rv, .ref ro, .ref rp, .ref rl, .ref rf, .int (nI n2), .int (nI pl2)])), (rk, .inl (cI, a2, .inl hk)), (rv, .inl (cI, a2, .inl hv)), (ro, .inl (cI, a2, .inl ho_)), (ou, .inl (cL, 1, .inr (.inl (vp_updL fo (0 : Int32).toNatClampNeg z9.toInt64))))] := hD
  refine lv_goto (tgt := 15) hx hb dL_pair_9 (by decide) ?_
  refine lv_iconst (v := 0) hx hb dL_pair_15 (by decide) ?_
  refine W.widen (k := 0) (n := 0) (by omega) (by omega) ?_
  exact W.iret (v := 0) hx hb hr (fun t ht hW => ⟨⟨0, [(h0, .inr (5, [.ref tl, .ref tr, .ref cu, .ref bk, .int 0])), (cu, .inr (0, [.ref tl, .ref tr, .ref he, .ref ma, .int hm, .int kd, .long cc0])), (he, .inr (2, [.int p0, .int p1, .int p2, .int p3, .int p4, .int p5, .int p6])), (tl, .inr (4, [.int (nI a), .ref lk, .ref lv, .ref lo, .ref lp, .ref ll, .ref lf, .int (nI n), .int (nI pl)])), (lk, .inl (cI, a, .inl gk)), (lv, .inl (cI, a, .inl gv)), (lo, .inl (cI, a, .inl go)), (tr, .inr (4, [.int (nI a2), .ref rk, .ref rv, .ref ro, .ref rp, .ref rl, .ref rf, .int (nI n2), .int (nI pl2)])), (rk, .inl (cI, a2, .inl hk)), (rv, .inl (cI, a2, .inl hv)), (ro, .inl (cI, a2, .inl ho_)), (ou, .inl (cL, 1, .inr (.inl (vp_updL fo (0 : Int32).toNatClampNeg z9.toInt64))))], rfl, (⟨_, rfl, rfl⟩), by rw [ht]; exact hP, hD⟩, hS.F ht⟩) hS.2.2 dL_pair_16
set_option maxHeartbeats 1000000 in
set_option maxRecDepth 100000 in
theorem kL_pair_04 (l : Launch) (hnt : l.stackTraces = false) (D : va_G) (cI cL cQ : ClassId) (h0 : Nat) (tl : Nat) (tr : Nat) (cu : Nat) (bk : Nat) (he : Nat) (ma : Nat) (hm : Int32) (kd : Int32) (cc0 : Int64) (p0 : Int32) (p1 : Int32) (p2 : Int32) (p3 : Int32) (p4 : Int32) (p5 : Int32) (p6 : Int32) (a : Nat) (n : Nat) (pl : Nat) (a2 : Nat) (n2 : Nat) (pl2 : Nat) (lk : Nat) (lv : Nat) (lo : Nat) (lp : Nat) (ll : Nat) (lf : Nat) (rk : Nat) (rv : Nat) (ro : Nat) (rp : Nat) (rl : Nat) (rf : Nat) (gk : Nat → Int32) (gv : Nat → Int32) (go : Nat → Int32) (hk : Nat → Int32) (hv : Nat → Int32) (ho_ : Nat → Int32) (ou : Nat) (fo : Nat → Int64) (sz : Nat) (ha : a ≤ 400) (hn : n ≤ a) (hol : jord a go) (ha2 : a2 ≤ 400) (hn2 : n2 ≤ a2) (hor : jord a2 ho_) : Met l yL_pair wsL_pair ({ frames := 3, cells := 0, slots := 0, locals := 65 }) (jh_P D vwCl (jT cI cL cQ) cL cQ [.ref h0, .int 4, .ref ou] [(h0, .inr (5, [.ref tl, .ref tr, .ref cu, .ref bk, .int 0])), (cu, .inr (0, [.ref tl, .ref tr, .ref he, .ref ma, .int hm, .int kd, .long cc0])), (he, .inr (2, [.int p0, .int p1, .int p2, .int p3, .int p4, .int p5, .int p6])), (tl, .inr (4, [.int (nI a), .ref lk, .ref lv, .ref lo, .ref lp, .ref ll, .ref lf, .int (nI n), .int (nI pl)])), (lk, .inl (cI, a, .inl gk)), (lv, .inl (cI, a, .inl gv)), (lo, .inl (cI, a, .inl go)), (tr, .inr (4, [.int (nI a2), .ref rk, .ref rv, .ref ro, .ref rp, .ref rl, .ref rf, .int (nI n2), .int (nI pl2)])), (rk, .inl (cI, a2, .inl hk)), (rv, .inl (cI, a2, .inl hv)), (ro, .inl (cI, a2, .inl ho_)), (ou, .inl (cL, 1, .inr (.inl fo)))] sz) (va_Qi (fun (r : Int32) (u : va_W) => ∃ (fo9 : Nat → Int64), r = 0 ∧ u = [(h0, .inr (5, [.ref tl, .ref tr, .ref cu, .ref bk, .int 0])), (cu, .inr (0, [.ref tl, .ref tr, .ref he, .ref ma, .int hm, .int kd, .long cc0])), (he, .inr (2, [.int p0, .int p1, .int p2, .int p3, .int p4, .int p5, .int p6])), (tl, .inr (4, [.int (nI a), .ref lk, .ref lv, .ref lo, .ref lp, .ref ll, .ref lf, .int (nI n), .int (nI pl)])), (lk, .inl (cI, a, .inl gk)), (lv, .inl (cI, a, .inl gv)), (lo, .inl (cI, a, .inl go)), (tr, .inr (4, [.int (nI a2), .ref rk, .ref rv, .ref ro, .ref rp, .ref rl, .ref rf, .int (nI n2), .int (nI pl2)])), (rk, .inl (cI, a2, .inl hk)), (rv, .inl (cI, a2, .inl hv)), (ro, .inl (cI, a2, .inl ho_)), (ou, .inl (cL, 1, .inr (.inl fo9)))]) (jw_B D vwCl (va_A [(h0, .inr (5, [.ref tl, .ref tr, .ref cu, .ref bk, .int 0])), (cu, .inr (0, [.ref tl, .ref tr, .ref he, .ref ma, .int hm, .int kd, .long cc0])), (he, .inr (2, [.int p0, .int p1, .int p2, .int p3, .int p4, .int p5, .int p6])), (tl, .inr (4, [.int (nI a), .ref lk, .ref lv, .ref lo, .ref lp, .ref ll, .ref lf, .int (nI n), .int (nI pl)])), (lk, .inl (cI, a, .inl gk)), (lv, .inl (cI, a, .inl gv)), (lo, .inl (cI, a, .inl go)), (tr, .inr (4, [.int (nI a2), .ref rk, .ref rv, .ref ro, .ref rp, .ref rl, .ref rf, .int (nI n2), .int (nI pl2)])), (rk, .inl (cI, a2, .inl hk)), (rv, .inl (cI, a2, .inl hv)), (ro, .inl (cI, a2, .inl ho_)), (ou, .inl (cL, 1, .inr (.inl fo)))] sz) (fun u : va_W => u)) (va_A [(h0, .inr (5, [.ref tl, .ref tr, .ref cu, .ref bk, .int 0])), (cu, .inr (0, [.ref tl, .ref tr, .ref he, .ref ma, .int hm, .int kd, .long cc0])), (he, .inr (2, [.int p0, .int p1, .int p2, .int p3, .int p4, .int p5, .int p6])), (tl, .inr (4, [.int (nI a), .ref lk, .ref lv, .ref lo, .ref lp, .ref ll, .ref lf, .int (nI n), .int (nI pl)])), (lk, .inl (cI, a, .inl gk)), (lv, .inl (cI, a, .inl gv)), (lo, .inl (cI, a, .inl go)), (tr, .inr (4, [.int (nI a2), .ref rk, .ref rv, .ref ro, .ref rp, .ref rl, .ref rf, .int (nI n2), .int (nI pl2)])), (rk, .inl (cI, a2, .inl hk)), (rv, .inl (cI, a2, .inl hv)), (ro, .inl (cI, a2, .inl ho_)), (ou, .inl (cL, 1, .inr (.inl fo)))] sz)) 0 0 (va_A [(h0, .inr (5, [.ref tl, .ref tr, .ref cu, .ref bk, .int 0])), (cu, .inr (0, [.ref tl, .ref tr, .ref he, .ref ma, .int hm, .int kd, .long cc0])), (he, .inr (2, [.int p0, .int p1, .int p2, .int p3, .int p4, .int p5, .int p6])), (tl, .inr (4, [.int (nI a), .ref lk, .ref lv, .ref lo, .ref lp, .ref ll, .ref lf, .int (nI n), .int (nI pl)])), (lk, .inl (cI, a, .inl gk)), (lv, .inl (cI, a, .inl gv)), (lo, .inl (cI, a, .inl go)), (tr, .inr (4, [.int (nI a2), .ref rk, .ref rv, .ref ro, .ref rp, .ref rl, .ref rf, .int (nI n2), .int (nI pl2)])), (rk, .inl (cI, a2, .inl hk)), (rv, .inl (cI, a2, .inl hv)), (ro, .inl (cI, a2, .inl ho_)), (ou, .inl (cL, 1, .inr (.inl fo)))] sz) := by
  refine va_MetW (hh := [(0, 9, 12, 19)]) (cc := cL_pair) (maxL := 4) (ret := (some .int)) (by decide) rfl ?_
  intro p e s m args below meth c s₁ B hml hv
  obtain ⟨rfl, hsz, hP, hK, hN, hD0, hZ⟩ := hv
  have hx := B.exec
  have hb := B.bytes
  have hr := B.returns
  have hts := atoms_spec (ws := wsL_pair) B.pre
  have hown : s.vm.findClass RL = some m.cls := findClass_of_methodNamed B.named
  have hlocks := B.notSynchronized
  subst hsz
  have hD := hD0.self (sz := s.heap.size)
  generalize hAe : va_A [(h0, .inr (5, [.ref tl, .ref tr, .ref cu, .ref bk, .int 0])), (cu, .inr (0, [.ref tl, .ref tr, .ref he, .ref ma, .int hm, .int kd, .long cc0])), (he, .inr (2, [.int p0, .int p1, .int p2, .int p3, .int p4, .int p5, .int p6])), (tl, .inr (4, [.int (nI a), .ref lk, .ref lv, .ref lo, .ref lp, .ref ll, .ref lf, .int (nI n), .int (nI pl)])), (lk, .inl (cI, a, .inl gk)), (lv, .inl (cI, a, .inl gv)), (lo, .inl (cI, a, .inl go)), (tr, .inr (4, [.int (nI a2), .ref rk, .ref rv, .ref ro, .ref rp, .ref rl, .ref rf, .int (nI n2), .int (nI pl2)])), (rk, .inl (cI, a2, .inl hk)), (rv, .inl (cI, a2, .inl hv)), (ro, .inl (cI, a2, .inl ho_)), (ou, .inl (cL, 1, .inr (.inl fo)))] s.heap.size = A at hD ⊢
  have hA : ∀ q : Nat, s.heap.size ≤ q → A q := fun q h => by rw [← hAe]; exact Or.inr h
  have hS : va_S A s.heap s.heap [] := va_S.rf
  have hl := lv_entry ([.ref h0, .int 4, .ref ou]) (n := 4) (Nat.le_of_ble_eq_true rfl)
  rw [lg_entry_eq]
  generalize (lg_sl ([.ref h0, .int 4, .ref ou]) ++ List.replicate (4 - (lg_sl ([.ref h0, .int 4, .ref ou])).length) Slot.unset).toArray = ls at hl ⊢
  have hl : lv_has ls 4 [(0, .ref h0), (1, .int 4), (2, .ref ou)] := hl
  refine lv_aload_n hx hb dL_pair_0 rfl (lv_at hl 2 rfl) ?_
  refine lv_iconst (v := 0) hx hb dL_pair_1 (by decide) ?_
  refine lv_aload_n hx hb dL_pair_2 rfl (lv_at hl 0 rfl) ?_
  refine lv_iload_n hx hb dL_pair_3 rfl (lv_at hl 1 rfl) ?_
  refine vp_callSi (va_Run.run (va_runV (As := [.int 4]) (rest := [.int 0, .ref ou]) ⟨hx, hb, hml, hown, hts⟩ (gJ_pair_04 l D cI cL cQ h0 tl tr cu bk he ma hm kd cc0 p0 p1 p2 p3 p4 p5 p6 a n pl a2 n2 pl2 lk lv lo lp ll lf rk rv ro rp rl rf gk gv go hk hv ho_ (by first | assumption | decide | omega) (by first | assumption | decide | omega) (by first | assumption | decide | omega) (by first | assumption | decide | omega) (by first | assumption | decide | omega) (by first | assumption | decide | omega)) (cwV 1 hts gL_pair_X5_pair rfl rfl rfl (by decide +kernel) ⟨Nat.le_of_ble_eq_true rfl, Nat.le_of_ble_eq_true rfl⟩) (jr_V hK hN hP [0, 1, 2, 3, 4, 5, 6, 7, 8, 9, 10] rfl 5 0 rfl rfl rfl) rfl rfl hl.1 rfl (lv_room (Nat.le_of_ble_eq_true rfl)) dL_pair_4 ⟨Nat.le_of_ble_eq_true rfl, Nat.le_of_ble_eq_true rfl⟩)) (fun r f_1 => ?_)
  obtain ⟨z9, er_2⟩ := f_1
  subst r
  refine lv_i2l (v := z9.toInt64) hx hb dL_pair_7 (by first | rfl | decide) ?_
  refine va_last hx hb hK hP hD hS 11 1 rfl rfl (by unfold vp_in; decide) dL_pair_8 (fun H locs hP hD hS => ?_)
  have hP : va_P D vwCl [(h0, .inr (5, [.ref tl, .ref tr, .ref cu, .ref bk, .int 0])), (cu, .inr (0, [.ref tl, .ref tr, .ref he, .ref ma, .int hm, .int kd, .long cc0])), (he, .inr (2, [.int p0, .int p1, .int p2, .int p3, .int p4, .int p5, .int p6])), (tl, .inr (4, [.int (nI a), .ref lk, .ref lv, .ref lo, .ref lp, .ref ll, .ref lf, .int (nI n), .int (nI pl)])), (lk, .inl (cI, a, .inl gk)), (lv, .inl (cI, a, .inl gv)), (lo, .inl (cI, a, .inl go)), (tr, .inr (4, [.int (nI a2), .ref rk, .ref rv, .ref ro, .ref rp, .ref rl, .ref rf, .int (nI n2), .int (nI pl2)])), (rk, .inl (cI, a2, .inl hk)), (rv, .inl (cI, a2, .inl hv)), (ro, .inl (cI, a2, .inl ho_)), (ou, .inl (cL, 1, .inr (.inl (vp_updL fo (0 : Int32).toNatClampNeg z9.toInt64))))] H := hP
  have hD : va_D A [(h0, .inr (5, [.ref tl, .ref tr, .ref cu, .ref bk, .int 0])), (cu, .inr (0, [.ref tl, .ref tr, .ref he, .ref ma, .int hm, .int kd, .long cc0])), (he, .inr (2, [.int p0, .int p1, .int p2, .int p3, .int p4, .int p5, .int p6])), (tl, .inr (4, [.int (nI a), .ref lk, .ref lv, .ref lo, .ref lp, .ref ll, .ref lf, .int (nI n), .int (nI pl)])), (lk, .inl (cI, a, .inl gk)), (lv, .inl (cI, a, .inl gv)), (lo, .inl (cI, a, .inl go)), (tr, .inr (4, [.int (nI a2), .ref rk, .ref rv, .ref ro, .ref rp, .ref rl, .ref rf, .int (nI n2), .int (nI pl2)])), (rk, .inl (cI, a2, .inl hk)), (rv, .inl (cI, a2, .inl hv)), (ro, .inl (cI, a2, .inl ho_)), (ou, .inl (cL, 1, .inr (.inl (vp_updL fo (0 : Int32).toNatClampNeg z9.toInt64))))] := hD
  refine lv_goto (tgt := 15) hx hb dL_pair_9 (by decide) ?_
  refine lv_iconst (v := 0) hx hb dL_pair_15 (by decide) ?_
  refine W.widen (k := 0) (n := 0) (by omega) (by omega) ?_
  exact W.iret (v := 0) hx hb hr (fun t ht hW => ⟨⟨0, [(h0, .inr (5, [.ref tl, .ref tr, .ref cu, .ref bk, .int 0])), (cu, .inr (0, [.ref tl, .ref tr, .ref he, .ref ma, .int hm, .int kd, .long cc0])), (he, .inr (2, [.int p0, .int p1, .int p2, .int p3, .int p4, .int p5, .int p6])), (tl, .inr (4, [.int (nI a), .ref lk, .ref lv, .ref lo, .ref lp, .ref ll, .ref lf, .int (nI n), .int (nI pl)])), (lk, .inl (cI, a, .inl gk)), (lv, .inl (cI, a, .inl gv)), (lo, .inl (cI, a, .inl go)), (tr, .inr (4, [.int (nI a2), .ref rk, .ref rv, .ref ro, .ref rp, .ref rl, .ref rf, .int (nI n2), .int (nI pl2)])), (rk, .inl (cI, a2, .inl hk)), (rv, .inl (cI, a2, .inl hv)), (ro, .inl (cI, a2, .inl ho_)), (ou, .inl (cL, 1, .inr (.inl (vp_updL fo (0 : Int32).toNatClampNeg z9.toInt64))))], rfl, (⟨_, rfl, rfl⟩), by rw [ht]; exact hP, hD⟩, hS.F ht⟩) hS.2.2 dL_pair_16
set_option maxHeartbeats 1000000 in
set_option maxRecDepth 100000 in
theorem kL_about_t (l : Launch) (hnt : l.stackTraces = false) (D : va_G) (cI cL cQ : ClassId) (h0 : Nat) (tl : Nat) (tr : Nat) (cu : Nat) (bk : Nat) (pr : Int32) (x : Int32) (ou : Nat) (fo : Nat → Int64) (sz : Nat) (h1 : x < 0 ∨ 5 ≤ x) : Met l yL_about wsL_about ({ frames := 8, cells := 1, slots := 6, locals := 123 }) (jh_P D vwCl (jT cI cL cQ) cL cQ [.ref h0, .int x, .ref ou] [(h0, .inr (5, [.ref tl, .ref tr, .ref cu, .ref bk, .int pr])), (ou, .inl (cL, 1, .inr (.inl fo)))] sz) (va_Qi (fun (r : Int32) (u : va_W) => r = 1 ∧ u = [(h0, .inr (5, [.ref tl, .ref tr, .ref cu, .ref bk, .int pr])), (ou, .inl (cL, 1, .inr (.inl fo)))]) (jw_B D vwCl (va_A [(h0, .inr (5, [.ref tl, .ref tr, .ref cu, .ref bk, .int pr])), (ou, .inl (cL, 1, .inr (.inl fo)))] sz) (fun u : va_W => u)) (va_A [(h0, .inr (5, [.ref tl, .ref tr, .ref cu, .ref bk, .int pr])), (ou, .inl (cL, 1, .inr (.inl fo)))] sz)) 1 6 (va_A [(h0, .inr (5, [.ref tl, .ref tr, .ref cu, .ref bk, .int pr])), (ou, .inl (cL, 1, .inr (.inl fo)))] sz) := by
  refine va_MetW (hh := [(0, 8, 11, 19)]) (cc := cL_about) (maxL := 4) (ret := (some .int)) (by decide) rfl ?_
  intro p e s m args below meth c s₁ B hml hv
  obtain ⟨rfl, hsz, hP, hK, hN, hD0, hZ⟩ := hv
  have hx := B.exec
  have hb := B.bytes
  have hr := B.returns
  have hts := atoms_spec (ws := wsL_about) B.pre
  have hown : s.vm.findClass RL = some m.cls := findClass_of_methodNamed B.named
  have hlocks := B.notSynchronized
  subst hsz
  have hD := hD0.self (sz := s.heap.size)
  generalize hAe : va_A [(h0, .inr (5, [.ref tl, .ref tr, .ref cu, .ref bk, .int pr])), (ou, .inl (cL, 1, .inr (.inl fo)))] s.heap.size = A at hD ⊢
  have hA : ∀ q : Nat, s.heap.size ≤ q → A q := fun q h => by rw [← hAe]; exact Or.inr h
  have hS : va_S A s.heap s.heap [] := va_S.rf
  have hl := lv_entry ([.ref h0, .int x, .ref ou]) (n := 4) (Nat.le_of_ble_eq_true rfl)
  rw [lg_entry_eq]
  generalize (lg_sl ([.ref h0, .int x, .ref ou]) ++ List.replicate (4 - (lg_sl ([.ref h0, .int x, .ref ou])).length) Slot.unset).toArray = ls at hl ⊢
  have hl : lv_has ls 4 [(0, .ref h0), (1, .int x), (2, .ref ou)] := hl
  refine lv_aload_n hx hb dL_about_0 rfl (lv_at hl 2 rfl) ?_
  refine lv_iconst (v := 0) hx hb dL_about_1 (by decide) ?_
  refine lv_aload_n hx hb dL_about_2 rfl (lv_at hl 0 rfl) ?_
  refine lv_iload_n hx hb dL_about_3 rfl (lv_at hl 1 rfl) ?_
  refine jx_thr (vx_runV (As := [.int x]) (rest := [.int 0, .ref ou]) ⟨hx, hb, hml, hown, hts⟩ (gJ_about_t l hnt D cI cL cQ h0 tl tr cu bk pr x (by first | assumption | decide | omega)) (cwV 1 hts gL_about_X5_about rfl rfl rfl (by decide +kernel) ⟨Nat.le_of_ble_eq_true rfl, Nat.le_of_ble_eq_true rfl⟩) (jt_V hK hN hZ hP [0] rfl 5 0 rfl rfl rfl) rfl rfl hl.1 rfl (lv_room (Nat.le_of_ble_eq_true rfl)) dL_about_4 ⟨Nat.le_of_ble_eq_true rfl, Nat.le_of_ble_eq_true rfl⟩) (fun ce q9 H1 hz hk hce hcv hcl => ?_)
  have hP : va_P D vwCl [(h0, .inr (5, [.ref tl, .ref tr, .ref cu, .ref bk, .int pr])), (ou, .inl (cL, 1, .inr (.inl fo)))] H1 := hP.kept (fun k x hx => hk x.1 (hP k x hx).lt)
  have hS : va_S A s.heap H1 [] := ⟨hz, fun q h1 _ => hk q h1, fun _ h => nomatch h⟩
  generalize H1 = H at hP hS hce ⊢
  have htab : c.exceptionTable.toList = [⟨0, 8, 11, 19⟩] := vx_table (x := yL_about) B (hts _ List.mem_cons_self)
  refine jc_first (name := "") hown ⟨0, 8, 11, 19⟩ [] htab (by decide) (by decide) (hts (.classLink RL 19 "java/lang/IllegalArgumentException") (by decide +kernel)) hce hcv hcl ?_
  refine W.eq (g2 := F0 m 11 ls [.ref q9]) rfl ?_
  refine W.widen (k := 1) (n := 6) (by omega) (by omega) ?_
  refine lv_astore_n (lv' := [(3, .ref q9), (0, .ref h0), (1, .int x), (2, .ref ou)]) hx hb dL_about_11 rfl hl (by decide) rfl (fun ls hl => ?_)
  refine lv_iconst (v := 1) hx hb dL_about_12 (by decide) ?_
  refine W.widen (k := 1) (n := 6) (by omega) (by omega) ?_
  exact W.iret (v := 1) hx hb hr (fun t ht hW => ⟨⟨1, [(h0, .inr (5, [.ref tl, .ref tr, .ref cu, .ref bk, .int pr])), (ou, .inl (cL, 1, .inr (.inl fo)))], rfl, (by exact ⟨rfl, rfl⟩), by rw [ht]; exact hP, hD⟩, hS.F ht⟩) hS.2.2 dL_about_13
set_option maxHeartbeats 1000000 in
set_option maxRecDepth 100000 in
theorem kL_about_0 (l : Launch) (hnt : l.stackTraces = false) (D : va_G) (cI cL cQ : ClassId) (h0 : Nat) (tl : Nat) (tr : Nat) (cu : Nat) (bk : Nat) (he : Nat) (ma : Nat) (hm : Int32) (kd : Int32) (cc0 : Int64) (a : Nat) (n : Nat) (pl : Nat) (a2 : Nat) (n2 : Nat) (pl2 : Nat) (lk : Nat) (lv : Nat) (lo : Nat) (lp : Nat) (ll : Nat) (lf : Nat) (rk : Nat) (rv : Nat) (ro : Nat) (rp : Nat) (rl : Nat) (rf : Nat) (pr : Int32) (ou : Nat) (fo : Nat → Int64) (sz : Nat) : Met l yL_about wsL_about ({ frames := 2, cells := 0, slots := 0, locals := 42 }) (jh_P D vwCl (jT cI cL cQ) cL cQ [.ref h0, .int 0, .ref ou] [(h0, .inr (5, [.ref tl, .ref tr, .ref cu, .ref bk, .int pr])), (tl, .inr (4, [.int (nI a), .ref lk, .ref lv, .ref lo, .ref lp, .ref ll, .ref lf, .int (nI n), .int (nI pl)])), (tr, .inr (4, [.int (nI a2), .ref rk, .ref rv, .ref ro, .ref rp, .ref rl, .ref rf, .int (nI n2), .int (nI pl2)])), (cu, .inr (0, [.ref tl, .ref tr, .ref he, .ref ma, .int hm, .int kd, .long cc0])), (ou, .inl (cL, 1, .inr (.inl fo)))] sz) (va_Qi (fun (r : Int32) (u : va_W) => ∃ (fo9 : Nat → Int64), r = 0 ∧ u = [(h0, .inr (5, [.ref tl, .ref tr, .ref cu, .ref bk, .int pr])), (tl, .inr (4, [.int (nI a), .ref lk, .ref lv, .ref lo, .ref lp, .ref ll, .ref lf, .int (nI n), .int (nI pl)])), (tr, .inr (4, [.int (nI a2), .ref rk, .ref rv, .ref ro, .ref rp, .ref rl, .ref rf, .int (nI n2), .int (nI pl2)])), (cu, .inr (0, [.ref tl, .ref tr, .ref he, .ref ma, .int hm, .int kd, .long cc0])), (ou, .inl (cL, 1, .inr (.inl fo9)))]) (jw_B D vwCl (va_A [(h0, .inr (5, [.ref tl, .ref tr, .ref cu, .ref bk, .int pr])), (tl, .inr (4, [.int (nI a), .ref lk, .ref lv, .ref lo, .ref lp, .ref ll, .ref lf, .int (nI n), .int (nI pl)])), (tr, .inr (4, [.int (nI a2), .ref rk, .ref rv, .ref ro, .ref rp, .ref rl, .ref rf, .int (nI n2), .int (nI pl2)])), (cu, .inr (0, [.ref tl, .ref tr, .ref he, .ref ma, .int hm, .int kd, .long cc0])), (ou, .inl (cL, 1, .inr (.inl fo)))] sz) (fun u : va_W => u)) (va_A [(h0, .inr (5, [.ref tl, .ref tr, .ref cu, .ref bk, .int pr])), (tl, .inr (4, [.int (nI a), .ref lk, .ref lv, .ref lo, .ref lp, .ref ll, .ref lf, .int (nI n), .int (nI pl)])), (tr, .inr (4, [.int (nI a2), .ref rk, .ref rv, .ref ro, .ref rp, .ref rl, .ref rf, .int (nI n2), .int (nI pl2)])), (cu, .inr (0, [.ref tl, .ref tr, .ref he, .ref ma, .int hm, .int kd, .long cc0])), (ou, .inl (cL, 1, .inr (.inl fo)))] sz)) 0 0 (va_A [(h0, .inr (5, [.ref tl, .ref tr, .ref cu, .ref bk, .int pr])), (tl, .inr (4, [.int (nI a), .ref lk, .ref lv, .ref lo, .ref lp, .ref ll, .ref lf, .int (nI n), .int (nI pl)])), (tr, .inr (4, [.int (nI a2), .ref rk, .ref rv, .ref ro, .ref rp, .ref rl, .ref rf, .int (nI n2), .int (nI pl2)])), (cu, .inr (0, [.ref tl, .ref tr, .ref he, .ref ma, .int hm, .int kd, .long cc0])), (ou, .inl (cL, 1, .inr (.inl fo)))] sz) := by
  refine va_MetW (hh := [(0, 8, 11, 19)]) (cc := cL_about) (maxL := 4) (ret := (some .int)) (by decide) rfl ?_
  intro p e s m args below meth c s₁ B hml hv
  obtain ⟨rfl, hsz, hP, hK, hN, hD0, hZ⟩ := hv
  have hx := B.exec
  have hb := B.bytes
  have hr := B.returns
  have hts := atoms_spec (ws := wsL_about) B.pre
  have hown : s.vm.findClass RL = some m.cls := findClass_of_methodNamed B.named
  have hlocks := B.notSynchronized
  subst hsz
  have hD := hD0.self (sz := s.heap.size)
  generalize hAe : va_A [(h0, .inr (5, [.ref tl, .ref tr, .ref cu, .ref bk, .int pr])), (tl, .inr (4, [.int (nI a), .ref lk, .ref lv, .ref lo, .ref lp, .ref ll, .ref lf, .int (nI n), .int (nI pl)])), (tr, .inr (4, [.int (nI a2), .ref rk, .ref rv, .ref ro, .ref rp, .ref rl, .ref rf, .int (nI n2), .int (nI pl2)])), (cu, .inr (0, [.ref tl, .ref tr, .ref he, .ref ma, .int hm, .int kd, .long cc0])), (ou, .inl (cL, 1, .inr (.inl fo)))] s.heap.size = A at hD ⊢
  have hA : ∀ q : Nat, s.heap.size ≤ q → A q := fun q h => by rw [← hAe]; exact Or.inr h
  have hS : va_S A s.heap s.heap [] := va_S.rf
  have hl := lv_entry ([.ref h0, .int 0, .ref ou]) (n := 4) (Nat.le_of_ble_eq_true rfl)
  rw [lg_entry_eq]
  generalize (lg_sl ([.ref h0, .int 0, .ref ou]) ++ List.replicate (4 - (lg_sl ([.ref h0, .int 0, .ref ou])).length) Slot.unset).toArray = ls at hl ⊢
  have hl : lv_has ls 4 [(0, .ref h0), (1, .int 0), (2, .ref ou)] := hl
  refine lv_aload_n hx hb dL_about_0 rfl (lv_at hl 2 rfl) ?_
  refine lv_iconst (v := 0) hx hb dL_about_1 (by decide) ?_
  refine lv_aload_n hx hb dL_about_2 rfl (lv_at hl 0 rfl) ?_
  refine lv_iload_n hx hb dL_about_3 rfl (lv_at hl 1 rfl) ?_
  refine vp_callSl (va_Run.run (va_runV (As := [.int 0]) (rest := [.int 0, .ref ou]) ⟨hx, hb, hml, hown, hts⟩ (gJ_about_0 l D cI cL cQ h0 tl tr cu bk he ma hm kd cc0 a n pl a2 n2 pl2 lk lv lo lp ll lf rk rv ro rp rl rf pr) (cwV 1 hts gL_about_X5_about rfl rfl rfl (by decide +kernel) ⟨Nat.le_of_ble_eq_true rfl, Nat.le_of_ble_eq_true rfl⟩) (jr_V hK hN hP [0, 1, 2, 3] rfl 5 0 rfl rfl rfl) rfl rfl hl.1 rfl (lv_room (Nat.le_of_ble_eq_true rfl)) dL_about_4 ⟨Nat.le_of_ble_eq_true rfl, Nat.le_of_ble_eq_true rfl⟩)) (fun r f_1 => ?_)
  obtain er_2 := f_1
  subst r
  refine va_last hx hb hK hP hD hS 4 1 rfl rfl (by unfold vp_in; decide) dL_about_7 (fun H locs hP hD hS => ?_)
  have hP : va_P D vwCl [(h0, .inr (5, [.ref tl, .ref tr, .ref cu, .ref bk, .int pr])), (tl, .inr (4, [.int (nI a), .ref lk, .ref lv, .ref lo, .ref lp, .ref ll, .ref lf, .int (nI n), .int (nI pl)])), (tr, .inr (4, [.int (nI a2), .ref rk, .ref rv, .ref ro, .ref rp, .ref rl, .ref rf, .int (nI n2), .int (nI pl2)])), (cu, .inr (0, [.ref tl, .ref tr, .ref he, .ref ma, .int hm, .int kd, .long cc0])), (ou, .inl (cL, 1, .inr (.inl (vp_updL fo (0 : Int32).toNatClampNeg cc0))))] H := hP
  have hD : va_D A [(h0, .inr (5, [.ref tl, .ref tr, .ref cu, .ref bk, .int pr])), (tl, .inr (4, [.int (nI a), .ref lk, .ref lv, .ref lo, .ref lp, .ref ll, .ref lf, .int (nI n), .int (nI pl)])), (tr, .inr (4, [.int (nI a2), .ref rk, .ref rv, .ref ro, .ref rp, .ref rl, .ref rf, .int (nI n2), .int (nI pl2)])), (cu, .inr (0, [.ref tl, .ref tr, .ref he, .ref ma, .int hm, .int kd, .long cc0])), (ou, .inl (cL, 1, .inr (.inl (vp_updL fo (0 : Int32).toNatClampNeg cc0))))] := hD
  refine lv_goto (tgt := 14) hx hb dL_about_8 (by decide) ?_
  refine lv_iconst (v := 0) hx hb dL_about_14 (by decide) ?_
  refine W.widen (k := 0) (n := 0) (by omega) (by omega) ?_
  exact W.iret (v := 0) hx hb hr (fun t ht hW => ⟨⟨0, [(h0, .inr (5, [.ref tl, .ref tr, .ref cu, .ref bk, .int pr])), (tl, .inr (4, [.int (nI a), .ref lk, .ref lv, .ref lo, .ref lp, .ref ll, .ref lf, .int (nI n), .int (nI pl)])), (tr, .inr (4, [.int (nI a2), .ref rk, .ref rv, .ref ro, .ref rp, .ref rl, .ref rf, .int (nI n2), .int (nI pl2)])), (cu, .inr (0, [.ref tl, .ref tr, .ref he, .ref ma, .int hm, .int kd, .long cc0])), (ou, .inl (cL, 1, .inr (.inl (vp_updL fo (0 : Int32).toNatClampNeg cc0))))], rfl, (⟨_, rfl, rfl⟩), by rw [ht]; exact hP, hD⟩, hS.F ht⟩) hS.2.2 dL_about_15
set_option maxHeartbeats 1000000 in
set_option maxRecDepth 100000 in
theorem kL_about_1 (l : Launch) (hnt : l.stackTraces = false) (D : va_G) (cI cL cQ : ClassId) (h0 : Nat) (tl : Nat) (tr : Nat) (cu : Nat) (bk : Nat) (he : Nat) (ma : Nat) (hm : Int32) (kd : Int32) (cc0 : Int64) (a : Nat) (n : Nat) (pl : Nat) (a2 : Nat) (n2 : Nat) (pl2 : Nat) (lk : Nat) (lv : Nat) (lo : Nat) (lp : Nat) (ll : Nat) (lf : Nat) (rk : Nat) (rv : Nat) (ro : Nat) (rp : Nat) (rl : Nat) (rf : Nat) (pr : Int32) (ou : Nat) (fo : Nat → Int64) (sz : Nat) : Met l yL_about wsL_about ({ frames := 2, cells := 0, slots := 0, locals := 42 }) (jh_P D vwCl (jT cI cL cQ) cL cQ [.ref h0, .int 1, .ref ou] [(h0, .inr (5, [.ref tl, .ref tr, .ref cu, .ref bk, .int pr])), (tl, .inr (4, [.int (nI a), .ref lk, .ref lv, .ref lo, .ref lp, .ref ll, .ref lf, .int (nI n), .int (nI pl)])), (tr, .inr (4, [.int (nI a2), .ref rk, .ref rv, .ref ro, .ref rp, .ref rl, .ref rf, .int (nI n2), .int (nI pl2)])), (cu, .inr (0, [.ref tl, .ref tr, .ref he, .ref ma, .int hm, .int kd, .long cc0])), (ou, .inl (cL, 1, .inr (.inl fo)))] sz) (va_Qi (fun (r : Int32) (u : va_W) => ∃ (fo9 : Nat → Int64), r = 0 ∧ u = [(h0, .inr (5, [.ref tl, .ref tr, .ref cu, .ref bk, .int pr])), (tl, .inr (4, [.int (nI a), .ref lk, .ref lv, .ref lo, .ref lp, .ref ll, .ref lf, .int (nI n), .int (nI pl)])), (tr, .inr (4, [.int (nI a2), .ref rk, .ref rv, .ref ro, .ref rp, .ref rl, .ref rf, .int (nI n2), .int (nI pl2)])), (cu, .inr (0, [.ref tl, .ref tr, .ref he, .ref ma, .int hm, .int kd, .long cc0])), (ou, .inl (cL, 1, .inr (.inl fo9)))]) (jw_B D vwCl (va_A [(h0, .inr (5, [.ref tl, .ref tr, .ref cu, .ref bk, .int pr])), (tl, .inr (4, [.int (nI a), .ref lk, .ref lv, .ref lo, .ref lp, .ref ll, .ref lf, .int (nI n), .int (nI pl)])), (tr, .inr (4, [.int (nI a2), .ref rk, .ref rv, .ref ro, .ref rp, .ref rl, .ref rf, .int (nI n2), .int (nI pl2)])), (cu, .inr (0, [.ref tl, .ref tr, .ref he, .ref ma, .int hm, .int kd, .long cc0])), (ou, .inl (cL, 1, .inr (.inl fo)))] sz) (fun u : va_W => u)) (va_A [(h0, .inr (5, [.ref tl, .ref tr, .ref cu, .ref bk, .int pr])), (tl, .inr (4, [.int (nI a), .ref lk, .ref lv, .ref lo, .ref lp, .ref ll, .ref lf, .int (nI n), .int (nI pl)])), (tr, .inr (4, [.int (nI a2), .ref rk, .ref rv, .ref ro, .ref rp, .ref rl, .ref rf, .int (nI n2), .int (nI pl2)])), (cu, .inr (0, [.ref tl, .ref tr, .ref he, .ref ma, .int hm, .int kd, .long cc0])), (ou, .inl (cL, 1, .inr (.inl fo)))] sz)) 0 0 (va_A [(h0, .inr (5, [.ref tl, .ref tr, .ref cu, .ref bk, .int pr])), (tl, .inr (4, [.int (nI a), .ref lk, .ref lv, .ref lo, .ref lp, .ref ll, .ref lf, .int (nI n), .int (nI pl)])), (tr, .inr (4, [.int (nI a2), .ref rk, .ref rv, .ref ro, .ref rp, .ref rl, .ref rf, .int (nI n2), .int (nI pl2)])), (cu, .inr (0, [.ref tl, .ref tr, .ref he, .ref ma, .int hm, .int kd, .long cc0])), (ou, .inl (cL, 1, .inr (.inl fo)))] sz) := by
  refine va_MetW (hh := [(0, 8, 11, 19)]) (cc := cL_about) (maxL := 4) (ret := (some .int)) (by decide) rfl ?_
  intro p e s m args below meth c s₁ B hml hv
  obtain ⟨rfl, hsz, hP, hK, hN, hD0, hZ⟩ := hv
  have hx := B.exec
  have hb := B.bytes
  have hr := B.returns
  have hts := atoms_spec (ws := wsL_about) B.pre
  have hown : s.vm.findClass RL = some m.cls := findClass_of_methodNamed B.named
  have hlocks := B.notSynchronized
  subst hsz
  have hD := hD0.self (sz := s.heap.size)
  generalize hAe : va_A [(h0, .inr (5, [.ref tl, .ref tr, .ref cu, .ref bk, .int pr])), (tl, .inr (4, [.int (nI a), .ref lk, .ref lv, .ref lo, .ref lp, .ref ll, .ref lf, .int (nI n), .int (nI pl)])), (tr, .inr (4, [.int (nI a2), .ref rk, .ref rv, .ref ro, .ref rp, .ref rl, .ref rf, .int (nI n2), .int (nI pl2)])), (cu, .inr (0, [.ref tl, .ref tr, .ref he, .ref ma, .int hm, .int kd, .long cc0])), (ou, .inl (cL, 1, .inr (.inl fo)))] s.heap.size = A at hD ⊢
  have hA : ∀ q : Nat, s.heap.size ≤ q → A q := fun q h => by rw [← hAe]; exact Or.inr h
  have hS : va_S A s.heap s.heap [] := va_S.rf
  have hl := lv_entry ([.ref h0, .int 1, .ref ou]) (n := 4) (Nat.le_of_ble_eq_true rfl)
  rw [lg_entry_eq]
  generalize (lg_sl ([.ref h0, .int 1, .ref ou]) ++ List.replicate (4 - (lg_sl ([.ref h0, .int 1, .ref ou])).length) Slot.unset).toArray = ls at hl ⊢
  have hl : lv_has ls 4 [(0, .ref h0), (1, .int 1), (2, .ref ou)] := hl
  refine lv_aload_n hx hb dL_about_0 rfl (lv_at hl 2 rfl) ?_
  refine lv_iconst (v := 0) hx hb dL_about_1 (by decide) ?_
  refine lv_aload_n hx hb dL_about_2 rfl (lv_at hl 0 rfl) ?_
  refine lv_iload_n hx hb dL_about_3 rfl (lv_at hl 1 rfl) ?_
  refine vp_callSl (va_Run.run (va_runV (As := [.int 1]) (rest := [.int 0, .ref ou]) ⟨hx, hb, hml, hown, hts⟩ (gJ_about_1 l D cI cL cQ h0 tl tr cu bk he ma hm kd cc0 a n pl a2 n2 pl2 lk lv lo lp ll lf rk rv ro rp rl rf pr) (cwV 1 hts gL_about_X5_about rfl rfl rfl (by decide +kernel) ⟨Nat.le_of_ble_eq_true rfl, Nat.le_of_ble_eq_true rfl⟩) (jr_V hK hN hP [0, 1, 2, 3] rfl 5 0 rfl rfl rfl) rfl rfl hl.1 rfl (lv_room (Nat.le_of_ble_eq_true rfl)) dL_about_4 ⟨Nat.le_of_ble_eq_true rfl, Nat.le_of_ble_eq_true rfl⟩)) (fun r f_1 => ?_)
  obtain rfl := f_1
  refine va_last hx hb hK hP hD hS 4 1 rfl rfl (by unfold vp_in; decide) dL_about_7 (fun H locs hP hD hS => ?_)
  have hP : va_P D vwCl [(h0, .inr (5, [.ref tl, .ref tr, .ref cu, .ref bk, .int pr])), (tl, .inr (4, [.int (nI a), .ref lk, .ref lv, .ref lo, .ref lp, .ref ll, .ref lf, .int (nI n), .int (nI pl)])), (tr, .inr (4, [.int (nI a2), .ref rk, .ref rv, .ref ro, .ref rp, .ref rl, .ref rf, .int (nI n2), .int (nI pl2)])), (cu, .inr (0, [.ref tl, .ref tr, .ref he, .ref ma, .int hm, .int kd, .long cc0])), (ou, .inl (cL, 1, .inr (.inl (vp_updL fo (0 : Int32).toNatClampNeg ((nI n).toInt64)))))] H := hP
  have hD : va_D A [(h0, .inr (5, [.ref tl, .ref tr, .ref cu, .ref bk, .int pr])), (tl, .inr (4, [.int (nI a), .ref lk, .ref lv, .ref lo, .ref lp, .ref ll, .ref lf, .int (nI n), .int (nI pl)])), (tr, .inr (4, [.int (nI a2), .ref rk, .ref rv, .ref ro, .ref rp, .ref rl, .ref rf, .int (nI n2), .int (nI pl2)])), (cu, .inr (0, [.ref tl, .ref tr, .ref he, .ref ma, .int hm, .int kd, .long cc0])), (ou, .inl (cL, 1, .inr (.inl (vp_updL fo (0 : Int32).toNatClampNeg ((nI n).toInt64)))))] := hD
  refine lv_goto (tgt := 14) hx hb dL_about_8 (by decide) ?_
  refine lv_iconst (v := 0) hx hb dL_about_14 (by decide) ?_
  refine W.widen (k := 0) (n := 0) (by omega) (by omega) ?_
  exact W.iret (v := 0) hx hb hr (fun t ht hW => ⟨⟨0, [(h0, .inr (5, [.ref tl, .ref tr, .ref cu, .ref bk, .int pr])), (tl, .inr (4, [.int (nI a), .ref lk, .ref lv, .ref lo, .ref lp, .ref ll, .ref lf, .int (nI n), .int (nI pl)])), (tr, .inr (4, [.int (nI a2), .ref rk, .ref rv, .ref ro, .ref rp, .ref rl, .ref rf, .int (nI n2), .int (nI pl2)])), (cu, .inr (0, [.ref tl, .ref tr, .ref he, .ref ma, .int hm, .int kd, .long cc0])), (ou, .inl (cL, 1, .inr (.inl (vp_updL fo (0 : Int32).toNatClampNeg ((nI n).toInt64)))))], rfl, (⟨_, rfl, rfl⟩), by rw [ht]; exact hP, hD⟩, hS.F ht⟩) hS.2.2 dL_about_15
set_option maxHeartbeats 1000000 in
set_option maxRecDepth 100000 in
theorem kL_about_2 (l : Launch) (hnt : l.stackTraces = false) (D : va_G) (cI cL cQ : ClassId) (h0 : Nat) (tl : Nat) (tr : Nat) (cu : Nat) (bk : Nat) (he : Nat) (ma : Nat) (hm : Int32) (kd : Int32) (cc0 : Int64) (a : Nat) (n : Nat) (pl : Nat) (a2 : Nat) (n2 : Nat) (pl2 : Nat) (lk : Nat) (lv : Nat) (lo : Nat) (lp : Nat) (ll : Nat) (lf : Nat) (rk : Nat) (rv : Nat) (ro : Nat) (rp : Nat) (rl : Nat) (rf : Nat) (pr : Int32) (ou : Nat) (fo : Nat → Int64) (sz : Nat) : Met l yL_about wsL_about ({ frames := 2, cells := 0, slots := 0, locals := 42 }) (jh_P D vwCl (jT cI cL cQ) cL cQ [.ref h0, .int 2, .ref ou] [(h0, .inr (5, [.ref tl, .ref tr, .ref cu, .ref bk, .int pr])), (tl, .inr (4, [.int (nI a), .ref lk, .ref lv, .ref lo, .ref lp, .ref ll, .ref lf, .int (nI n), .int (nI pl)])), (tr, .inr (4, [.int (nI a2), .ref rk, .ref rv, .ref ro, .ref rp, .ref rl, .ref rf, .int (nI n2), .int (nI pl2)])), (cu, .inr (0, [.ref tl, .ref tr, .ref he, .ref ma, .int hm, .int kd, .long cc0])), (ou, .inl (cL, 1, .inr (.inl fo)))] sz) (va_Qi (fun (r : Int32) (u : va_W) => ∃ (fo9 : Nat → Int64), r = 0 ∧ u = [(h0, .inr (5, [.ref tl, .ref tr, .ref cu, .ref bk, .int pr])), (tl, .inr (4, [.int (nI a), .ref lk, .ref lv, .ref lo, .ref lp, .ref ll, .ref lf, .int (nI n), .int (nI pl)])), (tr, .inr (4, [.int (nI a2), .ref rk, .ref rv, .ref ro, .ref rp, .ref rl, .ref rf, .int (nI n2), .int (nI pl2)])), (cu, .inr (0, [.ref tl, .ref tr, .ref he, .ref ma, .int hm, .int kd, .long cc0])), (ou, .inl (cL, 1, .inr (.inl fo9)))]) (jw_B D vwCl (va_A [(h0, .inr (5, [.ref tl, .ref tr, .ref cu, .ref bk, .int pr])), (tl, .inr (4, [.int (nI a), .ref lk, .ref lv, .ref lo, .ref lp, .ref ll, .ref lf, .int (nI n), .int (nI pl)])), (tr, .inr (4, [.int (nI a2), .ref rk, .ref rv, .ref ro, .ref rp, .ref rl, .ref rf, .int (nI n2), .int (nI pl2)])), (cu, .inr (0, [.ref tl, .ref tr, .ref he, .ref ma, .int hm, .int kd, .long cc0])), (ou, .inl (cL, 1, .inr (.inl fo)))] sz) (fun u : va_W => u)) (va_A [(h0, .inr (5, [.ref tl, .ref tr, .ref cu, .ref bk, .int pr])), (tl, .inr (4, [.int (nI a), .ref lk, .ref lv, .ref lo, .ref lp, .ref ll, .ref lf, .int (nI n), .int (nI pl)])), (tr, .inr (4, [.int (nI a2), .ref rk, .ref rv, .ref ro, .ref rp, .ref rl, .ref rf, .int (nI n2), .int (nI pl2)])), (cu, .inr (0, [.ref tl, .ref tr, .ref he, .ref ma, .int hm, .int kd, .long cc0])), (ou, .inl (cL, 1, .inr (.inl fo)))] sz)) 0 0 (va_A [(h0, .inr (5, [.ref tl, .ref tr, .ref cu, .ref bk, .int pr])), (tl, .inr (4, [.int (nI a), .ref lk, .ref lv, .ref lo, .ref lp, .ref ll, .ref lf, .int (nI n), .int (nI pl)])), (tr, .inr (4, [.int (nI a2), .ref rk, .ref rv, .ref ro, .ref rp, .ref rl, .ref rf, .int (nI n2), .int (nI pl2)])), (cu, .inr (0, [.ref tl, .ref tr, .ref he, .ref ma, .int hm, .int kd, .long cc0])), (ou, .inl (cL, 1, .inr (.inl fo)))] sz) := by
  refine va_MetW (hh := [(0, 8, 11, 19)]) (cc := cL_about) (maxL := 4) (ret := (some .int)) (by decide) rfl ?_
  intro p e s m args below meth c s₁ B hml hv
  obtain ⟨rfl, hsz, hP, hK, hN, hD0, hZ⟩ := hv
  have hx := B.exec
  have hb := B.bytes
  have hr := B.returns
  have hts := atoms_spec (ws := wsL_about) B.pre
  have hown : s.vm.findClass RL = some m.cls := findClass_of_methodNamed B.named
  have hlocks := B.notSynchronized
  subst hsz
  have hD := hD0.self (sz := s.heap.size)
  generalize hAe : va_A [(h0, .inr (5, [.ref tl, .ref tr, .ref cu, .ref bk, .int pr])), (tl, .inr (4, [.int (nI a), .ref lk, .ref lv, .ref lo, .ref lp, .ref ll, .ref lf, .int (nI n), .int (nI pl)])), (tr, .inr (4, [.int (nI a2), .ref rk, .ref rv, .ref ro, .ref rp, .ref rl, .ref rf, .int (nI n2), .int (nI pl2)])), (cu, .inr (0, [.ref tl, .ref tr, .ref he, .ref ma, .int hm, .int kd, .long cc0])), (ou, .inl (cL, 1, .inr (.inl fo)))] s.heap.size = A at hD ⊢
  have hA : ∀ q : Nat, s.heap.size ≤ q → A q := fun q h => by rw [← hAe]; exact Or.inr h
  have hS : va_S A s.heap s.heap [] := va_S.rf
  have hl := lv_entry ([.ref h0, .int 2, .ref ou]) (n := 4) (Nat.le_of_ble_eq_true rfl)
  rw [lg_entry_eq]
  generalize (lg_sl ([.ref h0, .int 2, .ref ou]) ++ List.replicate (4 - (lg_sl ([.ref h0, .int 2, .ref ou])).length) Slot.unset).toArray = ls at hl ⊢
  have hl : lv_has ls 4 [(0, .ref h0), (1, .int 2), (2, .ref ou)] := hl
  refine lv_aload_n hx hb dL_about_0 rfl (lv_at hl 2 rfl) ?_
  refine lv_iconst (v := 0) hx hb dL_about_1 (by decide) ?_
  refine lv_aload_n hx hb dL_about_2 rfl (lv_at hl 0 rfl) ?_
  refine lv_iload_n hx hb dL_about_3 rfl (lv_at hl 1 rfl) ?_
  refine vp_callSl (va_Run.run (va_runV (As := [.int 2]) (rest := [.int 0, .ref ou]) ⟨hx, hb, hml, hown, hts⟩ (gJ_about_2 l D cI cL cQ h0 tl tr cu bk he ma hm kd cc0 a n pl a2 n2 pl2 lk lv lo lp ll lf rk rv ro rp rl rf pr) (cwV 1 hts gL_about_X5_about rfl rfl rfl (by decide +kernel) ⟨Nat.le_of_ble_eq_true rfl, Nat.le_of_ble_eq_true rfl⟩) (jr_V hK hN hP [0, 1, 2, 3] rfl 5 0 rfl rfl rfl) rfl rfl hl.1 rfl (lv_room (Nat.le_of_ble_eq_true rfl)) dL_about_4 ⟨Nat.le_of_ble_eq_true rfl, Nat.le_of_ble_eq_true rfl⟩)) (fun r f_1 => ?_)
  obtain rfl := f_1
  refine va_last hx hb hK hP hD hS 4 1 rfl rfl (by unfold vp_in; decide) dL_about_7 (fun H locs hP hD hS => ?_)
  have hP : va_P D vwCl [(h0, .inr (5, [.ref tl, .ref tr, .ref cu, .ref bk, .int pr])), (tl, .inr (4, [.int (nI a), .ref lk, .ref lv, .ref lo, .ref lp, .ref ll, .ref lf, .int (nI n), .int (nI pl)])), (tr, .inr (4, [.int (nI a2), .ref rk, .ref rv, .ref ro, .ref rp, .ref rl, .ref rf, .int (nI n2), .int (nI pl2)])), (cu, .inr (0, [.ref tl, .ref tr, .ref he, .ref ma, .int hm, .int kd, .long cc0])), (ou, .inl (cL, 1, .inr (.inl (vp_updL fo (0 : Int32).toNatClampNeg ((nI n2).toInt64)))))] H := hP
  have hD : va_D A [(h0, .inr (5, [.ref tl, .ref tr, .ref cu, .ref bk, .int pr])), (tl, .inr (4, [.int (nI a), .ref lk, .ref lv, .ref lo, .ref lp, .ref ll, .ref lf, .int (nI n), .int (nI pl)])), (tr, .inr (4, [.int (nI a2), .ref rk, .ref rv, .ref ro, .ref rp, .ref rl, .ref rf, .int (nI n2), .int (nI pl2)])), (cu, .inr (0, [.ref tl, .ref tr, .ref he, .ref ma, .int hm, .int kd, .long cc0])), (ou, .inl (cL, 1, .inr (.inl (vp_updL fo (0 : Int32).toNatClampNeg ((nI n2).toInt64)))))] := hD
  refine lv_goto (tgt := 14) hx hb dL_about_8 (by decide) ?_
  refine lv_iconst (v := 0) hx hb dL_about_14 (by decide) ?_
  refine W.widen (k := 0) (n := 0) (by omega) (by omega) ?_
  exact W.iret (v := 0) hx hb hr (fun t ht hW => ⟨⟨0, [(h0, .inr (5, [.ref tl, .ref tr, .ref cu, .ref bk, .int pr])), (tl, .inr (4, [.int (nI a), .ref lk, .ref lv, .ref lo, .ref lp, .ref ll, .ref lf, .int (nI n), .int (nI pl)])), (tr, .inr (4, [.int (nI a2), .ref rk, .ref rv, .ref ro, .ref rp, .ref rl, .ref rf, .int (nI n2), .int (nI pl2)])), (cu, .inr (0, [.ref tl, .ref tr, .ref he, .ref ma, .int hm, .int kd, .long cc0])), (ou, .inl (cL, 1, .inr (.inl (vp_updL fo (0 : Int32).toNatClampNeg ((nI n2).toInt64)))))], rfl, (⟨_, rfl, rfl⟩), by rw [ht]; exact hP, hD⟩, hS.F ht⟩) hS.2.2 dL_about_15
set_option maxHeartbeats 1000000 in
set_option maxRecDepth 100000 in
theorem kL_about_4 (l : Launch) (hnt : l.stackTraces = false) (D : va_G) (cI cL cQ : ClassId) (h0 : Nat) (tl : Nat) (tr : Nat) (cu : Nat) (bk : Nat) (he : Nat) (ma : Nat) (hm : Int32) (kd : Int32) (cc0 : Int64) (a : Nat) (n : Nat) (pl : Nat) (a2 : Nat) (n2 : Nat) (pl2 : Nat) (lk : Nat) (lv : Nat) (lo : Nat) (lp : Nat) (ll : Nat) (lf : Nat) (rk : Nat) (rv : Nat) (ro : Nat) (rp : Nat) (rl : Nat) (rf : Nat) (pr : Int32) (ou : Nat) (fo : Nat → Int64) (sz : Nat) : Met l yL_about wsL_about ({ frames := 2, cells := 0, slots := 0, locals := 42 }) (jh_P D vwCl (jT cI cL cQ) cL cQ [.ref h0, .int 4, .ref ou] [(h0, .inr (5, [.ref tl, .ref tr, .ref cu, .ref bk, .int pr])), (tl, .inr (4, [.int (nI a), .ref lk, .ref lv, .ref lo, .ref lp, .ref ll, .ref lf, .int (nI n), .int (nI pl)])), (tr, .inr (4, [.int (nI a2), .ref rk, .ref rv, .ref ro, .ref rp, .ref rl, .ref rf, .int (nI n2), .int (nI pl2)])), (cu, .inr (0, [.ref tl, .ref tr, .ref he, .ref ma, .int hm, .int kd, .long cc0])), (ou, .inl (cL, 1, .inr (.inl fo)))] sz) (va_Qi (fun (r : Int32) (u : va_W) => ∃ (fo9 : Nat → Int64), r = 0 ∧ u = [(h0, .inr (5, [.ref tl, .ref tr, .ref cu, .ref bk, .int pr])), (tl, .inr (4, [.int (nI a), .ref lk, .ref lv, .ref lo, .ref lp, .ref ll, .ref lf, .int (nI n), .int (nI pl)])), (tr, .inr (4, [.int (nI a2), .ref rk, .ref rv, .ref ro, .ref rp, .ref rl, .ref rf, .int (nI n2), .int (nI pl2)])), (cu, .inr (0, [.ref tl, .ref tr, .ref he, .ref ma, .int hm, .int kd, .long cc0])), (ou, .inl (cL, 1, .inr (.inl fo9)))]) (jw_B D vwCl (va_A [(h0, .inr (5, [.ref tl, .ref tr, .ref cu, .ref bk, .int pr])), (tl, .inr (4, [.int (nI a), .ref lk, .ref lv, .ref lo, .ref lp, .ref ll, .ref lf, .int (nI n), .int (nI pl)])), (tr, .inr (4, [.int (nI a2), .ref rk, .ref rv, .ref ro, .ref rp, .ref rl, .ref rf, .int (nI n2), .int (nI pl2)])), (cu, .inr (0, [.ref tl, .ref tr, .ref he, .ref ma, .int hm, .int kd, .long cc0])), (ou, .inl (cL, 1, .inr (.inl fo)))] sz) (fun u : va_W => u)) (va_A [(h0, .inr (5, [.ref tl, .ref tr, .ref cu, .ref bk, .int pr])), (tl, .inr (4, [.int (nI a), .ref lk, .ref lv, .ref lo, .ref lp, .ref ll, .ref lf, .int (nI n), .int (nI pl)])), (tr, .inr (4, [.int (nI a2), .ref rk, .ref rv, .ref ro, .ref rp, .ref rl, .ref rf, .int (nI n2), .int (nI pl2)])), (cu, .inr (0, [.ref tl, .ref tr, .ref he, .ref ma, .int hm, .int kd, .long cc0])), (ou, .inl (cL, 1, .inr (.inl fo)))] sz)) 0 0 (va_A [(h0, .inr (5, [.ref tl, .ref tr, .ref cu, .ref bk, .int pr])), (tl, .inr (4, [.int (nI a), .ref lk, .ref lv, .ref lo, .ref lp, .ref ll, .ref lf, .int (nI n), .int (nI pl)])), (tr, .inr (4, [.int (nI a2), .ref rk, .ref rv, .ref ro, .ref rp, .ref rl, .ref rf, .int (nI n2), .int (nI pl2)])), (cu, .inr (0, [.ref tl, .ref tr, .ref he, .ref ma, .int hm, .int kd, .long cc0])), (ou, .inl (cL, 1, .inr (.inl fo)))] sz) := by
  refine va_MetW (hh := [(0, 8, 11, 19)]) (cc := cL_about) (maxL := 4) (ret := (some .int)) (by decide) rfl ?_
  intro p e s m args below meth c s₁ B hml hv
  obtain ⟨rfl, hsz, hP, hK, hN, hD0, hZ⟩ := hv
  have hx := B.exec
  have hb := B.bytes
  have hr := B.returns
  have hts := atoms_spec (ws := wsL_about) B.pre
  have hown : s.vm.findClass RL = some m.cls := findClass_of_methodNamed B.named
  have hlocks := B.notSynchronized
  subst hsz
  have hD := hD0.self (sz := s.heap.size)
  generalize hAe : va_A [(h0, .inr (5, [.ref tl, .ref tr, .ref cu, .ref bk, .int pr])), (tl, .inr (4, [.int (nI a), .ref lk, .ref lv, .ref lo, .ref lp, .ref ll, .ref lf, .int (nI n), .int (nI pl)])), (tr, .inr (4, [.int (nI a2), .ref rk, .ref rv, .ref ro, .ref rp, .ref rl, .ref rf, .int (nI n2), .int (nI pl2)])), (cu, .inr (0, [.ref tl, .ref tr, .ref he, .ref ma, .int hm, .int kd, .long cc0])), (ou, .inl (cL, 1, .inr (.inl fo)))] s.heap.size = A at hD ⊢
  have hA : ∀ q : Nat, s.heap.size ≤ q → A q := fun q h => by rw [← hAe]; exact Or.inr h
  have hS : va_S A s.heap s.heap [] := va_S.rf
  have hl := lv_entry ([.ref h0, .int 4, .ref ou]) (n := 4) (Nat.le_of_ble_eq_true rfl)
  rw [lg_entry_eq]
  generalize (lg_sl ([.ref h0, .int 4, .ref ou]) ++ List.replicate (4 - (lg_sl ([.ref h0, .int 4, .ref ou])).length) Slot.unset).toArray = ls at hl ⊢
  have hl : lv_has ls 4 [(0, .ref h0), (1, .int 4), (2, .ref ou)] := hl
  refine lv_aload_n hx hb dL_about_0 rfl (lv_at hl 2 rfl) ?_
  refine lv_iconst (v := 0) hx hb dL_about_1 (by decide) ?_
  refine lv_aload_n hx hb dL_about_2 rfl (lv_at hl 0 rfl) ?_
  refine lv_iload_n hx hb dL_about_3 rfl (lv_at hl 1 rfl) ?_
  refine vp_callSl (va_Run.run (va_runV (As := [.int 4]) (rest := [.int 0, .ref ou]) ⟨hx, hb, hml, hown, hts⟩ (gJ_about_4 l D cI cL cQ h0 tl tr cu bk he ma hm kd cc0 a n pl a2 n2 pl2 lk lv lo lp ll lf rk rv ro rp rl rf pr) (cwV 1 hts gL_about_X5_about rfl rfl rfl (by decide +kernel) ⟨Nat.le_of_ble_eq_true rfl, Nat.le_of_ble_eq_true rfl⟩) (jr_V hK hN hP [0, 1, 2, 3] rfl 5 0 rfl rfl rfl) rfl rfl hl.1 rfl (lv_room (Nat.le_of_ble_eq_true rfl)) dL_about_4 ⟨Nat.le_of_ble_eq_true rfl, Nat.le_of_ble_eq_true rfl⟩)) (fun r f_1 => ?_)
  obtain rfl := f_1
  refine va_last hx hb hK hP hD hS 4 1 rfl rfl (by unfold vp_in; decide) dL_about_7 (fun H locs hP hD hS => ?_)
  have hP : va_P D vwCl [(h0, .inr (5, [.ref tl, .ref tr, .ref cu, .ref bk, .int pr])), (tl, .inr (4, [.int (nI a), .ref lk, .ref lv, .ref lo, .ref lp, .ref ll, .ref lf, .int (nI n), .int (nI pl)])), (tr, .inr (4, [.int (nI a2), .ref rk, .ref rv, .ref ro, .ref rp, .ref rl, .ref rf, .int (nI n2), .int (nI pl2)])), (cu, .inr (0, [.ref tl, .ref tr, .ref he, .ref ma, .int hm, .int kd, .long cc0])), (ou, .inl (cL, 1, .inr (.inl (vp_updL fo (0 : Int32).toNatClampNeg kd.toInt64))))] H := hP
  have hD : va_D A [(h0, .inr (5, [.ref tl, .ref tr, .ref cu, .ref bk, .int pr])), (tl, .inr (4, [.int (nI a), .ref lk, .ref lv, .ref lo, .ref lp, .ref ll, .ref lf, .int (nI n), .int (nI pl)])), (tr, .inr (4, [.int (nI a2), .ref rk, .ref rv, .ref ro, .ref rp, .ref rl, .ref rf, .int (nI n2), .int (nI pl2)])), (cu, .inr (0, [.ref tl, .ref tr, .ref he, .ref ma, .int hm, .int kd, .long cc0])), (ou, .inl (cL, 1, .inr (.inl (vp_updL fo (0 : Int32).toNatClampNeg kd.toInt64))))] := hD
  refine lv_goto (tgt := 14) hx hb dL_about_8 (by decide) ?_
  refine lv_iconst (v := 0) hx hb dL_about_14 (by decide) ?_
  refine W.widen (k := 0) (n := 0) (by omega) (by omega) ?_
  exact W.iret (v := 0) hx hb hr (fun t ht hW => ⟨⟨0, [(h0, .inr (5, [.ref tl, .ref tr, .ref cu, .ref bk, .int pr])), (tl, .inr (4, [.int (nI a), .ref lk, .ref lv, .ref lo, .ref lp, .ref ll, .ref lf, .int (nI n), .int (nI pl)])), (tr, .inr (4, [.int (nI a2), .ref rk, .ref rv, .ref ro, .ref rp, .ref rl, .ref rf, .int (nI n2), .int (nI pl2)])), (cu, .inr (0, [.ref tl, .ref tr, .ref he, .ref ma, .int hm, .int kd, .long cc0])), (ou, .inl (cL, 1, .inr (.inl (vp_updL fo (0 : Int32).toNatClampNeg kd.toInt64))))], rfl, (⟨_, rfl, rfl⟩), by rw [ht]; exact hP, hD⟩, hS.F ht⟩) hS.2.2 dL_about_15
set_option maxHeartbeats 1000000 in
set_option maxRecDepth 100000 in
theorem kL_about_31 (l : Launch) (hnt : l.stackTraces = false) (D : va_G) (cI cL cQ : ClassId) (h0 : Nat) (tl : Nat) (tr : Nat) (cu : Nat) (bk : Nat) (ou : Nat) (fo : Nat → Int64) (sz : Nat) : Met l yL_about wsL_about ({ frames := 2, cells := 0, slots := 0, locals := 42 }) (jh_P D vwCl (jT cI cL cQ) cL cQ [.ref h0, .int 3, .ref ou] [(h0, .inr (5, [.ref tl, .ref tr, .ref cu, .ref bk, .int 1])), (ou, .inl (cL, 1, .inr (.inl fo)))] sz) (va_Qi (fun (r : Int32) (u : va_W) => ∃ (fo9 : Nat → Int64), r = 0 ∧ u = [(h0, .inr (5, [.ref tl, .ref tr, .ref cu, .ref bk, .int 1])), (ou, .inl (cL, 1, .inr (.inl fo9)))]) (jw_B D vwCl (va_A [(h0, .inr (5, [.ref tl, .ref tr, .ref cu, .ref bk, .int 1])), (ou, .inl (cL, 1, .inr (.inl fo)))] sz) (fun u : va_W => u)) (va_A [(h0, .inr (5, [.ref tl, .ref tr, .ref cu, .ref bk, .int 1])), (ou, .inl (cL, 1, .inr (.inl fo)))] sz)) 0 0 (va_A [(h0, .inr (5, [.ref tl, .ref tr, .ref cu, .ref bk, .int 1])), (ou, .inl (cL, 1, .inr (.inl fo)))] sz) := by
  refine va_MetW (hh := [(0, 8, 11, 19)]) (cc := cL_about) (maxL := 4) (ret := (some .int)) (by decide) rfl ?_
  intro p e s m args below meth c s₁ B hml hv
  obtain ⟨rfl, hsz, hP, hK, hN, hD0, hZ⟩ := hv
  have hx := B.exec
  have hb := B.bytes
  have hr := B.returns
  have hts := atoms_spec (ws := wsL_about) B.pre
  have hown : s.vm.findClass RL = some m.cls := findClass_of_methodNamed B.named
  have hlocks := B.notSynchronized
  subst hsz
  have hD := hD0.self (sz := s.heap.size)
  generalize hAe : va_A [(h0, .inr (5, [.ref tl, .ref tr, .ref cu, .ref bk, .int 1])), (ou, .inl (cL, 1, .inr (.inl fo)))] s.heap.size = A at hD ⊢
  have hA : ∀ q : Nat, s.heap.size ≤ q → A q := fun q h => by rw [← hAe]; exact Or.inr h
  have hS : va_S A s.heap s.heap [] := va_S.rf
  have hl := lv_entry ([.ref h0, .int 3, .ref ou]) (n := 4) (Nat.le_of_ble_eq_true rfl)
  rw [lg_entry_eq]
  generalize (lg_sl ([.ref h0, .int 3, .ref ou]) ++ List.replicate (4 - (lg_sl ([.ref h0, .int 3, .ref ou])).length) Slot.unset).toArray = ls at hl ⊢
  have hl : lv_has ls 4 [(0, .ref h0), (1, .int 3), (2, .ref ou)] := hl
  refine lv_aload_n hx hb dL_about_0 rfl (lv_at hl 2 rfl) ?_
  refine lv_iconst (v := 0) hx hb dL_about_1 (by decide) ?_
  refine lv_aload_n hx hb dL_about_2 rfl (lv_at hl 0 rfl) ?_
  refine lv_iload_n hx hb dL_about_3 rfl (lv_at hl 1 rfl) ?_
  refine vp_callSl (va_Run.run (va_runV (As := [.int 3]) (rest := [.int 0, .ref ou]) ⟨hx, hb, hml, hown, hts⟩ (gJ_about_31 l D cI cL cQ h0 tl tr cu bk) (cwV 1 hts gL_about_X5_about rfl rfl rfl (by decide +kernel) ⟨Nat.le_of_ble_eq_true rfl, Nat.le_of_ble_eq_true rfl⟩) (jr_V hK hN hP [0] rfl 5 0 rfl rfl rfl) rfl rfl hl.1 rfl (lv_room (Nat.le_of_ble_eq_true rfl)) dL_about_4 ⟨Nat.le_of_ble_eq_true rfl, Nat.le_of_ble_eq_true rfl⟩)) (fun r f_1 => ?_)
  obtain rfl := f_1
  refine va_last hx hb hK hP hD hS 1 1 rfl rfl (by unfold vp_in; decide) dL_about_7 (fun H locs hP hD hS => ?_)
  have hP : va_P D vwCl [(h0, .inr (5, [.ref tl, .ref tr, .ref cu, .ref bk, .int 1])), (ou, .inl (cL, 1, .inr (.inl (vp_updL fo (0 : Int32).toNatClampNeg 1))))] H := hP
  have hD : va_D A [(h0, .inr (5, [.ref tl, .ref tr, .ref cu, .ref bk, .int 1])), (ou, .inl (cL, 1, .inr (.inl (vp_updL fo (0 : Int32).toNatClampNeg 1))))] := hD
  refine lv_goto (tgt := 14) hx hb dL_about_8 (by decide) ?_
  refine lv_iconst (v := 0) hx hb dL_about_14 (by decide) ?_
  refine W.widen (k := 0) (n := 0) (by omega) (by omega) ?_
  exact W.iret (v := 0) hx hb hr (fun t ht hW => ⟨⟨0, [(h0, .inr (5, [.ref tl, .ref tr, .ref cu, .ref bk, .int 1])), (ou, .inl (cL, 1, .inr (.inl (vp_updL fo (0 : Int32).toNatClampNeg 1))))], rfl, (⟨_, rfl, rfl⟩), by rw [ht]; exact hP, hD⟩, hS.F ht⟩) hS.2.2 dL_about_15
set_option maxHeartbeats 1000000 in
set_option maxRecDepth 100000 in
theorem kL_about_30 (l : Launch) (hnt : l.stackTraces = false) (D : va_G) (cI cL cQ : ClassId) (h0 : Nat) (tl : Nat) (tr : Nat) (cu : Nat) (bk : Nat) (ou : Nat) (fo : Nat → Int64) (sz : Nat) : Met l yL_about wsL_about ({ frames := 2, cells := 0, slots := 0, locals := 42 }) (jh_P D vwCl (jT cI cL cQ) cL cQ [.ref h0, .int 3, .ref ou] [(h0, .inr (5, [.ref tl, .ref tr, .ref cu, .ref bk, .int 0])), (ou, .inl (cL, 1, .inr (.inl fo)))] sz) (va_Qi (fun (r : Int32) (u : va_W) => ∃ (fo9 : Nat → Int64), r = 0 ∧ u = [(h0, .inr (5, [.ref tl, .ref tr, .ref cu, .ref bk, .int 0])), (ou, .inl (cL, 1, .inr (.inl fo9)))]) (jw_B D vwCl (va_A [(h0, .inr (5, [.ref tl, .ref tr, .ref cu, .ref bk, .int 0])), (ou, .inl (cL, 1, .inr (.inl fo)))] sz) (fun u : va_W => u)) (va_A [(h0, .inr (5, [.ref tl, .ref tr, .ref cu, .ref bk, .int 0])), (ou, .inl (cL, 1, .inr (.inl fo)))] sz)) 0 0 (va_A [(h0, .inr (5, [.ref tl, .ref tr, .ref cu, .ref bk, .int 0])), (ou, .inl (cL, 1, .inr (.inl fo)))] sz) := by
  refine va_MetW (hh := [(0, 8, 11, 19)]) (cc := cL_about) (maxL := 4) (ret := (some .int)) (by decide) rfl ?_
  intro p e s m args below meth c s₁ B hml hv
  obtain ⟨rfl, hsz, hP, hK, hN, hD0, hZ⟩ := hv
  have hx := B.exec
  have hb := B.bytes
  have hr := B.returns
  have hts := atoms_spec (ws := wsL_about) B.pre
  have hown : s.vm.findClass RL = some m.cls := findClass_of_methodNamed B.named
  have hlocks := B.notSynchronized
  subst hsz
  have hD := hD0.self (sz := s.heap.size)
  generalize hAe : va_A [(h0, .inr (5, [.ref tl, .ref tr, .ref cu, .ref bk, .int 0])), (ou, .inl (cL, 1, .inr (.inl fo)))] s.heap.size = A at hD ⊢
  have hA : ∀ q : Nat, s.heap.size ≤ q → A q := fun q h => by rw [← hAe]; exact Or.inr h
  have hS : va_S A s.heap s.heap [] := va_S.rf
  have hl := lv_entry ([.ref h0, .int 3, .ref ou]) (n := 4) (Nat.le_of_ble_eq_true rfl)
  rw [lg_entry_eq]
  generalize (lg_sl ([.ref h0, .int 3, .ref ou]) ++ List.replicate (4 - (lg_sl ([.ref h0, .int 3, .ref ou])).length) Slot.unset).toArray = ls at hl ⊢
  have hl : lv_has ls 4 [(0, .ref h0), (1, .int 3), (2, .ref ou)] := hl
  refine lv_aload_n hx hb dL_about_0 rfl (lv_at hl 2 rfl) ?_
  refine lv_iconst (v := 0) hx hb dL_about_1 (by decide) ?_
  refine lv_aload_n hx hb dL_about_2 rfl (lv_at hl 0 rfl) ?_
  refine lv_iload_n hx hb dL_about_3 rfl (lv_at hl 1 rfl) ?_
  refine vp_callSl (va_Run.run (va_runV (As := [.int 3]) (rest := [.int 0, .ref ou]) ⟨hx, hb, hml, hown, hts⟩ (gJ_about_30 l D cI cL cQ h0 tl tr cu bk) (cwV 1 hts gL_about_X5_about rfl rfl rfl (by decide +kernel) ⟨Nat.le_of_ble_eq_true rfl, Nat.le_of_ble_eq_true rfl⟩) (jr_V hK hN hP [0] rfl 5 0 rfl rfl rfl) rfl rfl hl.1 rfl (lv_room (Nat.le_of_ble_eq_true rfl)) dL_about_4 ⟨Nat.le_of_ble_eq_true rfl, Nat.le_of_ble_eq_true rfl⟩)) (fun r f_1 => ?_)
  obtain rfl := f_1
  refine va_last hx hb hK hP hD hS 1 1 rfl rfl (by unfold vp_in; decide) dL_about_7 (fun H locs hP hD hS => ?_)
  have hP : va_P D vwCl [(h0, .inr (5, [.ref tl, .ref tr, .ref cu, .ref bk, .int 0])), (ou, .inl (cL, 1, .inr (.inl (vp_updL fo (0 : Int32).toNatClampNeg 0))))] H := hP
  have hD : va_D A [(h0, .inr (5, [.ref tl, .ref tr, .ref cu, .ref bk, .int 0])), (ou, .inl (cL, 1, .inr (.inl (vp_updL fo (0 : Int32).toNatClampNeg 0))))] := hD
  refine lv_goto (tgt := 14) hx hb dL_about_8 (by decide) ?_
  refine lv_iconst (v := 0) hx hb dL_about_14 (by decide) ?_
  refine W.widen (k := 0) (n := 0) (by omega) (by omega) ?_
  exact W.iret (v := 0) hx hb hr (fun t ht hW => ⟨⟨0, [(h0, .inr (5, [.ref tl, .ref tr, .ref cu, .ref bk, .int 0])), (ou, .inl (cL, 1, .inr (.inl (vp_updL fo (0 : Int32).toNatClampNeg 0))))], rfl, (⟨_, rfl, rfl⟩), by rw [ht]; exact hP, hD⟩, hS.F ht⟩) hS.2.2 dL_about_15
