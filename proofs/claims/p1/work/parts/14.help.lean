set_option maxHeartbeats 1000000 in
set_option maxRecDepth 100000 in
theorem kL_add_1 (l : Launch) (hnt : l.stackTraces = false) (D : va_G) (cI cL cQ : ClassId) (a : Nat) (h0 : Nat) (tl : Nat) (tr : Nat) (cu : Nat) (bk : Nat) (lk : Nat) (lv : Nat) (lo : Nat) (lp : Nat) (ll : Nat) (lf : Nat) (x : Int32) (y : Int32) (ou : Nat) (fo : Nat → Int64) (sz : Nat) (ha : a ≤ 400) (hb0 : 0 < a) : Met l yL_add wsL_add ({ frames := 3, cells := 0, slots := 0, locals := 66 }) (jh_P D vwCl (jT cI cL cQ) cL cQ [.ref h0, .int 1, .int x, .int y, .ref ou] [(h0, .inr (5, [.ref tl, .ref tr, .ref cu, .ref bk, .int 0])), (tl, .inr (4, [.int (nI a), .ref lk, .ref lv, .ref lo, .ref lp, .ref ll, .ref lf, .int 0, .int 0])), (lk, .inl (cI, a, .inl (fun _ => 0))), (lv, .inl (cI, a, .inl (fun _ => 0))), (ou, .inl (cL, 1, .inr (.inl fo)))] sz) (va_Qi (fun (r : Int32) (u : va_W) => r = 0 ∧ u = [(h0, .inr (5, [.ref tl, .ref tr, .ref cu, .ref bk, .int 0])), (tl, .inr (4, [.int (nI a), .ref lk, .ref lv, .ref lo, .ref lp, .ref ll, .ref lf, .int 1, .int 0])), (lk, .inl (cI, a, .inl (upd (fun _ => 0) (0 : Int32).toNatClampNeg x))), (lv, .inl (cI, a, .inl (upd (fun _ => 0) (0 : Int32).toNatClampNeg y))), (ou, .inl (cL, 1, .inr (.inl (vp_updL fo (0 : Int32).toNatClampNeg 0))))]) (jw_B D vwCl (va_A [(h0, .inr (5, [.ref tl, .ref tr, .ref cu, .ref bk, .int 0])), (tl, .inr (4, [.int (nI a), .ref lk, .ref lv, .ref lo, .ref lp, .ref ll, .ref lf, .int 0, .int 0])), (lk, .inl (cI, a, .inl (fun _ => 0))), (lv, .inl (cI, a, .inl (fun _ => 0))), (ou, .inl (cL, 1, .inr (.inl fo)))] sz) (fun u : va_W => u)) (va_A [(h0, .inr (5, [.ref tl, .ref tr, .ref cu, .ref bk, .int 0])), (tl, .inr (4, [.int (nI a), .ref lk, .ref lv, .ref lo, .ref lp, .ref ll, .ref lf, .int 0, .int 0])), (lk, .inl (cI, a, .inl (fun _ => 0))), (lv, .inl (cI, a, .inl (fun _ => 0))), (ou, .inl (cL, 1, .inr (.inl fo)))] sz)) 0 0 (va_A [(h0, .inr (5, [.ref tl, .ref tr, .ref cu, .ref bk, .int 0])), (tl, .inr (4, [.int (nI a), .ref lk, .ref lv, .ref lo, .ref lp, .ref ll, .ref lf, .int 0, .int 0])), (lk, .inl (cI, a, .inl (fun _ => 0))), (lv, .inl (cI, a, .inl (fun _ => 0))), (ou, .inl (cL, 1, .inr (.inl fo)))] sz) := by
  refine va_MetW (hh := [(0, 12, 15, 13)]) (cc := cL_add) (maxL := 6) (ret := (some .int)) (by decide) rfl ?_
  intro p e s m args below meth c s₁ B hml hv
  obtain ⟨rfl, hsz, hP, hK, hN, hD0, hZ⟩ := hv
  have hx := B.exec
  have hb := B.bytes
  have hr := B.returns
  have hts := atoms_spec (ws := wsL_add) B.pre
  have hown : s.vm.findClass RL = some m.cls := findClass_of_methodNamed B.named
  have hlocks := B.notSynchronized
  subst hsz
  have hD := hD0.self (sz := s.heap.size)
  generalize hAe : va_A [(h0, .inr (5, [.ref tl, .ref tr, .ref cu, .ref bk, .int 0])), (tl, .inr (4, [.int (nI a), .ref lk, .ref lv, .ref lo, .ref lp, .ref ll, .ref lf, .int 0, .int 0])), (lk, .inl (cI, a, .inl (fun _ => 0))), (lv, .inl (cI, a, .inl (fun _ => 0))), (ou, .inl (cL, 1, .inr (.inl fo)))] s.heap.size = A at hD ⊢
  have hA : ∀ q : Nat, s.heap.size ≤ q → A q := fun q h => by rw [← hAe]; exact Or.inr h
  have hS : va_S A s.heap s.heap [] := va_S.rf
  have hl := lv_entry ([.ref h0, .int 1, .int x, .int y, .ref ou]) (n := 6) (Nat.le_of_ble_eq_true rfl)
  rw [lg_entry_eq]
  generalize (lg_sl ([.ref h0, .int 1, .int x, .int y, .ref ou]) ++ List.replicate (6 - (lg_sl ([.ref h0, .int 1, .int x, .int y, .ref ou])).length) Slot.unset).toArray = ls at hl ⊢
  have hl : lv_has ls 6 [(0, .ref h0), (1, .int 1), (2, .int x), (3, .int y), (4, .ref ou)] := hl
  refine lv_aload hx hb dL_add_0 (lv_at hl 4 rfl) ?_
  refine lv_iconst (v := 0) hx hb dL_add_2 (by decide) ?_
  refine lv_aload_n hx hb dL_add_3 rfl (lv_at hl 0 rfl) ?_
  refine lv_iload_n hx hb dL_add_4 rfl (lv_at hl 1 rfl) ?_
  refine lv_iload_n hx hb dL_add_5 rfl (lv_at hl 2 rfl) ?_
  refine lv_iload_n hx hb dL_add_6 rfl (lv_at hl 3 rfl) ?_
  refine jw_i (wr := [(ou, .inl (cL, 1, .inr (.inl fo)))]) (va_runV (As := [.int 1, .int x, .int y]) (rest := [.int 0, .ref ou]) ⟨hx, hb, hml, hown, hts⟩ (cJ_add_1 l D cI cL cQ a h0 tl tr cu bk lk lv lo lp ll lf x y _ (by first | assumption | decide | omega) (by first | assumption | decide | omega)) (cwV 3 hts gL_add_X5_add rfl rfl rfl (by decide +kernel) ⟨Nat.le_of_ble_eq_true rfl, Nat.le_of_ble_eq_true rfl⟩) (jw_V hK hN hP hD [0, 1, 2, 3] (by decide) rfl 5 0 rfl rfl rfl) rfl rfl hl.1 rfl (lv_room (Nat.le_of_ble_eq_true rfl)) dL_add_7 ⟨Nat.le_of_ble_eq_true rfl, Nat.le_of_ble_eq_true rfl⟩) hP hD hS hA [0, 1, 2, 3] [4] rfl rfl (by decide) (by decide) (fun r u H locs f_1 hP hD hS => ?_)
  obtain ⟨rfl, rfl⟩ := f_1
  have hP : va_P D vwCl [(ou, .inl (cL, 1, .inr (.inl fo))), (h0, .inr (5, [.ref tl, .ref tr, .ref cu, .ref bk, .int 0])), (tl, .inr (4, [.int (nI a), .ref lk, .ref lv, .ref lo, .ref lp, .ref ll, .ref lf, .int 1, .int 0])), (lk, .inl (cI, a, .inl (upd (fun _ => 0) (0 : Int32).toNatClampNeg x))), (lv, .inl (cI, a, .inl (upd (fun _ => 0) (0 : Int32).toNatClampNeg y)))] H := hP
  have hD : va_D A [(ou, .inl (cL, 1, .inr (.inl fo))), (h0, .inr (5, [.ref tl, .ref tr, .ref cu, .ref bk, .int 0])), (tl, .inr (4, [.int (nI a), .ref lk, .ref lv, .ref lo, .ref lp, .ref ll, .ref lf, .int 1, .int 0])), (lk, .inl (cI, a, .inl (upd (fun _ => 0) (0 : Int32).toNatClampNeg x))), (lv, .inl (cI, a, .inl (upd (fun _ => 0) (0 : Int32).toNatClampNeg y)))] := hD
  refine lv_i2l (v := 0) hx hb dL_add_10 (by first | rfl | decide) ?_
  refine va_last hx hb hK hP hD hS 0 1 rfl rfl (by unfold vp_in; decide) dL_add_11 (fun H locs hP hD hS => ?_)
  have hP : va_P D vwCl [(ou, .inl (cL, 1, .inr (.inl (vp_updL fo (0 : Int32).toNatClampNeg 0)))), (h0, .inr (5, [.ref tl, .ref tr, .ref cu, .ref bk, .int 0])), (tl, .inr (4, [.int (nI a), .ref lk, .ref lv, .ref lo, .ref lp, .ref ll, .ref lf, .int 1, .int 0])), (lk, .inl (cI, a, .inl (upd (fun _ => 0) (0 : Int32).toNatClampNeg x))), (lv, .inl (cI, a, .inl (upd (fun _ => 0) (0 : Int32).toNatClampNeg y)))] H := hP
  have hD : va_D A [(ou, .inl (cL, 1, .inr (.inl (vp_updL fo (0 : Int32).toNatClampNeg 0)))), (h0, .inr (5, [.ref tl, .ref tr, .ref cu, .ref bk, .int 0])), (tl, .inr (4, [.int (nI a), .ref lk, .ref lv, .ref lo, .ref lp, .ref ll, .ref lf, .int 1, .int 0])), (lk, .inl (cI, a, .inl (upd (fun _ => 0) (0 : Int32).toNatClampNeg x))), (lv, .inl (cI, a, .inl (upd (fun _ => 0) (0 : Int32).toNatClampNeg y)))] := hD
  refine lv_goto (tgt := 19) hx hb dL_add_12 (by decide) ?_
  refine lv_iconst (v := 0) hx hb dL_add_19 (by decide) ?_
  have hP := hP.sub (ws' := [(h0, .inr (5, [.ref tl, .ref tr, .ref cu, .ref bk, .int 0])), (tl, .inr (4, [.int (nI a), .ref lk, .ref lv, .ref lo, .ref lp, .ref ll, .ref lf, .int 1, .int 0])), (lk, .inl (cI, a, .inl (upd (fun _ => 0) (0 : Int32).toNatClampNeg x))), (lv, .inl (cI, a, .inl (upd (fun _ => 0) (0 : Int32).toNatClampNeg y))), (ou, .inl (cL, 1, .inr (.inl (vp_updL fo (0 : Int32).toNatClampNeg 0))))]) [1, 2, 3, 4, 0] rfl
  have hD := hD.sub (ws' := [(h0, .inr (5, [.ref tl, .ref tr, .ref cu, .ref bk, .int 0])), (tl, .inr (4, [.int (nI a), .ref lk, .ref lv, .ref lo, .ref lp, .ref ll, .ref lf, .int 1, .int 0])), (lk, .inl (cI, a, .inl (upd (fun _ => 0) (0 : Int32).toNatClampNeg x))), (lv, .inl (cI, a, .inl (upd (fun _ => 0) (0 : Int32).toNatClampNeg y))), (ou, .inl (cL, 1, .inr (.inl (vp_updL fo (0 : Int32).toNatClampNeg 0))))]) [1, 2, 3, 4, 0] (by decide) rfl
  refine W.widen (k := 0) (n := 0) (by omega) (by omega) ?_
  exact W.iret (v := 0) hx hb hr (fun t ht hW => ⟨⟨0, [(h0, .inr (5, [.ref tl, .ref tr, .ref cu, .ref bk, .int 0])), (tl, .inr (4, [.int (nI a), .ref lk, .ref lv, .ref lo, .ref lp, .ref ll, .ref lf, .int 1, .int 0])), (lk, .inl (cI, a, .inl (upd (fun _ => 0) (0 : Int32).toNatClampNeg x))), (lv, .inl (cI, a, .inl (upd (fun _ => 0) (0 : Int32).toNatClampNeg y))), (ou, .inl (cL, 1, .inr (.inl (vp_updL fo (0 : Int32).toNatClampNeg 0))))], rfl, (by exact ⟨rfl, rfl⟩), by rw [ht]; exact hP, hD⟩, hS.F ht⟩) hS.2.2 dL_add_20
set_option maxHeartbeats 1000000 in
set_option maxRecDepth 100000 in
theorem kL_add_1t (l : Launch) (hnt : l.stackTraces = false) (D : va_G) (cI cL cQ : ClassId) (a : Nat) (h0 : Nat) (tl : Nat) (tr : Nat) (cu : Nat) (bk : Nat) (lk : Nat) (lv : Nat) (lo : Nat) (lp : Nat) (ll : Nat) (lf : Nat) (x : Int32) (y : Int32) (ou : Nat) (fo : Nat → Int64) (sz : Nat) (hb0 : a = 0) : Met l yL_add wsL_add ({ frames := 8, cells := 1, slots := 6, locals := 126 }) (jh_P D vwCl (jT cI cL cQ) cL cQ [.ref h0, .int 1, .int x, .int y, .ref ou] [(h0, .inr (5, [.ref tl, .ref tr, .ref cu, .ref bk, .int 0])), (tl, .inr (4, [.int (nI a), .ref lk, .ref lv, .ref lo, .ref lp, .ref ll, .ref lf, .int 0, .int 0])), (ou, .inl (cL, 1, .inr (.inl fo)))] sz) (va_Qi (fun (r : Int32) (u : va_W) => r = 1 ∧ u = [(h0, .inr (5, [.ref tl, .ref tr, .ref cu, .ref bk, .int 0])), (tl, .inr (4, [.int (nI a), .ref lk, .ref lv, .ref lo, .ref lp, .ref ll, .ref lf, .int 0, .int 0])), (ou, .inl (cL, 1, .inr (.inl fo)))]) (jw_B D vwCl (va_A [(h0, .inr (5, [.ref tl, .ref tr, .ref cu, .ref bk, .int 0])), (tl, .inr (4, [.int (nI a), .ref lk, .ref lv, .ref lo, .ref lp, .ref ll, .ref lf, .int 0, .int 0])), (ou, .inl (cL, 1, .inr (.inl fo)))] sz) (fun u : va_W => u)) (va_A [(h0, .inr (5, [.ref tl, .ref tr, .ref cu, .ref bk, .int 0])), (tl, .inr (4, [.int (nI a), .ref lk, .ref lv, .ref lo, .ref lp, .ref ll, .ref lf, .int 0, .int 0])), (ou, .inl (cL, 1, .inr (.inl fo)))] sz)) 1 6 (va_A [(h0, .inr (5, [.ref tl, .ref tr, .ref cu, .ref bk, .int 0])), (tl, .inr (4, [.int (nI a), .ref lk, .ref lv, .ref lo, .ref lp, .ref ll, .ref lf, .int 0, .int 0])), (ou, .inl (cL, 1, .inr (.inl fo)))] sz) := by
  refine va_MetW (hh := [(0, 12, 15, 13)]) (cc := cL_add) (maxL := 6) (ret := (some .int)) (by decide) rfl ?_
  intro p e s m args below meth c s₁ B hml hv
  obtain ⟨rfl, hsz, hP, hK, hN, hD0, hZ⟩ := hv
  have hx := B.exec
  have hb := B.bytes
  have hr := B.returns
  have hts := atoms_spec (ws := wsL_add) B.pre
  have hown : s.vm.findClass RL = some m.cls := findClass_of_methodNamed B.named
  have hlocks := B.notSynchronized
  subst hsz
  have hD := hD0.self (sz := s.heap.size)
  generalize hAe : va_A [(h0, .inr (5, [.ref tl, .ref tr, .ref cu, .ref bk, .int 0])), (tl, .inr (4, [.int (nI a), .ref lk, .ref lv, .ref lo, .ref lp, .ref ll, .ref lf, .int 0, .int 0])), (ou, .inl (cL, 1, .inr (.inl fo)))] s.heap.size = A at hD ⊢
  have hA : ∀ q : Nat, s.heap.size ≤ q → A q := fun q h => by rw [← hAe]; exact Or.inr h
  have hS : va_S A s.heap s.heap [] := va_S.rf
  have hl := lv_entry ([.ref h0, .int 1, .int x, .int y, .ref ou]) (n := 6) (Nat.le_of_ble_eq_true rfl)
  rw [lg_entry_eq]
  generalize (lg_sl ([.ref h0, .int 1, .int x, .int y, .ref ou]) ++ List.replicate (6 - (lg_sl ([.ref h0, .int 1, .int x, .int y, .ref ou])).length) Slot.unset).toArray = ls at hl ⊢
  have hl : lv_has ls 6 [(0, .ref h0), (1, .int 1), (2, .int x), (3, .int y), (4, .ref ou)] := hl
  refine lv_aload hx hb dL_add_0 (lv_at hl 4 rfl) ?_
  refine lv_iconst (v := 0) hx hb dL_add_2 (by decide) ?_
  refine lv_aload_n hx hb dL_add_3 rfl (lv_at hl 0 rfl) ?_
  refine lv_iload_n hx hb dL_add_4 rfl (lv_at hl 1 rfl) ?_
  refine lv_iload_n hx hb dL_add_5 rfl (lv_at hl 2 rfl) ?_
  refine lv_iload_n hx hb dL_add_6 rfl (lv_at hl 3 rfl) ?_
  refine jx_thr (vx_runV (As := [.int 1, .int x, .int y]) (rest := [.int 0, .ref ou]) ⟨hx, hb, hml, hown, hts⟩ (cJ_add_1t l hnt D cI cL cQ a h0 tl tr cu bk lk lv lo lp ll lf x y (by first | assumption | decide | omega)) (cwV 3 hts gL_add_X5_add rfl rfl rfl (by decide +kernel) ⟨Nat.le_of_ble_eq_true rfl, Nat.le_of_ble_eq_true rfl⟩) (jt_V hK hN hZ hP [0, 1] rfl 5 0 rfl rfl rfl) rfl rfl hl.1 rfl (lv_room (Nat.le_of_ble_eq_true rfl)) dL_add_7 ⟨Nat.le_of_ble_eq_true rfl, Nat.le_of_ble_eq_true rfl⟩) (fun ce q9 H1 hz hk hce hcv hcl => ?_)
  have hP : va_P D vwCl [(h0, .inr (5, [.ref tl, .ref tr, .ref cu, .ref bk, .int 0])), (tl, .inr (4, [.int (nI a), .ref lk, .ref lv, .ref lo, .ref lp, .ref ll, .ref lf, .int 0, .int 0])), (ou, .inl (cL, 1, .inr (.inl fo)))] H1 := hP.kept (fun k x hx => hk x.1 (hP k x hx).lt)
  have hS : va_S A s.heap H1 [] := ⟨hz, fun q h1 _ => hk q h1, fun _ h => nomatch h⟩
  generalize H1 = H at hP hS hce ⊢
  have htab : c.exceptionTable.toList = [⟨0, 12, 15, 13⟩] := vx_table (x := yL_add) B (hts _ List.mem_cons_self)
  refine jc_first (name := "") hown ⟨0, 12, 15, 13⟩ [] htab (by decide) (by decide) (hts (.classLink RL 13 "java/lang/IllegalStateException") (by decide +kernel)) hce hcv hcl ?_
  refine W.eq (g2 := F0 m 15 ls [.ref q9]) rfl ?_
  refine W.widen (k := 1) (n := 6) (by omega) (by omega) ?_
  refine lv_astore (lv' := [(5, .ref q9), (0, .ref h0), (1, .int 1), (2, .int x), (3, .int y), (4, .ref ou)]) hx hb dL_add_15 hl (by decide) rfl (fun ls hl => ?_)
  refine lv_iconst (v := 1) hx hb dL_add_17 (by decide) ?_
  refine W.widen (k := 1) (n := 6) (by omega) (by omega) ?_
  exact W.iret (v := 1) hx hb hr (fun t ht hW => ⟨⟨1, [(h0, .inr (5, [.ref tl, .ref tr, .ref cu, .ref bk, .int 0])), (tl, .inr (4, [.int (nI a), .ref lk, .ref lv, .ref lo, .ref lp, .ref ll, .ref lf, .int 0, .int 0])), (ou, .inl (cL, 1, .inr (.inl fo)))], rfl, (by exact ⟨rfl, rfl⟩), by rw [ht]; exact hP, hD⟩, hS.F ht⟩) hS.2.2 dL_add_18
set_option maxHeartbeats 1000000 in
set_option maxRecDepth 100000 in
theorem kL_add_0 (l : Launch) (hnt : l.stackTraces = false) (D : va_G) (cI cL cQ : ClassId) (b : Nat) (h0 : Nat) (tl : Nat) (tr : Nat) (cu : Nat) (bk : Nat) (rk : Nat) (rv : Nat) (ro : Nat) (rp : Nat) (rl : Nat) (rf : Nat) (x : Int32) (y : Int32) (ou : Nat) (fo : Nat → Int64) (sz : Nat) (ha : b ≤ 400) (hb0 : 0 < b) : Met l yL_add wsL_add ({ frames := 3, cells := 0, slots := 0, locals := 66 }) (jh_P D vwCl (jT cI cL cQ) cL cQ [.ref h0, .int 0, .int x, .int y, .ref ou] [(h0, .inr (5, [.ref tl, .ref tr, .ref cu, .ref bk, .int 0])), (tr, .inr (4, [.int (nI b), .ref rk, .ref rv, .ref ro, .ref rp, .ref rl, .ref rf, .int 0, .int 0])), (rk, .inl (cI, b, .inl (fun _ => 0))), (rv, .inl (cI, b, .inl (fun _ => 0))), (ou, .inl (cL, 1, .inr (.inl fo)))] sz) (va_Qi (fun (r : Int32) (u : va_W) => r = 0 ∧ u = [(h0, .inr (5, [.ref tl, .ref tr, .ref cu, .ref bk, .int 0])), (tr, .inr (4, [.int (nI b), .ref rk, .ref rv, .ref ro, .ref rp, .ref rl, .ref rf, .int 1, .int 0])), (rk, .inl (cI, b, .inl (upd (fun _ => 0) (0 : Int32).toNatClampNeg x))), (rv, .inl (cI, b, .inl (upd (fun _ => 0) (0 : Int32).toNatClampNeg y))), (ou, .inl (cL, 1, .inr (.inl (vp_updL fo (0 : Int32).toNatClampNeg 0))))]) (jw_B D vwCl (va_A [(h0, .inr (5, [.ref tl, .ref tr, .ref cu, .ref bk, .int 0])), (tr, .inr (4, [.int (nI b), .ref rk, .ref rv, .ref ro, .ref rp, .ref rl, .ref rf, .int 0, .int 0])), (rk, .inl (cI, b, .inl (fun _ => 0))), (rv, .inl (cI, b, .inl (fun _ => 0))), (ou, .inl (cL, 1, .inr (.inl fo)))] sz) (fun u : va_W => u)) (va_A [(h0, .inr (5, [.ref tl, .ref tr, .ref cu, .ref bk, .int 0])), (tr, .inr (4, [.int (nI b), .ref rk, .ref rv, .ref ro, .ref rp, .ref rl, .ref rf, .int 0, .int 0])), (rk, .inl (cI, b, .inl (fun _ => 0))), (rv, .inl (cI, b, .inl (fun _ => 0))), (ou, .inl (cL, 1, .inr (.inl fo)))] sz)) 0 0 (va_A [(h0, .inr (5, [.ref tl, .ref tr, .ref cu, .ref bk, .int 0])), (tr, .inr (4, [.int (nI b), .ref rk, .ref rv, .ref ro, .ref rp, .ref rl, .ref rf, .int 0, .int 0])), (rk, .inl (cI, b, .inl (fun _ => 0))), (rv, .inl (cI, b, .inl (fun _ => 0))), (ou, .inl (cL, 1, .inr (.inl fo)))] sz) := by
  refine va_MetW (hh := [(0, 12, 15, 13)]) (cc := cL_add) (maxL := 6) (ret := (some .int)) (by decide) rfl ?_
  intro p e s m args below meth c s₁ B hml hv
  obtain ⟨rfl, hsz, hP, hK, hN, hD0, hZ⟩ := hv
  have hx := B.exec
  have hb := B.bytes
  have hr := B.returns
  have hts := atoms_spec (ws := wsL_add) B.pre
  have hown : s.vm.findClass RL = some m.cls := findClass_of_methodNamed B.named
  have hlocks := B.notSynchronized
  subst hsz
  have hD := hD0.self (sz := s.heap.size)
  generalize hAe : va_A [(h0, .inr (5, [.ref tl, .ref tr, .ref cu, .ref bk, .int 0])), (tr, .inr (4, [.int (nI b), .ref rk, .ref rv, .ref ro, .ref rp, .ref rl, .ref rf, .int 0, .int 0])), (rk, .inl (cI, b, .inl (fun _ => 0))), (rv, .inl (cI, b, .inl (fun _ => 0))), (ou, .inl (cL, 1, .inr (.inl fo)))] s.heap.size = A at hD ⊢
  have hA : ∀ q : Nat, s.heap.size ≤ q → A q := fun q h => by rw [← hAe]; exact Or.inr h
  have hS : va_S A s.heap s.heap [] := va_S.rf
  have hl := lv_entry ([.ref h0, .int 0, .int x, .int y, .ref ou]) (n := 6) (Nat.le_of_ble_eq_true rfl)
  rw [lg_entry_eq]
  generalize (lg_sl ([.ref h0, .int 0, .int x, .int y, .ref ou]) ++ List.replicate (6 - (lg_sl ([.ref h0, .int 0, .int x, .int y, .ref ou])).length) Slot.unset).toArray = ls at hl ⊢
  have hl : lv_has ls 6 [(0, .ref h0), (1, .int 0), (2, .int x), (3, .int y), (4, .ref ou)] := hl
  refine lv_aload hx hb dL_add_0 (lv_at hl 4 rfl) ?_
  refine lv_iconst (v := 0) hx hb dL_add_2 (by decide) ?_
  refine lv_aload_n hx hb dL_add_3 rfl (lv_at hl 0 rfl) ?_
  refine lv_iload_n hx hb dL_add_4 rfl (lv_at hl 1 rfl) ?_
  refine lv_iload_n hx hb dL_add_5 rfl (lv_at hl 2 rfl) ?_
  refine lv_iload_n hx hb dL_add_6 rfl (lv_at hl 3 rfl) ?_
  refine jw_i (wr := [(ou, .inl (cL, 1, .inr (.inl fo)))]) (va_runV (As := [.int 0, .int x, .int y]) (rest := [.int 0, .ref ou]) ⟨hx, hb, hml, hown, hts⟩ (cJ_add_0 l D cI cL cQ b h0 tl tr cu bk rk rv ro rp rl rf x y _ (by first | assumption | decide | omega) (by first | assumption | decide | omega)) (cwV 3 hts gL_add_X5_add rfl rfl rfl (by decide +kernel) ⟨Nat.le_of_ble_eq_true rfl, Nat.le_of_ble_eq_true rfl⟩) (jw_V hK hN hP hD [0, 1, 2, 3] (by decide) rfl 5 0 rfl rfl rfl) rfl rfl hl.1 rfl (lv_room (Nat.le_of_ble_eq_true rfl)) dL_add_7 ⟨Nat.le_of_ble_eq_true rfl, Nat.le_of_ble_eq_true rfl⟩) hP hD hS hA [0, 1, 2, 3] [4] rfl rfl (by decide) (by decide) (fun r u H locs f_1 hP hD hS => ?_)
  obtain ⟨rfl, rfl⟩ := f_1
  have hP : va_P D vwCl [(ou, .inl (cL, 1, .inr (.inl fo))), (h0, .inr (5, [.ref tl, .ref tr, .ref cu, .ref bk, .int 0])), (tr, .inr (4, [.int (nI b), .ref rk, .ref rv, .ref ro, .ref rp, .ref rl, .ref rf, .int 1, .int 0])), (rk, .inl (cI, b, .inl (upd (fun _ => 0) (0 : Int32).toNatClampNeg x))), (rv, .inl (cI, b, .inl (upd (fun _ => 0) (0 : Int32).toNatClampNeg y)))] H := hP
  have hD : va_D A [(ou, .inl (cL, 1, .inr (.inl fo))), (h0, .inr (5, [.ref tl, .ref tr, .ref cu, .ref bk, .int 0])), (tr, .inr (4, [.int (nI b), .ref rk, .ref rv, .ref ro, .ref rp, .ref rl, .ref rf, .int 1, .int 0])), (rk, .inl (cI, b, .inl (upd (fun _ => 0) (0 : Int32).toNatClampNeg x))), (rv, .inl (cI, b, .inl (upd (fun _ => 0) (0 : Int32).toNatClampNeg y)))] := hD
  refine lv_i2l (v := 0) hx hb dL_add_10 (by first | rfl | decide) ?_
  refine va_last hx hb hK hP hD hS 0 1 rfl rfl (by unfold vp_in; decide) dL_add_11 (fun H locs hP hD hS => ?_)
  have hP : va_P D vwCl [(ou, .inl (cL, 1, .inr (.inl (vp_updL fo (0 : Int32).toNatClampNeg 0)))), (h0, .inr (5, [.ref tl, .ref tr, .ref cu, .ref bk, .int 0])), (tr, .inr (4, [.int (nI b), .ref rk, .ref rv, .ref ro, .ref rp, .ref rl, .ref rf, .int 1, .int 0])), (rk, .inl (cI, b, .inl (upd (fun _ => 0) (0 : Int32).toNatClampNeg x))), (rv, .inl (cI, b, .inl (upd (fun _ => 0) (0 : Int32).toNatClampNeg y)))] H := hP
  have hD : va_D A [(ou, .inl (cL, 1, .inr (.inl (vp_updL fo (0 : Int32).toNatClampNeg 0)))), (h0, .inr (5, [.ref tl, .ref tr, .ref cu, .ref bk, .int 0])), (tr, .inr (4, [.int (nI b), .ref rk, .ref rv, .ref ro, .ref rp, .ref rl, .ref rf, .int 1, .int 0])), (rk, .inl (cI, b, .inl (upd (fun _ => 0) (0 : Int32).toNatClampNeg x))), (rv, .inl (cI, b, .inl (upd (fun _ => 0) (0 : Int32).toNatClampNeg y)))] := hD
  refine lv_goto (tgt := 19) hx hb dL_add_12 (by decide) ?_
  refine lv_iconst (v := 0) hx hb dL_add_19 (by decide) ?_
  have hP := hP.sub (ws' := [(h0, .inr (5, [.ref tl, .ref tr, .ref cu, .ref bk, .int 0])), (tr, .inr (4, [.int (nI b), .ref rk, .ref rv, .ref ro, .ref rp, .ref rl, .ref rf, .int 1, .int 0])), (rk, .inl (cI, b, .inl (upd (fun _ => 0) (0 : Int32).toNatClampNeg x))), (rv, .inl (cI, b, .inl (upd (fun _ => 0) (0 : Int32).toNatClampNeg y))), (ou, .inl (cL, 1, .inr (.inl (vp_updL fo (0 : Int32).toNatClampNeg 0))))]) [1, 2, 3, 4, 0] rfl
  have hD := hD.sub (ws' := [(h0, .inr (5, [.ref tl, .ref tr, .ref cu, .ref bk, .int 0])), (tr, .inr (4, [.int (nI b), .ref rk, .ref rv, .ref ro, .ref rp, .ref rl, .ref rf, .int 1, .int 0])), (rk, .inl (cI, b, .inl (upd (fun _ => 0) (0 : Int32).toNatClampNeg x))), (rv, .inl (cI, b, .inl (upd (fun _ => 0) (0 : Int32).toNatClampNeg y))), (ou, .inl (cL, 1, .inr (.inl (vp_updL fo (0 : Int32).toNatClampNeg 0))))]) [1, 2, 3, 4, 0] (by decide) rfl
  refine W.widen (k := 0) (n := 0) (by omega) (by omega) ?_
  exact W.iret (v := 0) hx hb hr (fun t ht hW => ⟨⟨0, [(h0, .inr (5, [.ref tl, .ref tr, .ref cu, .ref bk, .int 0])), (tr, .inr (4, [.int (nI b), .ref rk, .ref rv, .ref ro, .ref rp, .ref rl, .ref rf, .int 1, .int 0])), (rk, .inl (cI, b, .inl (upd (fun _ => 0) (0 : Int32).toNatClampNeg x))), (rv, .inl (cI, b, .inl (upd (fun _ => 0) (0 : Int32).toNatClampNeg y))), (ou, .inl (cL, 1, .inr (.inl (vp_updL fo (0 : Int32).toNatClampNeg 0))))], rfl, (by exact ⟨rfl, rfl⟩), by rw [ht]; exact hP, hD⟩, hS.F ht⟩) hS.2.2 dL_add_20
set_option maxHeartbeats 1000000 in
set_option maxRecDepth 100000 in
theorem kL_add_0t (l : Launch) (hnt : l.stackTraces = false) (D : va_G) (cI cL cQ : ClassId) (b : Nat) (h0 : Nat) (tl : Nat) (tr : Nat) (cu : Nat) (bk : Nat) (rk : Nat) (rv : Nat) (ro : Nat) (rp : Nat) (rl : Nat) (rf : Nat) (x : Int32) (y : Int32) (ou : Nat) (fo : Nat → Int64) (sz : Nat) (hb0 : b = 0) : Met l yL_add wsL_add ({ frames := 8, cells := 1, slots := 6, locals := 126 }) (jh_P D vwCl (jT cI cL cQ) cL cQ [.ref h0, .int 0, .int x, .int y, .ref ou] [(h0, .inr (5, [.ref tl, .ref tr, .ref cu, .ref bk, .int 0])), (tr, .inr (4, [.int (nI b), .ref rk, .ref rv, .ref ro, .ref rp, .ref rl, .ref rf, .int 0, .int 0])), (ou, .inl (cL, 1, .inr (.inl fo)))] sz) (va_Qi (fun (r : Int32) (u : va_W) => r = 1 ∧ u = [(h0, .inr (5, [.ref tl, .ref tr, .ref cu, .ref bk, .int 0])), (tr, .inr (4, [.int (nI b), .ref rk, .ref rv, .ref ro, .ref rp, .ref rl, .ref rf, .int 0, .int 0])), (ou, .inl (cL, 1, .inr (.inl fo)))]) (jw_B D vwCl (va_A [(h0, .inr (5, [.ref tl, .ref tr, .ref cu, .ref bk, .int 0])), (tr, .inr (4, [.int (nI b), .ref rk, .ref rv, .ref ro, .ref rp, .ref rl, .ref rf, .int 0, .int 0])), (ou, .inl (cL, 1, .inr (.inl fo)))] sz) (fun u : va_W => u)) (va_A [(h0, .inr (5, [.ref tl, .ref tr, .ref cu, .ref bk, .int 0])), (tr, .inr (4, [.int (nI b), .ref rk, .ref rv, .ref ro, .ref rp, .ref rl, .ref rf, .int 0, .int 0])), (ou, .inl (cL, 1, .inr (.inl fo)))] sz)) 1 6 (va_A [(h0, .inr (5, [.ref tl, .ref tr, .ref cu, .ref bk, .int 0])), (tr, .inr (4, [.int (nI b), .ref rk, .ref rv, .ref ro, .ref rp, .ref rl, .ref rf, .int 0, .int 0])), (ou, .inl (cL, 1, .inr (.inl fo)))] sz) := by
  refine va_MetW (hh := [(0, 12, 15, 13)]) (cc := cL_add) (maxL := 6) (ret := (some .int)) (by decide) rfl ?_
  intro p e s m args below meth c s₁ B hml hv
  obtain ⟨rfl, hsz, hP, hK, hN, hD0, hZ⟩ := hv
  have hx := B.exec
  have hb := B.bytes
  have hr := B.returns
  have hts := atoms_spec (ws := wsL_add) B.pre
  have hown : s.vm.findClass RL = some m.cls := findClass_of_methodNamed B.named
  have hlocks := B.notSynchronized
  subst hsz
  have hD := hD0.self (sz := s.heap.size)
  generalize hAe : va_A [(h0, .inr (5, [.ref tl, .ref tr, .ref cu, .ref bk, .int 0])), (tr, .inr (4, [.int (nI b), .ref rk, .ref rv, .ref ro, .ref rp, .ref rl, .ref rf, .int 0, .int 0])), (ou, .inl (cL, 1, .inr (.inl fo)))] s.heap.size = A at hD ⊢
  have hA : ∀ q : Nat, s.heap.size ≤ q → A q := fun q h => by rw [← hAe]; exact Or.inr h
  have hS : va_S A s.heap s.heap [] := va_S.rf
  have hl := lv_entry ([.ref h0, .int 0, .int x, .int y, .ref ou]) (n := 6) (Nat.le_of_ble_eq_true rfl)
  rw [lg_entry_eq]
  generalize (lg_sl ([.ref h0, .int 0, .int x, .int y, .ref ou]) ++ List.replicate (6 - (lg_sl ([.ref h0, .int 0, .int x, .int y, .ref ou])).length) Slot.unset).toArray = ls at hl ⊢
  have hl : lv_has ls 6 [(0, .ref h0), (1, .int 0), (2, .int x), (3, .int y), (4, .ref ou)] := hl
  refine lv_aload hx hb dL_add_0 (lv_at hl 4 rfl) ?_
  refine lv_iconst (v := 0) hx hb dL_add_2 (by decide) ?_
  refine lv_aload_n hx hb dL_add_3 rfl (lv_at hl 0 rfl) ?_
  refine lv_iload_n hx hb dL_add_4 rfl (lv_at hl 1 rfl) ?_
  refine lv_iload_n hx hb dL_add_5 rfl (lv_at hl 2 rfl) ?_
  refine lv_iload_n hx hb dL_add_6 rfl (lv_at hl 3 rfl) ?_
  refine jx_thr (vx_runV (As := [.int 0, .int x, .int y]) (rest := [.int 0, .ref ou]) ⟨hx, hb, hml, hown, hts⟩ (cJ_add_0t l hnt D cI cL cQ b h0 tl tr cu bk rk rv ro rp rl rf x y (by first | assumption | decide | omega)) (cwV 3 hts gL_add_X5_add rfl rfl rfl (by decide +kernel) ⟨Nat.le_of_ble_eq_true rfl, Nat.le_of_ble_eq_true rfl⟩) (jt_V hK hN hZ hP [0, 1] rfl 5 0 rfl rfl rfl) rfl rfl hl.1 rfl (lv_room (Nat.le_of_ble_eq_true rfl)) dL_add_7 ⟨Nat.le_of_ble_eq_true rfl, Nat.le_of_ble_eq_true rfl⟩) (fun ce q9 H1 hz hk hce hcv hcl => ?_)
  have hP : va_P D vwCl [(h0, .inr (5, [.ref tl, .ref tr, .ref cu, .ref bk, .int 0])), (tr, .inr (4, [.int (nI b), .ref rk, .ref rv, .ref ro, .ref rp, .ref rl, .ref rf, .int 0, .int 0])), (ou, .inl (cL, 1, .inr (.inl fo)))] H1 := hP.kept (fun k x hx => hk x.1 (hP k x hx).lt)
  have hS : va_S A s.heap H1 [] := ⟨hz, fun q h1 _ => hk q h1, fun _ h => nomatch h⟩
  generalize H1 = H at hP hS hce ⊢
  have htab : c.exceptionTable.toList = [⟨0, 12, 15, 13⟩] := vx_table (x := yL_add) B (hts _ List.mem_cons_self)
  refine jc_first (name := "") hown ⟨0, 12, 15, 13⟩ [] htab (by decide) (by decide) (hts (.classLink RL 13 "java/lang/IllegalStateException") (by decide +kernel)) hce hcv hcl ?_
  refine W.eq (g2 := F0 m 15 ls [.ref q9]) rfl ?_
  refine W.widen (k := 1) (n := 6) (by omega) (by omega) ?_
  refine lv_astore (lv' := [(5, .ref q9), (0, .ref h0), (1, .int 0), (2, .int x), (3, .int y), (4, .ref ou)]) hx hb dL_add_15 hl (by decide) rfl (fun ls hl => ?_)
  refine lv_iconst (v := 1) hx hb dL_add_17 (by decide) ?_
  refine W.widen (k := 1) (n := 6) (by omega) (by omega) ?_
  exact W.iret (v := 1) hx hb hr (fun t ht hW => ⟨⟨1, [(h0, .inr (5, [.ref tl, .ref tr, .ref cu, .ref bk, .int 0])), (tr, .inr (4, [.int (nI b), .ref rk, .ref rv, .ref ro, .ref rp, .ref rl, .ref rf, .int 0, .int 0])), (ou, .inl (cL, 1, .inr (.inl fo)))], rfl, (by exact ⟨rfl, rfl⟩), by rw [ht]; exact hP, hD⟩, hS.F ht⟩) hS.2.2 dL_add_18
set_option maxHeartbeats 1000000 in
set_option maxRecDepth 100000 in
theorem kL_kind (l : Launch) (hnt : l.stackTraces = false) (D : va_G) (cI cL cQ : ClassId) (h0 : Nat) (tl : Nat) (tr : Nat) (cu : Nat) (bk : Nat) (he : Nat) (ma : Nat) (x : Int32) (sz : Nat) (h1 : ¬ x < 0) (h2 : ¬ 4 ≤ x) : Met l yL_kind wsL_kind ({ frames := 3, cells := 0, slots := 0, locals := 64 }) (jh_P D vwCl (jT cI cL cQ) cL cQ [.ref h0, .int x] [(h0, .inr (5, [.ref tl, .ref tr, .ref cu, .ref bk, .int 0])), (cu, .inr (0, [.ref tl, .ref tr, .ref he, .ref ma, .int 0, .int 0, .long 0])), (he, .inr (2, [.int 0, .int 0, .int 0, .int 0, .int (-1), .int (-1), .int 0]))] sz) (va_Qi (fun (r : Int32) (u : va_W) => r = 0 ∧ u = [(h0, .inr (5, [.ref tl, .ref tr, .ref cu, .ref bk, .int 0])), (cu, .inr (0, [.ref tl, .ref tr, .ref he, .ref ma, .int 0, .int x, .long 0])), (he, .inr (2, [.int 0, .int 0, .int 0, .int 0, .int (-1), .int (-1), .int 0]))]) (jw_B D vwCl (va_A [(h0, .inr (5, [.ref tl, .ref tr, .ref cu, .ref bk, .int 0])), (cu, .inr (0, [.ref tl, .ref tr, .ref he, .ref ma, .int 0, .int 0, .long 0])), (he, .inr (2, [.int 0, .int 0, .int 0, .int 0, .int (-1), .int (-1), .int 0]))] sz) (fun u : va_W => u)) (va_A [(h0, .inr (5, [.ref tl, .ref tr, .ref cu, .ref bk, .int 0])), (cu, .inr (0, [.ref tl, .ref tr, .ref he, .ref ma, .int 0, .int 0, .long 0])), (he, .inr (2, [.int 0, .int 0, .int 0, .int 0, .int (-1), .int (-1), .int 0]))] sz)) 0 0 (va_A [(h0, .inr (5, [.ref tl, .ref tr, .ref cu, .ref bk, .int 0])), (cu, .inr (0, [.ref tl, .ref tr, .ref he, .ref ma, .int 0, .int 0, .long 0])), (he, .inr (2, [.int 0, .int 0, .int 0, .int 0, .int (-1), .int (-1), .int 0]))] sz) := by
  refine va_MetW (hh := [(0, 5, 8, 19)]) (cc := cL_kind) (maxL := 3) (ret := (some .int)) (by decide) rfl ?_
  intro p e s m args below meth c s₁ B hml hv
  obtain ⟨rfl, hsz, hP, hK, hN, hD0, hZ⟩ := hv
  have hx := B.exec
  have hb := B.bytes
  have hr := B.returns
  have hts := atoms_spec (ws := wsL_kind) B.pre
  have hown : s.vm.findClass RL = some m.cls := findClass_of_methodNamed B.named
  have hlocks := B.notSynchronized
  subst hsz
  have hD := hD0.self (sz := s.heap.size)
  generalize hAe : va_A [(h0, .inr (5, [.ref tl, .ref tr, .ref cu, .ref bk, .int 0])), (cu, .inr (0, [.ref tl, .ref tr, .ref he, .ref ma, .int 0, .int 0, .long 0])), (he, .inr (2, [.int 0, .int 0, .int 0, .int 0, .int (-1), .int (-1), .int 0]))] s.heap.size = A at hD ⊢
  have hA : ∀ q : Nat, s.heap.size ≤ q → A q := fun q h => by rw [← hAe]; exact Or.inr h
  have hS : va_S A s.heap s.heap [] := va_S.rf
  have hl := lv_entry ([.ref h0, .int x]) (n := 3) (Nat.le_of_ble_eq_true rfl)
  rw [lg_entry_eq]
  generalize (lg_sl ([.ref h0, .int x]) ++ List.replicate (3 - (lg_sl ([.ref h0, .int x])).length) Slot.unset).toArray = ls at hl ⊢
  have hl : lv_has ls 3 [(0, .ref h0), (1, .int x)] := hl
  refine lv_aload_n hx hb dL_kind_0 rfl (lv_at hl 0 rfl) ?_
  refine lv_iload_n hx hb dL_kind_1 rfl (lv_at hl 1 rfl) ?_
  refine jw_v (wr := []) (va_runV (As := [.int x]) (rest := []) ⟨hx, hb, hml, hown, hts⟩ (cJ_kind l D cI cL cQ h0 tl tr cu bk he ma x _ (by first | assumption | decide | omega) (by first | assumption | decide | omega)) (cwV 1 hts gL_kind_X5_kind rfl rfl rfl (by decide +kernel) ⟨Nat.le_of_ble_eq_true rfl, Nat.le_of_ble_eq_true rfl⟩) (jw_V hK hN hP hD [0, 1, 2] (by decide) rfl 5 0 rfl rfl rfl) rfl rfl hl.1 rfl (lv_room (Nat.le_of_ble_eq_true rfl)) dL_kind_2 ⟨Nat.le_of_ble_eq_true rfl, Nat.le_of_ble_eq_true rfl⟩) hP hD hS hA [0, 1, 2] [] rfl rfl (by decide) (by decide) (fun u H locs f_1 hP hD hS => ?_)
  obtain rfl := f_1
  have hP : va_P D vwCl [(h0, .inr (5, [.ref tl, .ref tr, .ref cu, .ref bk, .int 0])), (cu, .inr (0, [.ref tl, .ref tr, .ref he, .ref ma, .int 0, .int x, .long 0])), (he, .inr (2, [.int 0, .int 0, .int 0, .int 0, .int (-1), .int (-1), .int 0]))] H := hP
  have hD : va_D A [(h0, .inr (5, [.ref tl, .ref tr, .ref cu, .ref bk, .int 0])), (cu, .inr (0, [.ref tl, .ref tr, .ref he, .ref ma, .int 0, .int x, .long 0])), (he, .inr (2, [.int 0, .int 0, .int 0, .int 0, .int (-1), .int (-1), .int 0]))] := hD
  refine lv_goto (tgt := 11) hx hb dL_kind_5 (by decide) ?_
  refine lv_iconst (v := 0) hx hb dL_kind_11 (by decide) ?_
  refine W.widen (k := 0) (n := 0) (by omega) (by omega) ?_
  exact W.iret (v := 0) hx hb hr (fun t ht hW => ⟨⟨0, [(h0, .inr (5, [.ref tl, .ref tr, .ref cu, .ref bk, .int 0])), (cu, .inr (0, [.ref tl, .ref tr, .ref he, .ref ma, .int 0, .int x, .long 0])), (he, .inr (2, [.int 0, .int 0, .int 0, .int 0, .int (-1), .int (-1), .int 0]))], rfl, (by exact ⟨rfl, rfl⟩), by rw [ht]; exact hP, hD⟩, hS.F ht⟩) hS.2.2 dL_kind_12
set_option maxHeartbeats 1000000 in
set_option maxRecDepth 100000 in
theorem kL_kind_t (l : Launch) (hnt : l.stackTraces = false) (D : va_G) (cI cL cQ : ClassId) (h0 : Nat) (tl : Nat) (tr : Nat) (cu : Nat) (bk : Nat) (x : Int32) (sz : Nat) (h1 : x < 0 ∨ 4 ≤ x) : Met l yL_kind wsL_kind ({ frames := 8, cells := 1, slots := 6, locals := 123 }) (jh_P D vwCl (jT cI cL cQ) cL cQ [.ref h0, .int x] [(h0, .inr (5, [.ref tl, .ref tr, .ref cu, .ref bk, .int 0]))] sz) (va_Qi (fun (r : Int32) (u : va_W) => r = 1 ∧ u = [(h0, .inr (5, [.ref tl, .ref tr, .ref cu, .ref bk, .int 0]))]) (jw_B D vwCl (va_A [(h0, .inr (5, [.ref tl, .ref tr, .ref cu, .ref bk, .int 0]))] sz) (fun u : va_W => u)) (va_A [(h0, .inr (5, [.ref tl, .ref tr, .ref cu, .ref bk, .int 0]))] sz)) 1 6 (va_A [(h0, .inr (5, [.ref tl, .ref tr, .ref cu, .ref bk, .int 0]))] sz) := by
  refine va_MetW (hh := [(0, 5, 8, 19)]) (cc := cL_kind) (maxL := 3) (ret := (some .int)) (by decide) rfl ?_
  intro p e s m args below meth c s₁ B hml hv
  obtain ⟨rfl, hsz, hP, hK, hN, hD0, hZ⟩ := hv
  have hx := B.exec
  have hb := B.bytes
  have hr := B.returns
  have hts := atoms_spec (ws := wsL_kind) B.pre
  have hown : s.vm.findClass RL = some m.cls := findClass_of_methodNamed B.named
  have hlocks := B.notSynchronized
  subst hsz
  have hD := hD0.self (sz := s.heap.size)
  generalize hAe : va_A [(h0, .inr (5, [.ref tl, .ref tr, .ref cu, .ref bk, .int 0]))] s.heap.size = A at hD ⊢
  have hA : ∀ q : Nat, s.heap.size ≤ q → A q := fun q h => by rw [← hAe]; exact Or.inr h
  have hS : va_S A s.heap s.heap [] := va_S.rf
  have hl := lv_entry ([.ref h0, .int x]) (n := 3) (Nat.le_of_ble_eq_true rfl)
  rw [lg_entry_eq]
  generalize (lg_sl ([.ref h0, .int x]) ++ List.replicate (3 - (lg_sl ([.ref h0, .int x])).length) Slot.unset).toArray = ls at hl ⊢
  have hl : lv_has ls 3 [(0, .ref h0), (1, .int x)] := hl
  refine lv_aload_n hx hb dL_kind_0 rfl (lv_at hl 0 rfl) ?_
  refine lv_iload_n hx hb dL_kind_1 rfl (lv_at hl 1 rfl) ?_
  refine jx_thr (vx_runV (As := [.int x]) (rest := []) ⟨hx, hb, hml, hown, hts⟩ (cJ_kind_t l hnt D cI cL cQ h0 tl tr cu bk x (by first | assumption | decide | omega)) (cwV 1 hts gL_kind_X5_kind rfl rfl rfl (by decide +kernel) ⟨Nat.le_of_ble_eq_true rfl, Nat.le_of_ble_eq_true rfl⟩) (jt_V hK hN hZ hP [0] rfl 5 0 rfl rfl rfl) rfl rfl hl.1 rfl (lv_room (Nat.le_of_ble_eq_true rfl)) dL_kind_2 ⟨Nat.le_of_ble_eq_true rfl, Nat.le_of_ble_eq_true rfl⟩) (fun ce q9 H1 hz hk hce hcv hcl => ?_)
  have hP : va_P D vwCl [(h0, .inr (5, [.ref tl, .ref tr, .ref cu, .ref bk, .int 0]))] H1 := hP.kept (fun k x hx => hk x.1 (hP k x hx).lt)
  have hS : va_S A s.heap H1 [] := ⟨hz, fun q h1 _ => hk q h1, fun _ h => nomatch h⟩
  generalize H1 = H at hP hS hce ⊢
  have htab : c.exceptionTable.toList = [⟨0, 5, 8, 19⟩] := vx_table (x := yL_kind) B (hts _ List.mem_cons_self)
  refine jc_first (name := "") hown ⟨0, 5, 8, 19⟩ [] htab (by decide) (by decide) (hts (.classLink RL 19 "java/lang/IllegalArgumentException") (by decide +kernel)) hce hcv hcl ?_
  refine W.eq (g2 := F0 m 8 ls [.ref q9]) rfl ?_
  refine W.widen (k := 1) (n := 6) (by omega) (by omega) ?_
  refine lv_astore_n (lv' := [(2, .ref q9), (0, .ref h0), (1, .int x)]) hx hb dL_kind_8 rfl hl (by decide) rfl (fun ls hl => ?_)
  refine lv_iconst (v := 1) hx hb dL_kind_9 (by decide) ?_
  refine W.widen (k := 1) (n := 6) (by omega) (by omega) ?_
  exact W.iret (v := 1) hx hb hr (fun t ht hW => ⟨⟨1, [(h0, .inr (5, [.ref tl, .ref tr, .ref cu, .ref bk, .int 0]))], rfl, (by exact ⟨rfl, rfl⟩), by rw [ht]; exact hP, hD⟩, hS.F ht⟩) hS.2.2 dL_kind_10
set_option maxHeartbeats 1000000 in
set_option maxRecDepth 100000 in
theorem kL_next_t (l : Launch) (hnt : l.stackTraces = false) (D : va_G) (cI cL cQ : ClassId) (h0 : Nat) (tl : Nat) (tr : Nat) (cu : Nat) (bk : Nat) (ou : Nat) (fo : Nat → Int64) (sz : Nat) : Met l yL_next wsL_next ({ frames := 8, cells := 1, slots := 6, locals := 122 }) (jh_P D vwCl (jT cI cL cQ) cL cQ [.ref h0, .ref ou] [(h0, .inr (5, [.ref tl, .ref tr, .ref cu, .ref bk, .int 0])), (ou, .inl (cL, 1, .inr (.inl fo)))] sz) (va_Qi (fun (r : Int32) (u : va_W) => r = 1 ∧ u = [(h0, .inr (5, [.ref tl, .ref tr, .ref cu, .ref bk, .int 0])), (ou, .inl (cL, 1, .inr (.inl fo)))]) (jw_B D vwCl (va_A [(h0, .inr (5, [.ref tl, .ref tr, .ref cu, .ref bk, .int 0])), (ou, .inl (cL, 1, .inr (.inl fo)))] sz) (fun u : va_W => u)) (va_A [(h0, .inr (5, [.ref tl, .ref tr, .ref cu, .ref bk, .int 0])), (ou, .inl (cL, 1, .inr (.inl fo)))] sz)) 1 6 (va_A [(h0, .inr (5, [.ref tl, .ref tr, .ref cu, .ref bk, .int 0])), (ou, .inl (cL, 1, .inr (.inl fo)))] sz) := by
  refine va_MetW (hh := [(0, 15, 18, 13)]) (cc := cL_next) (maxL := 3) (ret := (some .int)) (by decide) rfl ?_
  intro p e s m args below meth c s₁ B hml hv
  obtain ⟨rfl, hsz, hP, hK, hN, hD0, hZ⟩ := hv
  have hx := B.exec
  have hb := B.bytes
  have hr := B.returns
  have hts := atoms_spec (ws := wsL_next) B.pre
  have hown : s.vm.findClass RL = some m.cls := findClass_of_methodNamed B.named
  have hlocks := B.notSynchronized
  subst hsz
  have hD := hD0.self (sz := s.heap.size)
  generalize hAe : va_A [(h0, .inr (5, [.ref tl, .ref tr, .ref cu, .ref bk, .int 0])), (ou, .inl (cL, 1, .inr (.inl fo)))] s.heap.size = A at hD ⊢
  have hA : ∀ q : Nat, s.heap.size ≤ q → A q := fun q h => by rw [← hAe]; exact Or.inr h
  have hS : va_S A s.heap s.heap [] := va_S.rf
  have hl := lv_entry ([.ref h0, .ref ou]) (n := 3) (Nat.le_of_ble_eq_true rfl)
  rw [lg_entry_eq]
  generalize (lg_sl ([.ref h0, .ref ou]) ++ List.replicate (3 - (lg_sl ([.ref h0, .ref ou])).length) Slot.unset).toArray = ls at hl ⊢
  have hl : lv_has ls 3 [(0, .ref h0), (1, .ref ou)] := hl
  refine lv_aload_n hx hb dL_next_0 rfl (lv_at hl 1 rfl) ?_
  refine lv_iconst (v := 0) hx hb dL_next_1 (by decide) ?_
  refine lv_aload_n hx hb dL_next_2 rfl (lv_at hl 0 rfl) ?_
  refine jx_thr (vx_runV (As := []) (rest := [.int 0, .ref ou]) ⟨hx, hb, hml, hown, hts⟩ (cJ_next_t l hnt D cI cL cQ h0 tl tr cu bk) (cwV 0 hts gL_next_X5_next rfl rfl rfl (by decide +kernel) ⟨Nat.le_of_ble_eq_true rfl, Nat.le_of_ble_eq_true rfl⟩) (jt_V hK hN hZ hP [0] rfl 5 0 rfl rfl rfl) rfl rfl hl.1 rfl (lv_room (Nat.le_of_ble_eq_true rfl)) dL_next_3 ⟨Nat.le_of_ble_eq_true rfl, Nat.le_of_ble_eq_true rfl⟩) (fun ce q9 H1 hz hk hce hcv hcl => ?_)
  have hP : va_P D vwCl [(h0, .inr (5, [.ref tl, .ref tr, .ref cu, .ref bk, .int 0])), (ou, .inl (cL, 1, .inr (.inl fo)))] H1 := hP.kept (fun k x hx => hk x.1 (hP k x hx).lt)
  have hS : va_S A s.heap H1 [] := ⟨hz, fun q h1 _ => hk q h1, fun _ h => nomatch h⟩
  generalize H1 = H at hP hS hce ⊢
  have htab : c.exceptionTable.toList = [⟨0, 15, 18, 13⟩] := vx_table (x := yL_next) B (hts _ List.mem_cons_self)
  refine jc_first (name := "") hown ⟨0, 15, 18, 13⟩ [] htab (by decide) (by decide) (hts (.classLink RL 13 "java/lang/IllegalStateException") (by decide +kernel)) hce hcv hcl ?_
  refine W.eq (g2 := F0 m 18 ls [.ref q9]) rfl ?_
  refine W.widen (k := 1) (n := 6) (by omega) (by omega) ?_
  refine lv_astore_n (lv' := [(2, .ref q9), (0, .ref h0), (1, .ref ou)]) hx hb dL_next_18 rfl hl (by decide) rfl (fun ls hl => ?_)
  refine lv_iconst (v := 1) hx hb dL_next_19 (by decide) ?_
  refine W.widen (k := 1) (n := 6) (by omega) (by omega) ?_
  exact W.iret (v := 1) hx hb hr (fun t ht hW => ⟨⟨1, [(h0, .inr (5, [.ref tl, .ref tr, .ref cu, .ref bk, .int 0])), (ou, .inl (cL, 1, .inr (.inl fo)))], rfl, (by exact ⟨rfl, rfl⟩), by rw [ht]; exact hP, hD⟩, hS.F ht⟩) hS.2.2 dL_next_20
set_option maxHeartbeats 1000000 in
set_option maxRecDepth 100000 in
theorem kL_mark_t (l : Launch) (hnt : l.stackTraces = false) (D : va_G) (cI cL cQ : ClassId) (h0 : Nat) (tl : Nat) (tr : Nat) (cu : Nat) (bk : Nat) (ou : Nat) (fo : Nat → Int64) (sz : Nat) : Met l yL_mark wsL_mark ({ frames := 8, cells := 1, slots := 6, locals := 122 }) (jh_P D vwCl (jT cI cL cQ) cL cQ [.ref h0, .ref ou] [(h0, .inr (5, [.ref tl, .ref tr, .ref cu, .ref bk, .int 0])), (ou, .inl (cL, 1, .inr (.inl fo)))] sz) (va_Qi (fun (r : Int32) (u : va_W) => r = 1 ∧ u = [(h0, .inr (5, [.ref tl, .ref tr, .ref cu, .ref bk, .int 0])), (ou, .inl (cL, 1, .inr (.inl fo)))]) (jw_B D vwCl (va_A [(h0, .inr (5, [.ref tl, .ref tr, .ref cu, .ref bk, .int 0])), (ou, .inl (cL, 1, .inr (.inl fo)))] sz) (fun u : va_W => u)) (va_A [(h0, .inr (5, [.ref tl, .ref tr, .ref cu, .ref bk, .int 0])), (ou, .inl (cL, 1, .inr (.inl fo)))] sz)) 1 6 (va_A [(h0, .inr (5, [.ref tl, .ref tr, .ref cu, .ref bk, .int 0])), (ou, .inl (cL, 1, .inr (.inl fo)))] sz) := by
  refine va_MetW (hh := [(0, 8, 11, 13)]) (cc := cL_mark) (maxL := 3) (ret := (some .int)) (by decide) rfl ?_
  intro p e s m args below meth c s₁ B hml hv
  obtain ⟨rfl, hsz, hP, hK, hN, hD0, hZ⟩ := hv
  have hx := B.exec
  have hb := B.bytes
  have hr := B.returns
  have hts := atoms_spec (ws := wsL_mark) B.pre
  have hown : s.vm.findClass RL = some m.cls := findClass_of_methodNamed B.named
  have hlocks := B.notSynchronized
  subst hsz
  have hD := hD0.self (sz := s.heap.size)
  generalize hAe : va_A [(h0, .inr (5, [.ref tl, .ref tr, .ref cu, .ref bk, .int 0])), (ou, .inl (cL, 1, .inr (.inl fo)))] s.heap.size = A at hD ⊢
  have hA : ∀ q : Nat, s.heap.size ≤ q → A q := fun q h => by rw [← hAe]; exact Or.inr h
  have hS : va_S A s.heap s.heap [] := va_S.rf
  have hl := lv_entry ([.ref h0, .ref ou]) (n := 3) (Nat.le_of_ble_eq_true rfl)
  rw [lg_entry_eq]
  generalize (lg_sl ([.ref h0, .ref ou]) ++ List.replicate (3 - (lg_sl ([.ref h0, .ref ou])).length) Slot.unset).toArray = ls at hl ⊢
  have hl : lv_has ls 3 [(0, .ref h0), (1, .ref ou)] := hl
  refine lv_aload_n hx hb dL_mark_0 rfl (lv_at hl 1 rfl) ?_
  refine lv_iconst (v := 0) hx hb dL_mark_1 (by decide) ?_
  refine lv_aload_n hx hb dL_mark_2 rfl (lv_at hl 0 rfl) ?_
  refine jx_thr (vx_runV (As := []) (rest := [.int 0, .ref ou]) ⟨hx, hb, hml, hown, hts⟩ (cJ_mark_t l hnt D cI cL cQ h0 tl tr cu bk) (cwV 0 hts gL_mark_X5_mark rfl rfl rfl (by decide +kernel) ⟨Nat.le_of_ble_eq_true rfl, Nat.le_of_ble_eq_true rfl⟩) (jt_V hK hN hZ hP [0] rfl 5 0 rfl rfl rfl) rfl rfl hl.1 rfl (lv_room (Nat.le_of_ble_eq_true rfl)) dL_mark_3 ⟨Nat.le_of_ble_eq_true rfl, Nat.le_of_ble_eq_true rfl⟩) (fun ce q9 H1 hz hk hce hcv hcl => ?_)
  have hP : va_P D vwCl [(h0, .inr (5, [.ref tl, .ref tr, .ref cu, .ref bk, .int 0])), (ou, .inl (cL, 1, .inr (.inl fo)))] H1 := hP.kept (fun k x hx => hk x.1 (hP k x hx).lt)
  have hS : va_S A s.heap H1 [] := ⟨hz, fun q h1 _ => hk q h1, fun _ h => nomatch h⟩
  generalize H1 = H at hP hS hce ⊢
  have htab : c.exceptionTable.toList = [⟨0, 8, 11, 13⟩] := vx_table (x := yL_mark) B (hts _ List.mem_cons_self)
  refine jc_first (name := "") hown ⟨0, 8, 11, 13⟩ [] htab (by decide) (by decide) (hts (.classLink RL 13 "java/lang/IllegalStateException") (by decide +kernel)) hce hcv hcl ?_
  refine W.eq (g2 := F0 m 11 ls [.ref q9]) rfl ?_
  refine W.widen (k := 1) (n := 6) (by omega) (by omega) ?_
  refine lv_astore_n (lv' := [(2, .ref q9), (0, .ref h0), (1, .ref ou)]) hx hb dL_mark_11 rfl hl (by decide) rfl (fun ls hl => ?_)
  refine lv_iconst (v := 1) hx hb dL_mark_12 (by decide) ?_
  refine W.widen (k := 1) (n := 6) (by omega) (by omega) ?_
  exact W.iret (v := 1) hx hb hr (fun t ht hW => ⟨⟨1, [(h0, .inr (5, [.ref tl, .ref tr, .ref cu, .ref bk, .int 0])), (ou, .inl (cL, 1, .inr (.inl fo)))], rfl, (by exact ⟨rfl, rfl⟩), by rw [ht]; exact hP, hD⟩, hS.F ht⟩) hS.2.2 dL_mark_13
set_option maxHeartbeats 1000000 in
set_option maxRecDepth 100000 in
theorem kL_back_t (l : Launch) (hnt : l.stackTraces = false) (D : va_G) (cI cL cQ : ClassId) (h0 : Nat) (tl : Nat) (tr : Nat) (cu : Nat) (bk : Nat) (ou : Nat) (fo : Nat → Int64) (sz : Nat) : Met l yL_back wsL_back ({ frames := 8, cells := 1, slots := 6, locals := 122 }) (jh_P D vwCl (jT cI cL cQ) cL cQ [.ref h0, .ref ou] [(h0, .inr (5, [.ref tl, .ref tr, .ref cu, .ref bk, .int 0])), (ou, .inl (cL, 1, .inr (.inl fo)))] sz) (va_Qi (fun (r : Int32) (u : va_W) => r = 1 ∧ u = [(h0, .inr (5, [.ref tl, .ref tr, .ref cu, .ref bk, .int 0])), (ou, .inl (cL, 1, .inr (.inl fo)))]) (jw_B D vwCl (va_A [(h0, .inr (5, [.ref tl, .ref tr, .ref cu, .ref bk, .int 0])), (ou, .inl (cL, 1, .inr (.inl fo)))] sz) (fun u : va_W => u)) (va_A [(h0, .inr (5, [.ref tl, .ref tr, .ref cu, .ref bk, .int 0])), (ou, .inl (cL, 1, .inr (.inl fo)))] sz)) 1 6 (va_A [(h0, .inr (5, [.ref tl, .ref tr, .ref cu, .ref bk, .int 0])), (ou, .inl (cL, 1, .inr (.inl fo)))] sz) := by
  refine va_MetW (hh := [(0, 8, 11, 13)]) (cc := cL_back) (maxL := 3) (ret := (some .int)) (by decide) rfl ?_
  intro p e s m args below meth c s₁ B hml hv
  obtain ⟨rfl, hsz, hP, hK, hN, hD0, hZ⟩ := hv
  have hx := B.exec
  have hb := B.bytes
  have hr := B.returns
  have hts := atoms_spec (ws := wsL_back) B.pre
  have hown : s.vm.findClass RL = some m.cls := findClass_of_methodNamed B.named
  have hlocks := B.notSynchronized
  subst hsz
  have hD := hD0.self (sz := s.heap.size)
  generalize hAe : va_A [(h0, .inr (5, [.ref tl, .ref tr, .ref cu, .ref bk, .int 0])), (ou, .inl (cL, 1, .inr (.inl fo)))] s.heap.size = A at hD ⊢
  have hA : ∀ q : Nat, s.heap.size ≤ q → A q := fun q h => by rw [← hAe]; exact Or.inr h
  have hS : va_S A s.heap s.heap [] := va_S.rf
  have hl := lv_entry ([.ref h0, .ref ou]) (n := 3) (Nat.le_of_ble_eq_true rfl)
  rw [lg_entry_eq]
  generalize (lg_sl ([.ref h0, .ref ou]) ++ List.replicate (3 - (lg_sl ([.ref h0, .ref ou])).length) Slot.unset).toArray = ls at hl ⊢
  have hl : lv_has ls 3 [(0, .ref h0), (1, .ref ou)] := hl
  refine lv_aload_n hx hb dL_back_0 rfl (lv_at hl 1 rfl) ?_
  refine lv_iconst (v := 0) hx hb dL_back_1 (by decide) ?_
  refine lv_aload_n hx hb dL_back_2 rfl (lv_at hl 0 rfl) ?_
  refine jx_thr (vx_runV (As := []) (rest := [.int 0, .ref ou]) ⟨hx, hb, hml, hown, hts⟩ (cJ_back_t l hnt D cI cL cQ h0 tl tr cu bk) (cwV 0 hts gL_back_X5_back rfl rfl rfl (by decide +kernel) ⟨Nat.le_of_ble_eq_true rfl, Nat.le_of_ble_eq_true rfl⟩) (jt_V hK hN hZ hP [0] rfl 5 0 rfl rfl rfl) rfl rfl hl.1 rfl (lv_room (Nat.le_of_ble_eq_true rfl)) dL_back_3 ⟨Nat.le_of_ble_eq_true rfl, Nat.le_of_ble_eq_true rfl⟩) (fun ce q9 H1 hz hk hce hcv hcl => ?_)
  have hP : va_P D vwCl [(h0, .inr (5, [.ref tl, .ref tr, .ref cu, .ref bk, .int 0])), (ou, .inl (cL, 1, .inr (.inl fo)))] H1 := hP.kept (fun k x hx => hk x.1 (hP k x hx).lt)
  have hS : va_S A s.heap H1 [] := ⟨hz, fun q h1 _ => hk q h1, fun _ h => nomatch h⟩
  generalize H1 = H at hP hS hce ⊢
  have htab : c.exceptionTable.toList = [⟨0, 8, 11, 13⟩] := vx_table (x := yL_back) B (hts _ List.mem_cons_self)
  refine jc_first (name := "") hown ⟨0, 8, 11, 13⟩ [] htab (by decide) (by decide) (hts (.classLink RL 13 "java/lang/IllegalStateException") (by decide +kernel)) hce hcv hcl ?_
  refine W.eq (g2 := F0 m 11 ls [.ref q9]) rfl ?_
  refine W.widen (k := 1) (n := 6) (by omega) (by omega) ?_
  refine lv_astore_n (lv' := [(2, .ref q9), (0, .ref h0), (1, .ref ou)]) hx hb dL_back_11 rfl hl (by decide) rfl (fun ls hl => ?_)
  refine lv_iconst (v := 1) hx hb dL_back_12 (by decide) ?_
  refine W.widen (k := 1) (n := 6) (by omega) (by omega) ?_
  exact W.iret (v := 1) hx hb hr (fun t ht hW => ⟨⟨1, [(h0, .inr (5, [.ref tl, .ref tr, .ref cu, .ref bk, .int 0])), (ou, .inl (cL, 1, .inr (.inl fo)))], rfl, (by exact ⟨rfl, rfl⟩), by rw [ht]; exact hP, hD⟩, hS.F ht⟩) hS.2.2 dL_back_13
set_option maxHeartbeats 1000000 in
set_option maxRecDepth 100000 in
theorem kL_seek_t (l : Launch) (hnt : l.stackTraces = false) (D : va_G) (cI cL cQ : ClassId) (h0 : Nat) (tl : Nat) (tr : Nat) (cu : Nat) (bk : Nat) (x : Int32) (ou : Nat) (fo : Nat → Int64) (sz : Nat) : Met l yL_seek wsL_seek ({ frames := 8, cells := 1, slots := 6, locals := 123 }) (jh_P D vwCl (jT cI cL cQ) cL cQ [.ref h0, .int x, .ref ou] [(h0, .inr (5, [.ref tl, .ref tr, .ref cu, .ref bk, .int 0])), (ou, .inl (cL, 1, .inr (.inl fo)))] sz) (va_Qi (fun (r : Int32) (u : va_W) => r = 1 ∧ u = [(h0, .inr (5, [.ref tl, .ref tr, .ref cu, .ref bk, .int 0])), (ou, .inl (cL, 1, .inr (.inl fo)))]) (jw_B D vwCl (va_A [(h0, .inr (5, [.ref tl, .ref tr, .ref cu, .ref bk, .int 0])), (ou, .inl (cL, 1, .inr (.inl fo)))] sz) (fun u : va_W => u)) (va_A [(h0, .inr (5, [.ref tl, .ref tr, .ref cu, .ref bk, .int 0])), (ou, .inl (cL, 1, .inr (.inl fo)))] sz)) 1 6 (va_A [(h0, .inr (5, [.ref tl, .ref tr, .ref cu, .ref bk, .int 0])), (ou, .inl (cL, 1, .inr (.inl fo)))] sz) := by
  refine va_MetW (hh := [(0, 16, 19, 13)]) (cc := cL_seek) (maxL := 4) (ret := (some .int)) (by decide) rfl ?_
  intro p e s m args below meth c s₁ B hml hv
  obtain ⟨rfl, hsz, hP, hK, hN, hD0, hZ⟩ := hv
  have hx := B.exec
  have hb := B.bytes
  have hr := B.returns
  have hts := atoms_spec (ws := wsL_seek) B.pre
  have hown : s.vm.findClass RL = some m.cls := findClass_of_methodNamed B.named
  have hlocks := B.notSynchronized
  subst hsz
  have hD := hD0.self (sz := s.heap.size)
  generalize hAe : va_A [(h0, .inr (5, [.ref tl, .ref tr, .ref cu, .ref bk, .int 0])), (ou, .inl (cL, 1, .inr (.inl fo)))] s.heap.size = A at hD ⊢
  have hA : ∀ q : Nat, s.heap.size ≤ q → A q := fun q h => by rw [← hAe]; exact Or.inr h
  have hS : va_S A s.heap s.heap [] := va_S.rf
  have hl := lv_entry ([.ref h0, .int x, .ref ou]) (n := 4) (Nat.le_of_ble_eq_true rfl)
  rw [lg_entry_eq]
  generalize (lg_sl ([.ref h0, .int x, .ref ou]) ++ List.replicate (4 - (lg_sl ([.ref h0, .int x, .ref ou])).length) Slot.unset).toArray = ls at hl ⊢
  have hl : lv_has ls 4 [(0, .ref h0), (1, .int x), (2, .ref ou)] := hl
  refine lv_aload_n hx hb dL_seek_0 rfl (lv_at hl 2 rfl) ?_
  refine lv_iconst (v := 0) hx hb dL_seek_1 (by decide) ?_
  refine lv_aload_n hx hb dL_seek_2 rfl (lv_at hl 0 rfl) ?_
  refine lv_iload_n hx hb dL_seek_3 rfl (lv_at hl 1 rfl) ?_
  refine jx_thr (vx_runV (As := [.int x]) (rest := [.int 0, .ref ou]) ⟨hx, hb, hml, hown, hts⟩ (cJ_seek_t l hnt D cI cL cQ h0 tl tr cu bk x) (cwV 1 hts gL_seek_X5_seek rfl rfl rfl (by decide +kernel) ⟨Nat.le_of_ble_eq_true rfl, Nat.le_of_ble_eq_true rfl⟩) (jt_V hK hN hZ hP [0] rfl 5 0 rfl rfl rfl) rfl rfl hl.1 rfl (lv_room (Nat.le_of_ble_eq_true rfl)) dL_seek_4 ⟨Nat.le_of_ble_eq_true rfl, Nat.le_of_ble_eq_true rfl⟩) (fun ce q9 H1 hz hk hce hcv hcl => ?_)
  have hP : va_P D vwCl [(h0, .inr (5, [.ref tl, .ref tr, .ref cu, .ref bk, .int 0])), (ou, .inl (cL, 1, .inr (.inl fo)))] H1 := hP.kept (fun k x hx => hk x.1 (hP k x hx).lt)
  have hS : va_S A s.heap H1 [] := ⟨hz, fun q h1 _ => hk q h1, fun _ h => nomatch h⟩
  generalize H1 = H at hP hS hce ⊢
  have htab : c.exceptionTable.toList = [⟨0, 16, 19, 13⟩] := vx_table (x := yL_seek) B (hts _ List.mem_cons_self)
  refine jc_first (name := "") hown ⟨0, 16, 19, 13⟩ [] htab (by decide) (by decide) (hts (.classLink RL 13 "java/lang/IllegalStateException") (by decide +kernel)) hce hcv hcl ?_
  refine W.eq (g2 := F0 m 19 ls [.ref q9]) rfl ?_
  refine W.widen (k := 1) (n := 6) (by omega) (by omega) ?_
  refine lv_astore_n (lv' := [(3, .ref q9), (0, .ref h0), (1, .int x), (2, .ref ou)]) hx hb dL_seek_19 rfl hl (by decide) rfl (fun ls hl => ?_)
  refine lv_iconst (v := 1) hx hb dL_seek_20 (by decide) ?_
  refine W.widen (k := 1) (n := 6) (by omega) (by omega) ?_
  exact W.iret (v := 1) hx hb hr (fun t ht hW => ⟨⟨1, [(h0, .inr (5, [.ref tl, .ref tr, .ref cu, .ref bk, .int 0])), (ou, .inl (cL, 1, .inr (.inl fo)))], rfl, (by exact ⟨rfl, rfl⟩), by rw [ht]; exact hP, hD⟩, hS.F ht⟩) hS.2.2 dL_seek_21
set_option maxHeartbeats 1000000 in
set_option maxRecDepth 100000 in
theorem kL_groups_t (l : Launch) (hnt : l.stackTraces = false) (D : va_G) (cI cL cQ : ClassId) (h0 : Nat) (tl : Nat) (tr : Nat) (cu : Nat) (bk : Nat) (ou : Nat) (fo : Nat → Int64) (sz : Nat) : Met l yL_groups wsL_groups ({ frames := 8, cells := 1, slots := 6, locals := 122 }) (jh_P D vwCl (jT cI cL cQ) cL cQ [.ref h0, .ref ou] [(h0, .inr (5, [.ref tl, .ref tr, .ref cu, .ref bk, .int 0])), (ou, .inl (cL, 1, .inr (.inl fo)))] sz) (va_Qi (fun (r : Int32) (u : va_W) => r = 1 ∧ u = [(h0, .inr (5, [.ref tl, .ref tr, .ref cu, .ref bk, .int 0])), (ou, .inl (cL, 1, .inr (.inl fo)))]) (jw_B D vwCl (va_A [(h0, .inr (5, [.ref tl, .ref tr, .ref cu, .ref bk, .int 0])), (ou, .inl (cL, 1, .inr (.inl fo)))] sz) (fun u : va_W => u)) (va_A [(h0, .inr (5, [.ref tl, .ref tr, .ref cu, .ref bk, .int 0])), (ou, .inl (cL, 1, .inr (.inl fo)))] sz)) 1 6 (va_A [(h0, .inr (5, [.ref tl, .ref tr, .ref cu, .ref bk, .int 0])), (ou, .inl (cL, 1, .inr (.inl fo)))] sz) := by
  refine va_MetW (hh := [(0, 8, 11, 13), (0, 8, 14, 54)]) (cc := cL_groups) (maxL := 3) (ret := (some .int)) (by decide) rfl ?_
  intro p e s m args below meth c s₁ B hml hv
  obtain ⟨rfl, hsz, hP, hK, hN, hD0, hZ⟩ := hv
  have hx := B.exec
  have hb := B.bytes
  have hr := B.returns
  have hts := atoms_spec (ws := wsL_groups) B.pre
  have hown : s.vm.findClass RL = some m.cls := findClass_of_methodNamed B.named
  have hlocks := B.notSynchronized
  subst hsz
  have hD := hD0.self (sz := s.heap.size)
  generalize hAe : va_A [(h0, .inr (5, [.ref tl, .ref tr, .ref cu, .ref bk, .int 0])), (ou, .inl (cL, 1, .inr (.inl fo)))] s.heap.size = A at hD ⊢
  have hA : ∀ q : Nat, s.heap.size ≤ q → A q := fun q h => by rw [← hAe]; exact Or.inr h
  have hS : va_S A s.heap s.heap [] := va_S.rf
  have hl := lv_entry ([.ref h0, .ref ou]) (n := 3) (Nat.le_of_ble_eq_true rfl)
  rw [lg_entry_eq]
  generalize (lg_sl ([.ref h0, .ref ou]) ++ List.replicate (3 - (lg_sl ([.ref h0, .ref ou])).length) Slot.unset).toArray = ls at hl ⊢
  have hl : lv_has ls 3 [(0, .ref h0), (1, .ref ou)] := hl
  refine lv_aload_n hx hb dL_groups_0 rfl (lv_at hl 1 rfl) ?_
  refine lv_iconst (v := 0) hx hb dL_groups_1 (by decide) ?_
  refine lv_aload_n hx hb dL_groups_2 rfl (lv_at hl 0 rfl) ?_
  refine jx_thr (vx_runV (As := []) (rest := [.int 0, .ref ou]) ⟨hx, hb, hml, hown, hts⟩ (cJ_groups_t l hnt D cI cL cQ h0 tl tr cu bk) (cwV 0 hts gL_groups_X5_groups rfl rfl rfl (by decide +kernel) ⟨Nat.le_of_ble_eq_true rfl, Nat.le_of_ble_eq_true rfl⟩) (jt_V hK hN hZ hP [0] rfl 5 0 rfl rfl rfl) rfl rfl hl.1 rfl (lv_room (Nat.le_of_ble_eq_true rfl)) dL_groups_3 ⟨Nat.le_of_ble_eq_true rfl, Nat.le_of_ble_eq_true rfl⟩) (fun ce q9 H1 hz hk hce hcv hcl => ?_)
  have hP : va_P D vwCl [(h0, .inr (5, [.ref tl, .ref tr, .ref cu, .ref bk, .int 0])), (ou, .inl (cL, 1, .inr (.inl fo)))] H1 := hP.kept (fun k x hx => hk x.1 (hP k x hx).lt)
  have hS : va_S A s.heap H1 [] := ⟨hz, fun q h1 _ => hk q h1, fun _ h => nomatch h⟩
  generalize H1 = H at hP hS hce ⊢
  have htab : c.exceptionTable.toList = [⟨0, 8, 11, 13⟩, ⟨0, 8, 14, 54⟩] := vx_table (x := yL_groups) B (hts _ List.mem_cons_self)
  refine jc_first (name := "") hown ⟨0, 8, 11, 13⟩ [⟨0, 8, 14, 54⟩] htab (by decide) (by decide) (hts (.classLink RL 13 "java/lang/IllegalStateException") (by decide +kernel)) hce hcv hcl ?_
  refine W.eq (g2 := F0 m 11 ls [.ref q9]) rfl ?_
  refine W.widen (k := 1) (n := 6) (by omega) (by omega) ?_
  refine lv_astore_n (lv' := [(2, .ref q9), (0, .ref h0), (1, .ref ou)]) hx hb dL_groups_11 rfl hl (by decide) rfl (fun ls hl => ?_)
  refine lv_iconst (v := 1) hx hb dL_groups_12 (by decide) ?_
  refine W.widen (k := 1) (n := 6) (by omega) (by omega) ?_
  exact W.iret (v := 1) hx hb hr (fun t ht hW => ⟨⟨1, [(h0, .inr (5, [.ref tl, .ref tr, .ref cu, .ref bk, .int 0])), (ou, .inl (cL, 1, .inr (.inl fo)))], rfl, (by exact ⟨rfl, rfl⟩), by rw [ht]; exact hP, hD⟩, hS.F ht⟩) hS.2.2 dL_groups_13
set_option maxHeartbeats 1000000 in
set_option maxRecDepth 100000 in
theorem kL_rows_t (l : Launch) (hnt : l.stackTraces = false) (D : va_G) (cI cL cQ : ClassId) (h0 : Nat) (tl : Nat) (tr : Nat) (cu : Nat) (bk : Nat) (x : Int32) (y : Int32) (ou : Nat) (fo : Nat → Int64) (sz : Nat) : Met l yL_rows wsL_rows ({ frames := 8, cells := 1, slots := 6, locals := 126 }) (jh_P D vwCl (jT cI cL cQ) cL cQ [.ref h0, .int x, .int y, .ref ou] [(h0, .inr (5, [.ref tl, .ref tr, .ref cu, .ref bk, .int 0])), (ou, .inl (cL, 1, .inr (.inl fo)))] sz) (va_Qi (fun (r : Int32) (u : va_W) => r = 1 ∧ u = [(h0, .inr (5, [.ref tl, .ref tr, .ref cu, .ref bk, .int 0])), (ou, .inl (cL, 1, .inr (.inl fo)))]) (jw_B D vwCl (va_A [(h0, .inr (5, [.ref tl, .ref tr, .ref cu, .ref bk, .int 0])), (ou, .inl (cL, 1, .inr (.inl fo)))] sz) (fun u : va_W => u)) (va_A [(h0, .inr (5, [.ref tl, .ref tr, .ref cu, .ref bk, .int 0])), (ou, .inl (cL, 1, .inr (.inl fo)))] sz)) 1 6 (va_A [(h0, .inr (5, [.ref tl, .ref tr, .ref cu, .ref bk, .int 0])), (ou, .inl (cL, 1, .inr (.inl fo)))] sz) := by
  refine va_MetW (hh := [(0, 10, 13, 13)]) (cc := cL_rows) (maxL := 5) (ret := (some .int)) (by decide) rfl ?_
  intro p e s m args below meth c s₁ B hml hv
  obtain ⟨rfl, hsz, hP, hK, hN, hD0, hZ⟩ := hv
  have hx := B.exec
  have hb := B.bytes
  have hr := B.returns
  have hts := atoms_spec (ws := wsL_rows) B.pre
  have hown : s.vm.findClass RL = some m.cls := findClass_of_methodNamed B.named
  have hlocks := B.notSynchronized
  subst hsz
  have hD := hD0.self (sz := s.heap.size)
  generalize hAe : va_A [(h0, .inr (5, [.ref tl, .ref tr, .ref cu, .ref bk, .int 0])), (ou, .inl (cL, 1, .inr (.inl fo)))] s.heap.size = A at hD ⊢
  have hA : ∀ q : Nat, s.heap.size ≤ q → A q := fun q h => by rw [← hAe]; exact Or.inr h
  have hS : va_S A s.heap s.heap [] := va_S.rf
  have hl := lv_entry ([.ref h0, .int x, .int y, .ref ou]) (n := 5) (Nat.le_of_ble_eq_true rfl)
  rw [lg_entry_eq]
  generalize (lg_sl ([.ref h0, .int x, .int y, .ref ou]) ++ List.replicate (5 - (lg_sl ([.ref h0, .int x, .int y, .ref ou])).length) Slot.unset).toArray = ls at hl ⊢
  have hl : lv_has ls 5 [(0, .ref h0), (1, .int x), (2, .int y), (3, .ref ou)] := hl
  refine lv_aload_n hx hb dL_rows_0 rfl (lv_at hl 3 rfl) ?_
  refine lv_iconst (v := 0) hx hb dL_rows_1 (by decide) ?_
  refine lv_aload_n hx hb dL_rows_2 rfl (lv_at hl 0 rfl) ?_
  refine lv_iload_n hx hb dL_rows_3 rfl (lv_at hl 1 rfl) ?_
  refine lv_iload_n hx hb dL_rows_4 rfl (lv_at hl 2 rfl) ?_
  refine jx_thr (vx_runV (As := [.int x, .int y]) (rest := [.int 0, .ref ou]) ⟨hx, hb, hml, hown, hts⟩ (cJ_rows_t l hnt D cI cL cQ h0 tl tr cu bk x y) (cwV 2 hts gL_rows_X5_rows rfl rfl rfl (by decide +kernel) ⟨Nat.le_of_ble_eq_true rfl, Nat.le_of_ble_eq_true rfl⟩) (jt_V hK hN hZ hP [0] rfl 5 0 rfl rfl rfl) rfl rfl hl.1 rfl (lv_room (Nat.le_of_ble_eq_true rfl)) dL_rows_5 ⟨Nat.le_of_ble_eq_true rfl, Nat.le_of_ble_eq_true rfl⟩) (fun ce q9 H1 hz hk hce hcv hcl => ?_)
  have hP : va_P D vwCl [(h0, .inr (5, [.ref tl, .ref tr, .ref cu, .ref bk, .int 0])), (ou, .inl (cL, 1, .inr (.inl fo)))] H1 := hP.kept (fun k x hx => hk x.1 (hP k x hx).lt)
  have hS : va_S A s.heap H1 [] := ⟨hz, fun q h1 _ => hk q h1, fun _ h => nomatch h⟩
  generalize H1 = H at hP hS hce ⊢
  have htab : c.exceptionTable.toList = [⟨0, 10, 13, 13⟩] := vx_table (x := yL_rows) B (hts _ List.mem_cons_self)
  refine jc_first (name := "") hown ⟨0, 10, 13, 13⟩ [] htab (by decide) (by decide) (hts (.classLink RL 13 "java/lang/IllegalStateException") (by decide +kernel)) hce hcv hcl ?_
  refine W.eq (g2 := F0 m 13 ls [.ref q9]) rfl ?_
  refine W.widen (k := 1) (n := 6) (by omega) (by omega) ?_
  refine lv_astore (lv' := [(4, .ref q9), (0, .ref h0), (1, .int x), (2, .int y), (3, .ref ou)]) hx hb dL_rows_13 hl (by decide) rfl (fun ls hl => ?_)
  refine lv_iconst (v := 1) hx hb dL_rows_15 (by decide) ?_
  refine W.widen (k := 1) (n := 6) (by omega) (by omega) ?_
  exact W.iret (v := 1) hx hb hr (fun t ht hW => ⟨⟨1, [(h0, .inr (5, [.ref tl, .ref tr, .ref cu, .ref bk, .int 0])), (ou, .inl (cL, 1, .inr (.inl fo)))], rfl, (by exact ⟨rfl, rfl⟩), by rw [ht]; exact hP, hD⟩, hS.F ht⟩) hS.2.2 dL_rows_16
set_option maxHeartbeats 1000000 in
set_option maxRecDepth 100000 in
theorem kL_rewind_t (l : Launch) (hnt : l.stackTraces = false) (D : va_G) (cI cL cQ : ClassId) (h0 : Nat) (tl : Nat) (tr : Nat) (cu : Nat) (bk : Nat) (sz : Nat) : Met l yL_rewind wsL_rewind ({ frames := 8, cells := 1, slots := 6, locals := 122 }) (jh_P D vwCl (jT cI cL cQ) cL cQ [.ref h0] [(h0, .inr (5, [.ref tl, .ref tr, .ref cu, .ref bk, .int 0]))] sz) (va_Qi (fun (r : Int32) (u : va_W) => r = 1 ∧ u = [(h0, .inr (5, [.ref tl, .ref tr, .ref cu, .ref bk, .int 0]))]) (jw_B D vwCl (va_A [(h0, .inr (5, [.ref tl, .ref tr, .ref cu, .ref bk, .int 0]))] sz) (fun u : va_W => u)) (va_A [(h0, .inr (5, [.ref tl, .ref tr, .ref cu, .ref bk, .int 0]))] sz)) 1 6 (va_A [(h0, .inr (5, [.ref tl, .ref tr, .ref cu, .ref bk, .int 0]))] sz) := by
  refine va_MetW (hh := [(0, 4, 7, 13)]) (cc := cL_rewind) (maxL := 2) (ret := (some .int)) (by decide) rfl ?_
  intro p e s m args below meth c s₁ B hml hv
  obtain ⟨rfl, hsz, hP, hK, hN, hD0, hZ⟩ := hv
  have hx := B.exec
  have hb := B.bytes
  have hr := B.returns
  have hts := atoms_spec (ws := wsL_rewind) B.pre
  have hown : s.vm.findClass RL = some m.cls := findClass_of_methodNamed B.named
  have hlocks := B.notSynchronized
  subst hsz
  have hD := hD0.self (sz := s.heap.size)
  generalize hAe : va_A [(h0, .inr (5, [.ref tl, .ref tr, .ref cu, .ref bk, .int 0]))] s.heap.size = A at hD ⊢
  have hA : ∀ q : Nat, s.heap.size ≤ q → A q := fun q h => by rw [← hAe]; exact Or.inr h
  have hS : va_S A s.heap s.heap [] := va_S.rf
  have hl := lv_entry ([.ref h0]) (n := 2) (Nat.le_of_ble_eq_true rfl)
  rw [lg_entry_eq]
  generalize (lg_sl ([.ref h0]) ++ List.replicate (2 - (lg_sl ([.ref h0])).length) Slot.unset).toArray = ls at hl ⊢
  have hl : lv_has ls 2 [(0, .ref h0)] := hl
  refine lv_aload_n hx hb dL_rewind_0 rfl (lv_at hl 0 rfl) ?_
  refine jx_thr (vx_runV (As := []) (rest := []) ⟨hx, hb, hml, hown, hts⟩ (cJ_rewind_t l hnt D cI cL cQ h0 tl tr cu bk) (cwV 0 hts gL_rewind_X5_rewind rfl rfl rfl (by decide +kernel) ⟨Nat.le_of_ble_eq_true rfl, Nat.le_of_ble_eq_true rfl⟩) (jt_V hK hN hZ hP [0] rfl 5 0 rfl rfl rfl) rfl rfl hl.1 rfl (lv_room (Nat.le_of_ble_eq_true rfl)) dL_rewind_1 ⟨Nat.le_of_ble_eq_true rfl, Nat.le_of_ble_eq_true rfl⟩) (fun ce q9 H1 hz hk hce hcv hcl => ?_)
  have hP : va_P D vwCl [(h0, .inr (5, [.ref tl, .ref tr, .ref cu, .ref bk, .int 0]))] H1 := hP.kept (fun k x hx => hk x.1 (hP k x hx).lt)
  have hS : va_S A s.heap H1 [] := ⟨hz, fun q h1 _ => hk q h1, fun _ h => nomatch h⟩
  generalize H1 = H at hP hS hce ⊢
  have htab : c.exceptionTable.toList = [⟨0, 4, 7, 13⟩] := vx_table (x := yL_rewind) B (hts _ List.mem_cons_self)
  refine jc_first (name := "") hown ⟨0, 4, 7, 13⟩ [] htab (by decide) (by decide) (hts (.classLink RL 13 "java/lang/IllegalStateException") (by decide +kernel)) hce hcv hcl ?_
  refine W.eq (g2 := F0 m 7 ls [.ref q9]) rfl ?_
  refine W.widen (k := 1) (n := 6) (by omega) (by omega) ?_
  refine lv_astore_n (lv' := [(1, .ref q9), (0, .ref h0)]) hx hb dL_rewind_7 rfl hl (by decide) rfl (fun ls hl => ?_)
  refine lv_iconst (v := 1) hx hb dL_rewind_8 (by decide) ?_
  refine W.widen (k := 1) (n := 6) (by omega) (by omega) ?_
  exact W.iret (v := 1) hx hb hr (fun t ht hW => ⟨⟨1, [(h0, .inr (5, [.ref tl, .ref tr, .ref cu, .ref bk, .int 0]))], rfl, (by exact ⟨rfl, rfl⟩), by rw [ht]; exact hP, hD⟩, hS.F ht⟩) hS.2.2 dL_rewind_9
set_option maxHeartbeats 1000000 in
set_option maxRecDepth 100000 in
theorem kL_count_a (l : Launch) (hnt : l.stackTraces = false) (D : va_G) (cI cL cQ : ClassId) (h0 : Nat) (tl : Nat) (tr : Nat) (cu : Nat) (bk : Nat) (x : Int32) (ou : Nat) (fo : Nat → Int64) (sz : Nat) (h1 : x < 0 ∨ 4 ≤ x) : Met l yL_count wsL_count ({ frames := 8, cells := 1, slots := 6, locals := 123 }) (jh_P D vwCl (jT cI cL cQ) cL cQ [.ref h0, .int x, .ref ou] [(h0, .inr (5, [.ref tl, .ref tr, .ref cu, .ref bk, .int 0])), (ou, .inl (cL, 1, .inr (.inl fo)))] sz) (va_Qi (fun (r : Int32) (u : va_W) => r = 1 ∧ u = [(h0, .inr (5, [.ref tl, .ref tr, .ref cu, .ref bk, .int 0])), (ou, .inl (cL, 1, .inr (.inl fo)))]) (jw_B D vwCl (va_A [(h0, .inr (5, [.ref tl, .ref tr, .ref cu, .ref bk, .int 0])), (ou, .inl (cL, 1, .inr (.inl fo)))] sz) (fun u : va_W => u)) (va_A [(h0, .inr (5, [.ref tl, .ref tr, .ref cu, .ref bk, .int 0])), (ou, .inl (cL, 1, .inr (.inl fo)))] sz)) 1 6 (va_A [(h0, .inr (5, [.ref tl, .ref tr, .ref cu, .ref bk, .int 0])), (ou, .inl (cL, 1, .inr (.inl fo)))] sz) := by
  refine va_MetW (hh := [(0, 8, 11, 19), (0, 8, 14, 13)]) (cc := cL_count) (maxL := 4) (ret := (some .int)) (by decide) rfl ?_
  intro p e s m args below meth c s₁ B hml hv
  obtain ⟨rfl, hsz, hP, hK, hN, hD0, hZ⟩ := hv
  have hx := B.exec
  have hb := B.bytes
  have hr := B.returns
  have hts := atoms_spec (ws := wsL_count) B.pre
  have hown : s.vm.findClass RL = some m.cls := findClass_of_methodNamed B.named
  have hlocks := B.notSynchronized
  subst hsz
  have hD := hD0.self (sz := s.heap.size)
  generalize hAe : va_A [(h0, .inr (5, [.ref tl, .ref tr, .ref cu, .ref bk, .int 0])), (ou, .inl (cL, 1, .inr (.inl fo)))] s.heap.size = A at hD ⊢
  have hA : ∀ q : Nat, s.heap.size ≤ q → A q := fun q h => by rw [← hAe]; exact Or.inr h
  have hS : va_S A s.heap s.heap [] := va_S.rf
  have hl := lv_entry ([.ref h0, .int x, .ref ou]) (n := 4) (Nat.le_of_ble_eq_true rfl)
  rw [lg_entry_eq]
  generalize (lg_sl ([.ref h0, .int x, .ref ou]) ++ List.replicate (4 - (lg_sl ([.ref h0, .int x, .ref ou])).length) Slot.unset).toArray = ls at hl ⊢
  have hl : lv_has ls 4 [(0, .ref h0), (1, .int x), (2, .ref ou)] := hl
  refine lv_aload_n hx hb dL_count_0 rfl (lv_at hl 2 rfl) ?_
  refine lv_iconst (v := 0) hx hb dL_count_1 (by decide) ?_
  refine lv_aload_n hx hb dL_count_2 rfl (lv_at hl 0 rfl) ?_
  refine lv_iload_n hx hb dL_count_3 rfl (lv_at hl 1 rfl) ?_
  refine jx_thr (vx_runV (As := [.int x]) (rest := [.int 0, .ref ou]) ⟨hx, hb, hml, hown, hts⟩ (cJ_count_a l hnt D cI cL cQ h0 tl tr cu bk x (by first | assumption | decide | omega)) (cwV 1 hts gL_count_X5_count rfl rfl rfl (by decide +kernel) ⟨Nat.le_of_ble_eq_true rfl, Nat.le_of_ble_eq_true rfl⟩) (jt_V hK hN hZ hP [0] rfl 5 0 rfl rfl rfl) rfl rfl hl.1 rfl (lv_room (Nat.le_of_ble_eq_true rfl)) dL_count_4 ⟨Nat.le_of_ble_eq_true rfl, Nat.le_of_ble_eq_true rfl⟩) (fun ce q9 H1 hz hk hce hcv hcl => ?_)
  have hP : va_P D vwCl [(h0, .inr (5, [.ref tl, .ref tr, .ref cu, .ref bk, .int 0])), (ou, .inl (cL, 1, .inr (.inl fo)))] H1 := hP.kept (fun k x hx => hk x.1 (hP k x hx).lt)
  have hS : va_S A s.heap H1 [] := ⟨hz, fun q h1 _ => hk q h1, fun _ h => nomatch h⟩
  generalize H1 = H at hP hS hce ⊢
  have htab : c.exceptionTable.toList = [⟨0, 8, 11, 19⟩, ⟨0, 8, 14, 13⟩] := vx_table (x := yL_count) B (hts _ List.mem_cons_self)
  refine jc_first (name := "") hown ⟨0, 8, 11, 19⟩ [⟨0, 8, 14, 13⟩] htab (by decide) (by decide) (hts (.classLink RL 19 "java/lang/IllegalArgumentException") (by decide +kernel)) hce hcv hcl ?_
  refine W.eq (g2 := F0 m 11 ls [.ref q9]) rfl ?_
  refine W.widen (k := 1) (n := 6) (by omega) (by omega) ?_
  refine lv_astore_n (lv' := [(3, .ref q9), (0, .ref h0), (1, .int x), (2, .ref ou)]) hx hb dL_count_11 rfl hl (by decide) rfl (fun ls hl => ?_)
  refine lv_iconst (v := 1) hx hb dL_count_12 (by decide) ?_
  refine W.widen (k := 1) (n := 6) (by omega) (by omega) ?_
  exact W.iret (v := 1) hx hb hr (fun t ht hW => ⟨⟨1, [(h0, .inr (5, [.ref tl, .ref tr, .ref cu, .ref bk, .int 0])), (ou, .inl (cL, 1, .inr (.inl fo)))], rfl, (by exact ⟨rfl, rfl⟩), by rw [ht]; exact hP, hD⟩, hS.F ht⟩) hS.2.2 dL_count_13
set_option maxHeartbeats 1000000 in
set_option maxRecDepth 100000 in
theorem kL_count_s (l : Launch) (hnt : l.stackTraces = false) (D : va_G) (cI cL cQ : ClassId) (h0 : Nat) (tl : Nat) (tr : Nat) (cu : Nat) (bk : Nat) (x : Int32) (ou : Nat) (fo : Nat → Int64) (sz : Nat) (h1 : ¬ x < 0) (h2 : ¬ 4 ≤ x) : Met l yL_count wsL_count ({ frames := 8, cells := 1, slots := 6, locals := 123 }) (jh_P D vwCl (jT cI cL cQ) cL cQ [.ref h0, .int x, .ref ou] [(h0, .inr (5, [.ref tl, .ref tr, .ref cu, .ref bk, .int 0])), (ou, .inl (cL, 1, .inr (.inl fo)))] sz) (va_Qi (fun (r : Int32) (u : va_W) => r = 2 ∧ u = [(h0, .inr (5, [.ref tl, .ref tr, .ref cu, .ref bk, .int 0])), (ou, .inl (cL, 1, .inr (.inl fo)))]) (jw_B D vwCl (va_A [(h0, .inr (5, [.ref tl, .ref tr, .ref cu, .ref bk, .int 0])), (ou, .inl (cL, 1, .inr (.inl fo)))] sz) (fun u : va_W => u)) (va_A [(h0, .inr (5, [.ref tl, .ref tr, .ref cu, .ref bk, .int 0])), (ou, .inl (cL, 1, .inr (.inl fo)))] sz)) 1 6 (va_A [(h0, .inr (5, [.ref tl, .ref tr, .ref cu, .ref bk, .int 0])), (ou, .inl (cL, 1, .inr (.inl fo)))] sz) := by
  refine va_MetW (hh := [(0, 8, 11, 19), (0, 8, 14, 13)]) (cc := cL_count) (maxL := 4) (ret := (some .int)) (by decide) rfl ?_
  intro p e s m args below meth c s₁ B hml hv
  obtain ⟨rfl, hsz, hP, hK, hN, hD0, hZ⟩ := hv
  have hx := B.exec
  have hb := B.bytes
  have hr := B.returns
  have hts := atoms_spec (ws := wsL_count) B.pre
  have hown : s.vm.findClass RL = some m.cls := findClass_of_methodNamed B.named
  have hlocks := B.notSynchronized
  subst hsz
  have hD := hD0.self (sz := s.heap.size)
  generalize hAe : va_A [(h0, .inr (5, [.ref tl, .ref tr, .ref cu, .ref bk, .int 0])), (ou, .inl (cL, 1, .inr (.inl fo)))] s.heap.size = A at hD ⊢
  have hA : ∀ q : Nat, s.heap.size ≤ q → A q := fun q h => by rw [← hAe]; exact Or.inr h
  have hS : va_S A s.heap s.heap [] := va_S.rf
  have hl := lv_entry ([.ref h0, .int x, .ref ou]) (n := 4) (Nat.le_of_ble_eq_true rfl)
  rw [lg_entry_eq]
  generalize (lg_sl ([.ref h0, .int x, .ref ou]) ++ List.replicate (4 - (lg_sl ([.ref h0, .int x, .ref ou])).length) Slot.unset).toArray = ls at hl ⊢
  have hl : lv_has ls 4 [(0, .ref h0), (1, .int x), (2, .ref ou)] := hl
  refine lv_aload_n hx hb dL_count_0 rfl (lv_at hl 2 rfl) ?_
  refine lv_iconst (v := 0) hx hb dL_count_1 (by decide) ?_
  refine lv_aload_n hx hb dL_count_2 rfl (lv_at hl 0 rfl) ?_
  refine lv_iload_n hx hb dL_count_3 rfl (lv_at hl 1 rfl) ?_
  refine jx_thr (vx_runV (As := [.int x]) (rest := [.int 0, .ref ou]) ⟨hx, hb, hml, hown, hts⟩ (cJ_count_s l hnt D cI cL cQ h0 tl tr cu bk x (by first | assumption | decide | omega) (by first | assumption | decide | omega)) (cwV 1 hts gL_count_X5_count rfl rfl rfl (by decide +kernel) ⟨Nat.le_of_ble_eq_true rfl, Nat.le_of_ble_eq_true rfl⟩) (jt_V hK hN hZ hP [0] rfl 5 0 rfl rfl rfl) rfl rfl hl.1 rfl (lv_room (Nat.le_of_ble_eq_true rfl)) dL_count_4 ⟨Nat.le_of_ble_eq_true rfl, Nat.le_of_ble_eq_true rfl⟩) (fun ce q9 H1 hz hk hce hcv hcl => ?_)
  have hP : va_P D vwCl [(h0, .inr (5, [.ref tl, .ref tr, .ref cu, .ref bk, .int 0])), (ou, .inl (cL, 1, .inr (.inl fo)))] H1 := hP.kept (fun k x hx => hk x.1 (hP k x hx).lt)
  have hS : va_S A s.heap H1 [] := ⟨hz, fun q h1 _ => hk q h1, fun _ h => nomatch h⟩
  generalize H1 = H at hP hS hce ⊢
  have htab : c.exceptionTable.toList = [⟨0, 8, 11, 19⟩, ⟨0, 8, 14, 13⟩] := vx_table (x := yL_count) B (hts _ List.mem_cons_self)
  refine jc_second hown ⟨0, 8, 11, 19⟩ ⟨0, 8, 14, 13⟩ [] htab (by decide) (by decide) (by decide) (by decide) (hts (.classLink RL 19 "java/lang/IllegalArgumentException") (by decide +kernel)) (hZ.2.2.2.2.2.2.1 _ (by decide +kernel) _ (by decide +kernel) (by decide +kernel)) (hts (.classLink RL 13 "java/lang/IllegalStateException") (by decide +kernel)) hce hcv hcl ?_
  refine W.eq (g2 := F0 m 14 ls [.ref q9]) rfl ?_
  refine W.widen (k := 1) (n := 6) (by omega) (by omega) ?_
  refine lv_astore_n (lv' := [(3, .ref q9), (0, .ref h0), (1, .int x), (2, .ref ou)]) hx hb dL_count_14 rfl hl (by decide) rfl (fun ls hl => ?_)
  refine lv_iconst (v := 2) hx hb dL_count_15 (by decide) ?_
  refine W.widen (k := 1) (n := 6) (by omega) (by omega) ?_
  exact W.iret (v := 2) hx hb hr (fun t ht hW => ⟨⟨2, [(h0, .inr (5, [.ref tl, .ref tr, .ref cu, .ref bk, .int 0])), (ou, .inl (cL, 1, .inr (.inl fo)))], rfl, (by exact ⟨rfl, rfl⟩), by rw [ht]; exact hP, hD⟩, hS.F ht⟩) hS.2.2 dL_count_16
set_option maxHeartbeats 1000000 in
set_option maxRecDepth 100000 in
theorem kL_group_a (l : Launch) (hnt : l.stackTraces = false) (D : va_G) (cI cL cQ : ClassId) (h0 : Nat) (tl : Nat) (tr : Nat) (cu : Nat) (bk : Nat) (x : Int32) (y : Int32) (ou : Nat) (fo : Nat → Int64) (sz : Nat) (h1 : x < 0 ∨ (y < 0 ∨ 5 ≤ y)) : Met l yL_group wsL_group ({ frames := 8, cells := 1, slots := 6, locals := 125 }) (jh_P D vwCl (jT cI cL cQ) cL cQ [.ref h0, .int x, .int y, .ref ou] [(h0, .inr (5, [.ref tl, .ref tr, .ref cu, .ref bk, .int 0])), (ou, .inl (cL, 1, .inr (.inl fo)))] sz) (va_Qi (fun (r : Int32) (u : va_W) => r = 1 ∧ u = [(h0, .inr (5, [.ref tl, .ref tr, .ref cu, .ref bk, .int 0])), (ou, .inl (cL, 1, .inr (.inl fo)))]) (jw_B D vwCl (va_A [(h0, .inr (5, [.ref tl, .ref tr, .ref cu, .ref bk, .int 0])), (ou, .inl (cL, 1, .inr (.inl fo)))] sz) (fun u : va_W => u)) (va_A [(h0, .inr (5, [.ref tl, .ref tr, .ref cu, .ref bk, .int 0])), (ou, .inl (cL, 1, .inr (.inl fo)))] sz)) 1 6 (va_A [(h0, .inr (5, [.ref tl, .ref tr, .ref cu, .ref bk, .int 0])), (ou, .inl (cL, 1, .inr (.inl fo)))] sz) := by
  refine va_MetW (hh := [(0, 9, 12, 19), (0, 9, 16, 13)]) (cc := cL_group) (maxL := 5) (ret := (some .int)) (by decide) rfl ?_
  intro p e s m args below meth c s₁ B hml hv
  obtain ⟨rfl, hsz, hP, hK, hN, hD0, hZ⟩ := hv
  have hx := B.exec
  have hb := B.bytes
  have hr := B.returns
  have hts := atoms_spec (ws := wsL_group) B.pre
  have hown : s.vm.findClass RL = some m.cls := findClass_of_methodNamed B.named
  have hlocks := B.notSynchronized
  subst hsz
  have hD := hD0.self (sz := s.heap.size)
  generalize hAe : va_A [(h0, .inr (5, [.ref tl, .ref tr, .ref cu, .ref bk, .int 0])), (ou, .inl (cL, 1, .inr (.inl fo)))] s.heap.size = A at hD ⊢
  have hA : ∀ q : Nat, s.heap.size ≤ q → A q := fun q h => by rw [← hAe]; exact Or.inr h
  have hS : va_S A s.heap s.heap [] := va_S.rf
  have hl := lv_entry ([.ref h0, .int x, .int y, .ref ou]) (n := 5) (Nat.le_of_ble_eq_true rfl)
  rw [lg_entry_eq]
  generalize (lg_sl ([.ref h0, .int x, .int y, .ref ou]) ++ List.replicate (5 - (lg_sl ([.ref h0, .int x, .int y, .ref ou])).length) Slot.unset).toArray = ls at hl ⊢
  have hl : lv_has ls 5 [(0, .ref h0), (1, .int x), (2, .int y), (3, .ref ou)] := hl
  refine lv_aload_n hx hb dL_group_0 rfl (lv_at hl 3 rfl) ?_
  refine lv_iconst (v := 0) hx hb dL_group_1 (by decide) ?_
  refine lv_aload_n hx hb dL_group_2 rfl (lv_at hl 0 rfl) ?_
  refine lv_iload_n hx hb dL_group_3 rfl (lv_at hl 1 rfl) ?_
  refine lv_iload_n hx hb dL_group_4 rfl (lv_at hl 2 rfl) ?_
  refine jx_thr (vx_runV (As := [.int x, .int y]) (rest := [.int 0, .ref ou]) ⟨hx, hb, hml, hown, hts⟩ (cJ_group_a l hnt D cI cL cQ h0 tl tr cu bk x y (by first | assumption | decide | omega)) (cwV 2 hts gL_group_X5_group rfl rfl rfl (by decide +kernel) ⟨Nat.le_of_ble_eq_true rfl, Nat.le_of_ble_eq_true rfl⟩) (jt_V hK hN hZ hP [0] rfl 5 0 rfl rfl rfl) rfl rfl hl.1 rfl (lv_room (Nat.le_of_ble_eq_true rfl)) dL_group_5 ⟨Nat.le_of_ble_eq_true rfl, Nat.le_of_ble_eq_true rfl⟩) (fun ce q9 H1 hz hk hce hcv hcl => ?_)
  have hP : va_P D vwCl [(h0, .inr (5, [.ref tl, .ref tr, .ref cu, .ref bk, .int 0])), (ou, .inl (cL, 1, .inr (.inl fo)))] H1 := hP.kept (fun k x hx => hk x.1 (hP k x hx).lt)
  have hS : va_S A s.heap H1 [] := ⟨hz, fun q h1 _ => hk q h1, fun _ h => nomatch h⟩
  generalize H1 = H at hP hS hce ⊢
  have htab : c.exceptionTable.toList = [⟨0, 9, 12, 19⟩, ⟨0, 9, 16, 13⟩] := vx_table (x := yL_group) B (hts _ List.mem_cons_self)
  refine jc_first (name := "") hown ⟨0, 9, 12, 19⟩ [⟨0, 9, 16, 13⟩] htab (by decide) (by decide) (hts (.classLink RL 19 "java/lang/IllegalArgumentException") (by decide +kernel)) hce hcv hcl ?_
  refine W.eq (g2 := F0 m 12 ls [.ref q9]) rfl ?_
  refine W.widen (k := 1) (n := 6) (by omega) (by omega) ?_
  refine lv_astore (lv' := [(4, .ref q9), (0, .ref h0), (1, .int x), (2, .int y), (3, .ref ou)]) hx hb dL_group_12 hl (by decide) rfl (fun ls hl => ?_)
  refine lv_iconst (v := 1) hx hb dL_group_14 (by decide) ?_
  refine W.widen (k := 1) (n := 6) (by omega) (by omega) ?_
  exact W.iret (v := 1) hx hb hr (fun t ht hW => ⟨⟨1, [(h0, .inr (5, [.ref tl, .ref tr, .ref cu, .ref bk, .int 0])), (ou, .inl (cL, 1, .inr (.inl fo)))], rfl, (by exact ⟨rfl, rfl⟩), by rw [ht]; exact hP, hD⟩, hS.F ht⟩) hS.2.2 dL_group_15
set_option maxHeartbeats 1000000 in
set_option maxRecDepth 100000 in
theorem kL_group_s (l : Launch) (hnt : l.stackTraces = false) (D : va_G) (cI cL cQ : ClassId) (h0 : Nat) (tl : Nat) (tr : Nat) (cu : Nat) (bk : Nat) (x : Int32) (y : Int32) (ou : Nat) (fo : Nat → Int64) (sz : Nat) (h1 : ¬ x < 0) (h2 : ¬ y < 0) (h3 : ¬ 5 ≤ y) : Met l yL_group wsL_group ({ frames := 8, cells := 1, slots := 6, locals := 125 }) (jh_P D vwCl (jT cI cL cQ) cL cQ [.ref h0, .int x, .int y, .ref ou] [(h0, .inr (5, [.ref tl, .ref tr, .ref cu, .ref bk, .int 0])), (ou, .inl (cL, 1, .inr (.inl fo)))] sz) (va_Qi (fun (r : Int32) (u : va_W) => r = 2 ∧ u = [(h0, .inr (5, [.ref tl, .ref tr, .ref cu, .ref bk, .int 0])), (ou, .inl (cL, 1, .inr (.inl fo)))]) (jw_B D vwCl (va_A [(h0, .inr (5, [.ref tl, .ref tr, .ref cu, .ref bk, .int 0])), (ou, .inl (cL, 1, .inr (.inl fo)))] sz) (fun u : va_W => u)) (va_A [(h0, .inr (5, [.ref tl, .ref tr, .ref cu, .ref bk, .int 0])), (ou, .inl (cL, 1, .inr (.inl fo)))] sz)) 1 6 (va_A [(h0, .inr (5, [.ref tl, .ref tr, .ref cu, .ref bk, .int 0])), (ou, .inl (cL, 1, .inr (.inl fo)))] sz) := by
  refine va_MetW (hh := [(0, 9, 12, 19), (0, 9, 16, 13)]) (cc := cL_group) (maxL := 5) (ret := (some .int)) (by decide) rfl ?_
  intro p e s m args below meth c s₁ B hml hv
  obtain ⟨rfl, hsz, hP, hK, hN, hD0, hZ⟩ := hv
  have hx := B.exec
  have hb := B.bytes
  have hr := B.returns
  have hts := atoms_spec (ws := wsL_group) B.pre
  have hown : s.vm.findClass RL = some m.cls := findClass_of_methodNamed B.named
  have hlocks := B.notSynchronized
  subst hsz
  have hD := hD0.self (sz := s.heap.size)
  generalize hAe : va_A [(h0, .inr (5, [.ref tl, .ref tr, .ref cu, .ref bk, .int 0])), (ou, .inl (cL, 1, .inr (.inl fo)))] s.heap.size = A at hD ⊢
  have hA : ∀ q : Nat, s.heap.size ≤ q → A q := fun q h => by rw [← hAe]; exact Or.inr h
  have hS : va_S A s.heap s.heap [] := va_S.rf
  have hl := lv_entry ([.ref h0, .int x, .int y, .ref ou]) (n := 5) (Nat.le_of_ble_eq_true rfl)
  rw [lg_entry_eq]
  generalize (lg_sl ([.ref h0, .int x, .int y, .ref ou]) ++ List.replicate (5 - (lg_sl ([.ref h0, .int x, .int y, .ref ou])).length) Slot.unset).toArray = ls at hl ⊢
  have hl : lv_has ls 5 [(0, .ref h0), (1, .int x), (2, .int y), (3, .ref ou)] := hl
  refine lv_aload_n hx hb dL_group_0 rfl (lv_at hl 3 rfl) ?_
  refine lv_iconst (v := 0) hx hb dL_group_1 (by decide) ?_
  refine lv_aload_n hx hb dL_group_2 rfl (lv_at hl 0 rfl) ?_
  refine lv_iload_n hx hb dL_group_3 rfl (lv_at hl 1 rfl) ?_
  refine lv_iload_n hx hb dL_group_4 rfl (lv_at hl 2 rfl) ?_
  refine jx_thr (vx_runV (As := [.int x, .int y]) (rest := [.int 0, .ref ou]) ⟨hx, hb, hml, hown, hts⟩ (cJ_group_s l hnt D cI cL cQ h0 tl tr cu bk x y (by first | assumption | decide | omega) (by first | assumption | decide | omega) (by first | assumption | decide | omega)) (cwV 2 hts gL_group_X5_group rfl rfl rfl (by decide +kernel) ⟨Nat.le_of_ble_eq_true rfl, Nat.le_of_ble_eq_true rfl⟩) (jt_V hK hN hZ hP [0] rfl 5 0 rfl rfl rfl) rfl rfl hl.1 rfl (lv_room (Nat.le_of_ble_eq_true rfl)) dL_group_5 ⟨Nat.le_of_ble_eq_true rfl, Nat.le_of_ble_eq_true rfl⟩) (fun ce q9 H1 hz hk hce hcv hcl => ?_)
  have hP : va_P D vwCl [(h0, .inr (5, [.ref tl, .ref tr, .ref cu, .ref bk, .int 0])), (ou, .inl (cL, 1, .inr (.inl fo)))] H1 := hP.kept (fun k x hx => hk x.1 (hP k x hx).lt)
  have hS : va_S A s.heap H1 [] := ⟨hz, fun q h1 _ => hk q h1, fun _ h => nomatch h⟩
  generalize H1 = H at hP hS hce ⊢
  have htab : c.exceptionTable.toList = [⟨0, 9, 12, 19⟩, ⟨0, 9, 16, 13⟩] := vx_table (x := yL_group) B (hts _ List.mem_cons_self)
  refine jc_second hown ⟨0, 9, 12, 19⟩ ⟨0, 9, 16, 13⟩ [] htab (by decide) (by decide) (by decide) (by decide) (hts (.classLink RL 19 "java/lang/IllegalArgumentException") (by decide +kernel)) (hZ.2.2.2.2.2.2.1 _ (by decide +kernel) _ (by decide +kernel) (by decide +kernel)) (hts (.classLink RL 13 "java/lang/IllegalStateException") (by decide +kernel)) hce hcv hcl ?_
  refine W.eq (g2 := F0 m 16 ls [.ref q9]) rfl ?_
  refine W.widen (k := 1) (n := 6) (by omega) (by omega) ?_
  refine lv_astore (lv' := [(4, .ref q9), (0, .ref h0), (1, .int x), (2, .int y), (3, .ref ou)]) hx hb dL_group_16 hl (by decide) rfl (fun ls hl => ?_)
  refine lv_iconst (v := 2) hx hb dL_group_18 (by decide) ?_
  refine W.widen (k := 1) (n := 6) (by omega) (by omega) ?_
  exact W.iret (v := 2) hx hb hr (fun t ht hW => ⟨⟨2, [(h0, .inr (5, [.ref tl, .ref tr, .ref cu, .ref bk, .int 0])), (ou, .inl (cL, 1, .inr (.inl fo)))], rfl, (by exact ⟨rfl, rfl⟩), by rw [ht]; exact hP, hD⟩, hS.F ht⟩) hS.2.2 dL_group_19
set_option maxHeartbeats 1000000 in
set_option maxRecDepth 100000 in
theorem kL_sorted_1 (l : Launch) (hnt : l.stackTraces = false) (D : va_G) (cI cL cQ : ClassId) (a : Nat) (h0 : Nat) (tl : Nat) (tr : Nat) (cu : Nat) (bk : Nat) (lk : Nat) (lv : Nat) (lo : Nat) (lp : Nat) (ll : Nat) (lf : Nat) (x : Int32) (y : Int32) (ou : Nat) (fo : Nat → Int64) (sz : Nat) : Met l yL_sorted wsL_sorted ({ frames := 8, cells := 1, slots := 6, locals := 126 }) (jh_P D vwCl (jT cI cL cQ) cL cQ [.ref h0, .int 1, .int x, .int y, .ref ou] [(h0, .inr (5, [.ref tl, .ref tr, .ref cu, .ref bk, .int 0])), (tl, .inr (4, [.int (nI a), .ref lk, .ref lv, .ref lo, .ref lp, .ref ll, .ref lf, .int 0, .int 0])), (ou, .inl (cL, 1, .inr (.inl fo)))] sz) (va_Qi (fun (r : Int32) (u : va_W) => r = 1 ∧ u = [(h0, .inr (5, [.ref tl, .ref tr, .ref cu, .ref bk, .int 0])), (tl, .inr (4, [.int (nI a), .ref lk, .ref lv, .ref lo, .ref lp, .ref ll, .ref lf, .int 0, .int 0])), (ou, .inl (cL, 1, .inr (.inl fo)))]) (jw_B D vwCl (va_A [(h0, .inr (5, [.ref tl, .ref tr, .ref cu, .ref bk, .int 0])), (tl, .inr (4, [.int (nI a), .ref lk, .ref lv, .ref lo, .ref lp, .ref ll, .ref lf, .int 0, .int 0])), (ou, .inl (cL, 1, .inr (.inl fo)))] sz) (fun u : va_W => u)) (va_A [(h0, .inr (5, [.ref tl, .ref tr, .ref cu, .ref bk, .int 0])), (tl, .inr (4, [.int (nI a), .ref lk, .ref lv, .ref lo, .ref lp, .ref ll, .ref lf, .int 0, .int 0])), (ou, .inl (cL, 1, .inr (.inl fo)))] sz)) 1 6 (va_A [(h0, .inr (5, [.ref tl, .ref tr, .ref cu, .ref bk, .int 0])), (tl, .inr (4, [.int (nI a), .ref lk, .ref lv, .ref lo, .ref lp, .ref ll, .ref lf, .int 0, .int 0])), (ou, .inl (cL, 1, .inr (.inl fo)))] sz) := by
  refine va_MetW (hh := [(0, 12, 15, 19), (0, 12, 19, 13)]) (cc := cL_sorted) (maxL := 6) (ret := (some .int)) (by decide) rfl ?_
  intro p e s m args below meth c s₁ B hml hv
  obtain ⟨rfl, hsz, hP, hK, hN, hD0, hZ⟩ := hv
  have hx := B.exec
  have hb := B.bytes
  have hr := B.returns
  have hts := atoms_spec (ws := wsL_sorted) B.pre
  have hown : s.vm.findClass RL = some m.cls := findClass_of_methodNamed B.named
  have hlocks := B.notSynchronized
  subst hsz
  have hD := hD0.self (sz := s.heap.size)
  generalize hAe : va_A [(h0, .inr (5, [.ref tl, .ref tr, .ref cu, .ref bk, .int 0])), (tl, .inr (4, [.int (nI a), .ref lk, .ref lv, .ref lo, .ref lp, .ref ll, .ref lf, .int 0, .int 0])), (ou, .inl (cL, 1, .inr (.inl fo)))] s.heap.size = A at hD ⊢
  have hA : ∀ q : Nat, s.heap.size ≤ q → A q := fun q h => by rw [← hAe]; exact Or.inr h
  have hS : va_S A s.heap s.heap [] := va_S.rf
  have hl := lv_entry ([.ref h0, .int 1, .int x, .int y, .ref ou]) (n := 6) (Nat.le_of_ble_eq_true rfl)
  rw [lg_entry_eq]
  generalize (lg_sl ([.ref h0, .int 1, .int x, .int y, .ref ou]) ++ List.replicate (6 - (lg_sl ([.ref h0, .int 1, .int x, .int y, .ref ou])).length) Slot.unset).toArray = ls at hl ⊢
  have hl : lv_has ls 6 [(0, .ref h0), (1, .int 1), (2, .int x), (3, .int y), (4, .ref ou)] := hl
  refine lv_aload hx hb dL_sorted_0 (lv_at hl 4 rfl) ?_
  refine lv_iconst (v := 0) hx hb dL_sorted_2 (by decide) ?_
  refine lv_aload_n hx hb dL_sorted_3 rfl (lv_at hl 0 rfl) ?_
  refine lv_iload_n hx hb dL_sorted_4 rfl (lv_at hl 1 rfl) ?_
  refine lv_iload_n hx hb dL_sorted_5 rfl (lv_at hl 2 rfl) ?_
  refine lv_iload_n hx hb dL_sorted_6 rfl (lv_at hl 3 rfl) ?_
  refine jx_thr (vx_runV (As := [.int 1, .int x, .int y]) (rest := [.int 0, .ref ou]) ⟨hx, hb, hml, hown, hts⟩ (cJ_sorted_1 l hnt D cI cL cQ a h0 tl tr cu bk lk lv lo lp ll lf x y) (cwV 3 hts gL_sorted_X5_sorted rfl rfl rfl (by decide +kernel) ⟨Nat.le_of_ble_eq_true rfl, Nat.le_of_ble_eq_true rfl⟩) (jt_V hK hN hZ hP [0, 1] rfl 5 0 rfl rfl rfl) rfl rfl hl.1 rfl (lv_room (Nat.le_of_ble_eq_true rfl)) dL_sorted_7 ⟨Nat.le_of_ble_eq_true rfl, Nat.le_of_ble_eq_true rfl⟩) (fun ce q9 H1 hz hk hce hcv hcl => ?_)
  have hP : va_P D vwCl [(h0, .inr (5, [.ref tl, .ref tr, .ref cu, .ref bk, .int 0])), (tl, .inr (4, [.int (nI a), .ref lk, .ref lv, .ref lo, .ref lp, .ref ll, .ref lf, .int 0, .int 0])), (ou, .inl (cL, 1, .inr (.inl fo)))] H1 := hP.kept (fun k x hx => hk x.1 (hP k x hx).lt)
  have hS : va_S A s.heap H1 [] := ⟨hz, fun q h1 _ => hk q h1, fun _ h => nomatch h⟩
  generalize H1 = H at hP hS hce ⊢
  have htab : c.exceptionTable.toList = [⟨0, 12, 15, 19⟩, ⟨0, 12, 19, 13⟩] := vx_table (x := yL_sorted) B (hts _ List.mem_cons_self)
  refine jc_first (name := "") hown ⟨0, 12, 15, 19⟩ [⟨0, 12, 19, 13⟩] htab (by decide) (by decide) (hts (.classLink RL 19 "java/lang/IllegalArgumentException") (by decide +kernel)) hce hcv hcl ?_
  refine W.eq (g2 := F0 m 15 ls [.ref q9]) rfl ?_
  refine W.widen (k := 1) (n := 6) (by omega) (by omega) ?_
  refine lv_astore (lv' := [(5, .ref q9), (0, .ref h0), (1, .int 1), (2, .int x), (3, .int y), (4, .ref ou)]) hx hb dL_sorted_15 hl (by decide) rfl (fun ls hl => ?_)
  refine lv_iconst (v := 1) hx hb dL_sorted_17 (by decide) ?_
  refine W.widen (k := 1) (n := 6) (by omega) (by omega) ?_
  exact W.iret (v := 1) hx hb hr (fun t ht hW => ⟨⟨1, [(h0, .inr (5, [.ref tl, .ref tr, .ref cu, .ref bk, .int 0])), (tl, .inr (4, [.int (nI a), .ref lk, .ref lv, .ref lo, .ref lp, .ref ll, .ref lf, .int 0, .int 0])), (ou, .inl (cL, 1, .inr (.inl fo)))], rfl, (by exact ⟨rfl, rfl⟩), by rw [ht]; exact hP, hD⟩, hS.F ht⟩) hS.2.2 dL_sorted_18
set_option maxHeartbeats 1000000 in
set_option maxRecDepth 100000 in
theorem kL_sorted_0 (l : Launch) (hnt : l.stackTraces = false) (D : va_G) (cI cL cQ : ClassId) (b : Nat) (h0 : Nat) (tl : Nat) (tr : Nat) (cu : Nat) (bk : Nat) (rk : Nat) (rv : Nat) (ro : Nat) (rp : Nat) (rl : Nat) (rf : Nat) (x : Int32) (y : Int32) (ou : Nat) (fo : Nat → Int64) (sz : Nat) : Met l yL_sorted wsL_sorted ({ frames := 8, cells := 1, slots := 6, locals := 126 }) (jh_P D vwCl (jT cI cL cQ) cL cQ [.ref h0, .int 0, .int x, .int y, .ref ou] [(h0, .inr (5, [.ref tl, .ref tr, .ref cu, .ref bk, .int 0])), (tr, .inr (4, [.int (nI b), .ref rk, .ref rv, .ref ro, .ref rp, .ref rl, .ref rf, .int 0, .int 0])), (ou, .inl (cL, 1, .inr (.inl fo)))] sz) (va_Qi (fun (r : Int32) (u : va_W) => r = 1 ∧ u = [(h0, .inr (5, [.ref tl, .ref tr, .ref cu, .ref bk, .int 0])), (tr, .inr (4, [.int (nI b), .ref rk, .ref rv, .ref ro, .ref rp, .ref rl, .ref rf, .int 0, .int 0])), (ou, .inl (cL, 1, .inr (.inl fo)))]) (jw_B D vwCl (va_A [(h0, .inr (5, [.ref tl, .ref tr, .ref cu, .ref bk, .int 0])), (tr, .inr (4, [.int (nI b), .ref rk, .ref rv, .ref ro, .ref rp, .ref rl, .ref rf, .int 0, .int 0])), (ou, .inl (cL, 1, .inr (.inl fo)))] sz) (fun u : va_W => u)) (va_A [(h0, .inr (5, [.ref tl, .ref tr, .ref cu, .ref bk, .int 0])), (tr, .inr (4, [.int (nI b), .ref rk, .ref rv, .ref ro, .ref rp, .ref rl, .ref rf, .int 0, .int 0])), (ou, .inl (cL, 1, .inr (.inl fo)))] sz)) 1 6 (va_A [(h0, .inr (5, [.ref tl, .ref tr, .ref cu, .ref bk, .int 0])), (tr, .inr (4, [.int (nI b), .ref rk, .ref rv, .ref ro, .ref rp, .ref rl, .ref rf, .int 0, .int 0])), (ou, .inl (cL, 1, .inr (.inl fo)))] sz) := by
  refine va_MetW (hh := [(0, 12, 15, 19), (0, 12, 19, 13)]) (cc := cL_sorted) (maxL := 6) (ret := (some .int)) (by decide) rfl ?_
  intro p e s m args below meth c s₁ B hml hv
  obtain ⟨rfl, hsz, hP, hK, hN, hD0, hZ⟩ := hv
  have hx := B.exec
  have hb := B.bytes
  have hr := B.returns
  have hts := atoms_spec (ws := wsL_sorted) B.pre
  have hown : s.vm.findClass RL = some m.cls := findClass_of_methodNamed B.named
  have hlocks := B.notSynchronized
  subst hsz
  have hD := hD0.self (sz := s.heap.size)
  generalize hAe : va_A [(h0, .inr (5, [.ref tl, .ref tr, .ref cu, .ref bk, .int 0])), (tr, .inr (4, [.int (nI b), .ref rk, .ref rv, .ref ro, .ref rp, .ref rl, .ref rf, .int 0, .int 0])), (ou, .inl (cL, 1, .inr (.inl fo)))] s.heap.size = A at hD ⊢
  have hA : ∀ q : Nat, s.heap.size ≤ q → A q := fun q h => by rw [← hAe]; exact Or.inr h
  have hS : va_S A s.heap s.heap [] := va_S.rf
  have hl := lv_entry ([.ref h0, .int 0, .int x, .int y, .ref ou]) (n := 6) (Nat.le_of_ble_eq_true rfl)
  rw [lg_entry_eq]
  generalize (lg_sl ([.ref h0, .int 0, .int x, .int y, .ref ou]) ++ List.replicate (6 - (lg_sl ([.ref h0, .int 0, .int x, .int y, .ref ou])).length) Slot.unset).toArray = ls at hl ⊢
  have hl : lv_has ls 6 [(0, .ref h0), (1, .int 0), (2, .int x), (3, .int y), (4, .ref ou)] := hl
  refine lv_aload hx hb dL_sorted_0 (lv_at hl 4 rfl) ?_
  refine lv_iconst (v := 0) hx hb dL_sorted_2 (by decide) ?_
  refine lv_aload_n hx hb dL_sorted_3 rfl (lv_at hl 0 rfl) ?_
  refine lv_iload_n hx hb dL_sorted_4 rfl (lv_at hl 1 rfl) ?_
  refine lv_iload_n hx hb dL_sorted_5 rfl (lv_at hl 2 rfl) ?_
  refine lv_iload_n hx hb dL_sorted_6 rfl (lv_at hl 3 rfl) ?_
  refine jx_thr (vx_runV (As := [.int 0, .int x, .int y]) (rest := [.int 0, .ref ou]) ⟨hx, hb, hml, hown, hts⟩ (cJ_sorted_0 l hnt D cI cL cQ b h0 tl tr cu bk rk rv ro rp rl rf x y) (cwV 3 hts gL_sorted_X5_sorted rfl rfl rfl (by decide +kernel) ⟨Nat.le_of_ble_eq_true rfl, Nat.le_of_ble_eq_true rfl⟩) (jt_V hK hN hZ hP [0, 1] rfl 5 0 rfl rfl rfl) rfl rfl hl.1 rfl (lv_room (Nat.le_of_ble_eq_true rfl)) dL_sorted_7 ⟨Nat.le_of_ble_eq_true rfl, Nat.le_of_ble_eq_true rfl⟩) (fun ce q9 H1 hz hk hce hcv hcl => ?_)
  have hP : va_P D vwCl [(h0, .inr (5, [.ref tl, .ref tr, .ref cu, .ref bk, .int 0])), (tr, .inr (4, [.int (nI b), .ref rk, .ref rv, .ref ro, .ref rp, .ref rl, .ref rf, .int 0, .int 0])), (ou, .inl (cL, 1, .inr (.inl fo)))] H1 := hP.kept (fun k x hx => hk x.1 (hP k x hx).lt)
  have hS : va_S A s.heap H1 [] := ⟨hz, fun q h1 _ => hk q h1, fun _ h => nomatch h⟩
  generalize H1 = H at hP hS hce ⊢
  have htab : c.exceptionTable.toList = [⟨0, 12, 15, 19⟩, ⟨0, 12, 19, 13⟩] := vx_table (x := yL_sorted) B (hts _ List.mem_cons_self)
  refine jc_first (name := "") hown ⟨0, 12, 15, 19⟩ [⟨0, 12, 19, 13⟩] htab (by decide) (by decide) (hts (.classLink RL 19 "java/lang/IllegalArgumentException") (by decide +kernel)) hce hcv hcl ?_
  refine W.eq (g2 := F0 m 15 ls [.ref q9]) rfl ?_
  refine W.widen (k := 1) (n := 6) (by omega) (by omega) ?_
  refine lv_astore (lv' := [(5, .ref q9), (0, .ref h0), (1, .int 0), (2, .int x), (3, .int y), (4, .ref ou)]) hx hb dL_sorted_15 hl (by decide) rfl (fun ls hl => ?_)
  refine lv_iconst (v := 1) hx hb dL_sorted_17 (by decide) ?_
  refine W.widen (k := 1) (n := 6) (by omega) (by omega) ?_
  exact W.iret (v := 1) hx hb hr (fun t ht hW => ⟨⟨1, [(h0, .inr (5, [.ref tl, .ref tr, .ref cu, .ref bk, .int 0])), (tr, .inr (4, [.int (nI b), .ref rk, .ref rv, .ref ro, .ref rp, .ref rl, .ref rf, .int 0, .int 0])), (ou, .inl (cL, 1, .inr (.inl fo)))], rfl, (by exact ⟨rfl, rfl⟩), by rw [ht]; exact hP, hD⟩, hS.F ht⟩) hS.2.2 dL_sorted_18
set_option maxHeartbeats 1000000 in
set_option maxRecDepth 100000 in
theorem kL_pair_t (l : Launch) (hnt : l.stackTraces = false) (D : va_G) (cI cL cQ : ClassId) (h0 : Nat) (tl : Nat) (tr : Nat) (cu : Nat) (bk : Nat) (x : Int32) (ou : Nat) (fo : Nat → Int64) (sz : Nat) (h1 : x < 0 ∨ 5 ≤ x) : Met l yL_pair wsL_pair ({ frames := 8, cells := 1, slots := 6, locals := 125 }) (jh_P D vwCl (jT cI cL cQ) cL cQ [.ref h0, .int x, .ref ou] [(h0, .inr (5, [.ref tl, .ref tr, .ref cu, .ref bk, .int 0])), (ou, .inl (cL, 1, .inr (.inl fo)))] sz) (va_Qi (fun (r : Int32) (u : va_W) => r = 1 ∧ u = [(h0, .inr (5, [.ref tl, .ref tr, .ref cu, .ref bk, .int 0])), (ou, .inl (cL, 1, .inr (.inl fo)))]) (jw_B D vwCl (va_A [(h0, .inr (5, [.ref tl, .ref tr, .ref cu, .ref bk, .int 0])), (ou, .inl (cL, 1, .inr (.inl fo)))] sz) (fun u : va_W => u)) (va_A [(h0, .inr (5, [.ref tl, .ref tr, .ref cu, .ref bk, .int 0])), (ou, .inl (cL, 1, .inr (.inl fo)))] sz)) 1 6 (va_A [(h0, .inr (5, [.ref tl, .ref tr, .ref cu, .ref bk, .int 0])), (ou, .inl (cL, 1, .inr (.inl fo)))] sz) := by
  refine va_MetW (hh := [(0, 9, 12, 19)]) (cc := cL_pair) (maxL := 4) (ret := (some .int)) (by decide) rfl ?_
  intro p e s m args below meth c s₁ B hml hv
  obtain ⟨rfl, hsz, hP, hK, hN, hD0, hZ⟩ := hv
  have hx := B.exec
  have hb := B.bytes
  have hr := B.returns
  have hts := atoms_spec (ws := wsL_pair) B.pre
  have hown : s.vm.findClass RL = some m.cls := findClass_of_methodNamed B.named
  have hlocks := B.notSynchronized
  subst hsz
  have hD := hD0.self (sz := s.heap.size)
  generalize hAe : va_A [(h0, .inr (5, [.ref tl, .ref tr, .ref cu, .ref bk, .int 0])), (ou, .inl (cL, 1, .inr (.inl fo)))] s.heap.size = A at hD ⊢
  have hA : ∀ q : Nat, s.heap.size ≤ q → A q := fun q h => by rw [← hAe]; exact Or.inr h
  have hS : va_S A s.heap s.heap [] := va_S.rf
  have hl := lv_entry ([.ref h0, .int x, .ref ou]) (n := 4) (Nat.le_of_ble_eq_true rfl)
  rw [lg_entry_eq]
  generalize (lg_sl ([.ref h0, .int x, .ref ou]) ++ List.replicate (4 - (lg_sl ([.ref h0, .int x, .ref ou])).length) Slot.unset).toArray = ls at hl ⊢
  have hl : lv_has ls 4 [(0, .ref h0), (1, .int x), (2, .ref ou)] := hl
  refine lv_aload_n hx hb dL_pair_0 rfl (lv_at hl 2 rfl) ?_
  refine lv_iconst (v := 0) hx hb dL_pair_1 (by decide) ?_
  refine lv_aload_n hx hb dL_pair_2 rfl (lv_at hl 0 rfl) ?_
  refine lv_iload_n hx hb dL_pair_3 rfl (lv_at hl 1 rfl) ?_
  refine jx_thr (vx_runV (As := [.int x]) (rest := [.int 0, .ref ou]) ⟨hx, hb, hml, hown, hts⟩ (cJ_pair_t l hnt D cI cL cQ h0 tl tr cu bk x (by first | assumption | decide | omega)) (cwV 1 hts gL_pair_X5_pair rfl rfl rfl (by decide +kernel) ⟨Nat.le_of_ble_eq_true rfl, Nat.le_of_ble_eq_true rfl⟩) (jt_V hK hN hZ hP [0] rfl 5 0 rfl rfl rfl) rfl rfl hl.1 rfl (lv_room (Nat.le_of_ble_eq_true rfl)) dL_pair_4 ⟨Nat.le_of_ble_eq_true rfl, Nat.le_of_ble_eq_true rfl⟩) (fun ce q9 H1 hz hk hce hcv hcl => ?_)
  have hP : va_P D vwCl [(h0, .inr (5, [.ref tl, .ref tr, .ref cu, .ref bk, .int 0])), (ou, .inl (cL, 1, .inr (.inl fo)))] H1 := hP.kept (fun k x hx => hk x.1 (hP k x hx).lt)
  have hS : va_S A s.heap H1 [] := ⟨hz, fun q h1 _ => hk q h1, fun _ h => nomatch h⟩
  generalize H1 = H at hP hS hce ⊢
  have htab : c.exceptionTable.toList = [⟨0, 9, 12, 19⟩] := vx_table (x := yL_pair) B (hts _ List.mem_cons_self)
  refine jc_first (name := "") hown ⟨0, 9, 12, 19⟩ [] htab (by decide) (by decide) (hts (.classLink RL 19 "java/lang/IllegalArgumentException") (by decide +kernel)) hce hcv hcl ?_
  refine W.eq (g2 := F0 m 12 ls [.ref q9]) rfl ?_
  refine W.widen (k := 1) (n := 6) (by omega) (by omega) ?_
  refine lv_astore_n (lv' := [(3, .ref q9), (0, .ref h0), (1, .int x), (2, .ref ou)]) hx hb dL_pair_12 rfl hl (by decide) rfl (fun ls hl => ?_)
  refine lv_iconst (v := 1) hx hb dL_pair_13 (by decide) ?_
  refine W.widen (k := 1) (n := 6) (by omega) (by omega) ?_
  exact W.iret (v := 1) hx hb hr (fun t ht hW => ⟨⟨1, [(h0, .inr (5, [.ref tl, .ref tr, .ref cu, .ref bk, .int 0])), (ou, .inl (cL, 1, .inr (.inl fo)))], rfl, (by exact ⟨rfl, rfl⟩), by rw [ht]; exact hP, hD⟩, hS.F ht⟩) hS.2.2 dL_pair_14
set_option maxHeartbeats 1000000 in
set_option maxRecDepth 100000 in
theorem kL_pair_0 (l : Launch) (hnt : l.stackTraces = false) (D : va_G) (cI cL cQ : ClassId) (a : Nat) (b : Nat) (h0 : Nat) (tl : Nat) (tr : Nat) (cu : Nat) (bk : Nat) (lk : Nat) (lv : Nat) (lo : Nat) (lp : Nat) (ll : Nat) (lf : Nat) (rk : Nat) (rv : Nat) (ro : Nat) (rp : Nat) (rl : Nat) (rf : Nat) (ou : Nat) (fo : Nat → Int64) (sz : Nat) : Met l yL_pair wsL_pair ({ frames := 3, cells := 0, slots := 0, locals := 65 }) (jh_P D vwCl (jT cI cL cQ) cL cQ [.ref h0, .int 0, .ref ou] [(h0, .inr (5, [.ref tl, .ref tr, .ref cu, .ref bk, .int 0])), (tl, .inr (4, [.int (nI a), .ref lk, .ref lv, .ref lo, .ref lp, .ref ll, .ref lf, .int 0, .int 0])), (tr, .inr (4, [.int (nI b), .ref rk, .ref rv, .ref ro, .ref rp, .ref rl, .ref rf, .int 0, .int 0])), (ou, .inl (cL, 1, .inr (.inl fo)))] sz) (va_Qi (fun (r : Int32) (u : va_W) => r = 0 ∧ u = [(h0, .inr (5, [.ref tl, .ref tr, .ref cu, .ref bk, .int 0])), (tl, .inr (4, [.int (nI a), .ref lk, .ref lv, .ref lo, .ref lp, .ref ll, .ref lf, .int 0, .int 0])), (tr, .inr (4, [.int (nI b), .ref rk, .ref rv, .ref ro, .ref rp, .ref rl, .ref rf, .int 0, .int 0])), (ou, .inl (cL, 1, .inr (.inl (vp_updL fo (0 : Int32).toNatClampNeg 0))))]) (jw_B D vwCl (va_A [(h0, .inr (5, [.ref tl, .ref tr, .ref cu, .ref bk, .int 0])), (tl, .inr (4, [.int (nI a), .ref lk, .ref lv, .ref lo, .ref lp, .ref ll, .ref lf, .int 0, .int 0])), (tr, .inr (4, [.int (nI b), .ref rk, .ref rv, .ref ro, .ref rp, .ref rl, .ref rf, .int 0, .int 0])), (ou, .inl (cL, 1, .inr (.inl fo)))] sz) (fun u : va_W => u)) (va_A [(h0, .inr (5, [.ref tl, .ref tr, .ref cu, .ref bk, .int 0])), (tl, .inr (4, [.int (nI a), .ref lk, .ref lv, .ref lo, .ref lp, .ref ll, .ref lf, .int 0, .int 0])), (tr, .inr (4, [.int (nI b), .ref rk, .ref rv, .ref ro, .ref rp, .ref rl, .ref rf, .int 0, .int 0])), (ou, .inl (cL, 1, .inr (.inl fo)))] sz)) 0 0 (va_A [(h0, .inr (5, [.ref tl, .ref tr, .ref cu, .ref bk, .int 0])), (tl, .inr (4, [.int (nI a), .ref lk, .ref lv, .ref lo, .ref lp, .ref ll, .ref lf, .int 0, .int 0])), (tr, .inr (4, [.int (nI b), .ref rk, .ref rv, .ref ro, .ref rp, .ref rl, .ref rf, .int 0, .int 0])), (ou, .inl (cL, 1, .inr (.inl fo)))] sz) := by
  refine va_MetW (hh := [(0, 9, 12, 19)]) (cc := cL_pair) (maxL := 4) (ret := (some .int)) (by decide) rfl ?_
  intro p e s m args below meth c s₁ B hml hv
  obtain ⟨rfl, hsz, hP, hK, hN, hD0, hZ⟩ := hv
  have hx := B.exec
  have hb := B.bytes
  have hr := B.returns
  have hts := atoms_spec (ws := wsL_pair) B.pre
  have hown : s.vm.findClass RL = some m.cls := findClass_of_methodNamed B.named
  have hlocks := B.notSynchronized
  subst hsz
  have hD := hD0.self (sz := s.heap.size)
  generalize hAe : va_A [(h0, .inr (5, [.ref tl, .ref tr, .ref cu, .ref bk, .int 0])), (tl, .inr (4, [.int (nI a), .ref lk, .ref lv, .ref lo, .ref lp, .ref ll, .ref lf, .int 0, .int 0])), (tr, .inr (4, [.int (nI b), .ref rk, .ref rv, .ref ro, .ref rp, .ref rl, .ref rf, .int 0, .int 0])), (ou, .inl (cL, 1, .inr (.inl fo)))] s.heap.size = A at hD ⊢
  have hA : ∀ q : Nat, s.heap.size ≤ q → A q := fun q h => by rw [← hAe]; exact Or.inr h
  have hS : va_S A s.heap s.heap [] := va_S.rf
  have hl := lv_entry ([.ref h0, .int 0, .ref ou]) (n := 4) (Nat.le_of_ble_eq_true rfl)
  rw [lg_entry_eq]
  generalize (lg_sl ([.ref h0, .int 0, .ref ou]) ++ List.replicate (4 - (lg_sl ([.ref h0, .int 0, .ref ou])).length) Slot.unset).toArray = ls at hl ⊢
  have hl : lv_has ls 4 [(0, .ref h0), (1, .int 0), (2, .ref ou)] := hl
  refine lv_aload_n hx hb dL_pair_0 rfl (lv_at hl 2 rfl) ?_
  refine lv_iconst (v := 0) hx hb dL_pair_1 (by decide) ?_
  refine lv_aload_n hx hb dL_pair_2 rfl (lv_at hl 0 rfl) ?_
  refine lv_iload_n hx hb dL_pair_3 rfl (lv_at hl 1 rfl) ?_
  refine vp_callSi (va_Run.run (va_runV (As := [.int 0]) (rest := [.int 0, .ref ou]) ⟨hx, hb, hml, hown, hts⟩ (cJ_pair_0 l D cI cL cQ a b h0 tl tr cu bk lk lv lo lp ll lf rk rv ro rp rl rf) (cwV 1 hts gL_pair_X5_pair rfl rfl rfl (by decide +kernel) ⟨Nat.le_of_ble_eq_true rfl, Nat.le_of_ble_eq_true rfl⟩) (jr_V hK hN hP [0, 1, 2] rfl 5 0 rfl rfl rfl) rfl rfl hl.1 rfl (lv_room (Nat.le_of_ble_eq_true rfl)) dL_pair_4 ⟨Nat.le_of_ble_eq_true rfl, Nat.le_of_ble_eq_true rfl⟩)) (fun r f_1 => ?_)
  obtain rfl := f_1
  refine lv_i2l (v := 0) hx hb dL_pair_7 (by first | rfl | decide) ?_
  refine va_last hx hb hK hP hD hS 3 1 rfl rfl (by unfold vp_in; decide) dL_pair_8 (fun H locs hP hD hS => ?_)
  have hP : va_P D vwCl [(h0, .inr (5, [.ref tl, .ref tr, .ref cu, .ref bk, .int 0])), (tl, .inr (4, [.int (nI a), .ref lk, .ref lv, .ref lo, .ref lp, .ref ll, .ref lf, .int 0, .int 0])), (tr, .inr (4, [.int (nI b), .ref rk, .ref rv, .ref ro, .ref rp, .ref rl, .ref rf, .int 0, .int 0])), (ou, .inl (cL, 1, .inr (.inl (vp_updL fo (0 : Int32).toNatClampNeg 0))))] H := hP
  have hD : va_D A [(h0, .inr (5, [.ref tl, .ref tr, .ref cu, .ref bk, .int 0])), (tl, .inr (4, [.int (nI a), .ref lk, .ref lv, .ref lo, .ref lp, .ref ll, .ref lf, .int 0, .int 0])), (tr, .inr (4, [.int (nI b), .ref rk, .ref rv, .ref ro, .ref rp, .ref rl, .ref rf, .int 0, .int 0])), (ou, .inl (cL, 1, .inr (.inl (vp_updL fo (0 : Int32).toNatClampNeg 0))))] := hD
  refine lv_goto (tgt := 15) hx hb dL_pair_9 (by decide) ?_
  refine lv_iconst (v := 0) hx hb dL_pair_15 (by decide) ?_
  refine W.widen (k := 0) (n := 0) (by omega) (by omega) ?_
  exact W.iret (v := 0) hx hb hr (fun t ht hW => ⟨⟨0, [(h0, .inr (5, [.ref tl, .ref tr, .ref cu, .ref bk, .int 0])), (tl, .inr (4, [.int (nI a), .ref lk, .ref lv, .ref lo, .ref lp, .ref ll, .ref lf, .int 0, .int 0])), (tr, .inr (4, [.int (nI b), .ref rk, .ref rv, .ref ro, .ref rp, .ref rl, .ref rf, .int 0, .int 0])), (ou, .inl (cL, 1, .inr (.inl (vp_updL fo (0 : Int32).toNatClampNeg 0))))], rfl, (by exact ⟨rfl, rfl⟩), by rw [ht]; exact hP, hD⟩, hS.F ht⟩) hS.2.2 dL_pair_16
set_option maxHeartbeats 1000000 in
set_option maxRecDepth 100000 in
theorem kL_pair_1 (l : Launch) (hnt : l.stackTraces = false) (D : va_G) (cI cL cQ : ClassId) (a : Nat) (b : Nat) (h0 : Nat) (tl : Nat) (tr : Nat) (cu : Nat) (bk : Nat) (lk : Nat) (lv : Nat) (lo : Nat) (lp : Nat) (ll : Nat) (lf : Nat) (rk : Nat) (rv : Nat) (ro : Nat) (rp : Nat) (rl : Nat) (rf : Nat) (ou : Nat) (fo : Nat → Int64) (sz : Nat) : Met l yL_pair wsL_pair ({ frames := 3, cells := 0, slots := 0, locals := 65 }) (jh_P D vwCl (jT cI cL cQ) cL cQ [.ref h0, .int 1, .ref ou] [(h0, .inr (5, [.ref tl, .ref tr, .ref cu, .ref bk, .int 0])), (tl, .inr (4, [.int (nI a), .ref lk, .ref lv, .ref lo, .ref lp, .ref ll, .ref lf, .int 0, .int 0])), (tr, .inr (4, [.int (nI b), .ref rk, .ref rv, .ref ro, .ref rp, .ref rl, .ref rf, .int 0, .int 0])), (ou, .inl (cL, 1, .inr (.inl fo)))] sz) (va_Qi (fun (r : Int32) (u : va_W) => r = 0 ∧ u = [(h0, .inr (5, [.ref tl, .ref tr, .ref cu, .ref bk, .int 0])), (tl, .inr (4, [.int (nI a), .ref lk, .ref lv, .ref lo, .ref lp, .ref ll, .ref lf, .int 0, .int 0])), (tr, .inr (4, [.int (nI b), .ref rk, .ref rv, .ref ro, .ref rp, .ref rl, .ref rf, .int 0, .int 0])), (ou, .inl (cL, 1, .inr (.inl (vp_updL fo (0 : Int32).toNatClampNeg 0))))]) (jw_B D vwCl (va_A [(h0, .inr (5, [.ref tl, .ref tr, .ref cu, .ref bk, .int 0])), (tl, .inr (4, [.int (nI a), .ref lk, .ref lv, .ref lo, .ref lp, .ref ll, .ref lf, .int 0, .int 0])), (tr, .inr (4, [.int (nI b), .ref rk, .ref rv, .ref ro, .ref rp, .ref rl, .ref rf, .int 0, .int 0])), (ou, .inl (cL, 1, .inr (.inl fo)))] sz) (fun u : va_W => u)) (va_A [(h0, .inr (5, [.ref tl, .ref tr, .ref cu, .ref bk, .int 0])), (tl, .inr (4, [.int (nI a), .ref lk, .ref lv, .ref lo, .ref lp, .ref ll, .ref lf, .int 0, .int 0])), (tr, .inr (4, [.int (nI b), .ref rk, .ref rv, .ref ro, .ref rp, .ref rl, .ref rf, .int 0, .int 0])), (ou, .inl (cL, 1, .inr (.inl fo)))] sz)) 0 0 (va_A [(h0, .inr (5, [.ref tl, .ref tr, .ref cu, .ref bk, .int 0])), (tl, .inr (4, [.int (nI a), .ref lk, .ref lv, .ref lo, .ref lp, .ref ll, .ref lf, .int 0, .int 0])), (tr, .inr (4, [.int (nI b), .ref rk, .ref rv, .ref ro, .ref rp, .ref rl, .ref rf, .int 0, .int 0])), (ou, .inl (cL, 1, .inr (.inl fo)))] sz) := by
  refine va_MetW (hh := [(0, 9, 12, 19)]) (cc := cL_pair) (maxL := 4) (ret := (some .int)) (by decide) rfl ?_
  intro p e s m args below meth c s₁ B hml hv
  obtain ⟨rfl, hsz, hP, hK, hN, hD0, hZ⟩ := hv
  have hx := B.exec
  have hb := B.bytes
  have hr := B.returns
  have hts := atoms_spec (ws := wsL_pair) B.pre
  have hown : s.vm.findClass RL = some m.cls := findClass_of_methodNamed B.named
  have hlocks := B.notSynchronized
  subst hsz
  have hD := hD0.self (sz := s.heap.size)
  generalize hAe : va_A [(h0, .inr (5, [.ref tl, .ref tr, .ref cu, .ref bk, .int 0])), (tl, .inr (4, [.int (nI a), .ref lk, .ref lv, .ref lo, .ref lp, .ref ll, .ref lf, .int 0, .int 0])), (tr, .inr (4, [.int (nI b), .ref rk, .ref rv, .ref ro, .ref rp, .ref rl, .ref rf, .int 0, .int 0])), (ou, .inl (cL, 1, .inr (.inl fo)))] s.heap.size = A at hD ⊢
  have hA : ∀ q : Nat, s.heap.size ≤ q → A q := fun q h => by rw [← hAe]; exact Or.inr h
  have hS : va_S A s.heap s.heap [] := va_S.rf
  have hl := lv_entry ([.ref h0, .int 1, .ref ou]) (n := 4) (Nat.le_of_ble_eq_true rfl)
  rw [lg_entry_eq]
  generalize (lg_sl ([.ref h0, .int 1, .ref ou]) ++ List.replicate (4 - (lg_sl ([.ref h0, .int 1, .ref ou])).length) Slot.unset).toArray = ls at hl ⊢
  have hl : lv_has ls 4 [(0, .ref h0), (1, .int 1), (2, .ref ou)] := hl
  refine lv_aload_n hx hb dL_pair_0 rfl (lv_at hl 2 rfl) ?_
  refine lv_iconst (v := 0) hx hb dL_pair_1 (by decide) ?_
  refine lv_aload_n hx hb dL_pair_2 rfl (lv_at hl 0 rfl) ?_
  refine lv_iload_n hx hb dL_pair_3 rfl (lv_at hl 1 rfl) ?_
  refine vp_callSi (va_Run.run (va_runV (As := [.int 1]) (rest := [.int 0, .ref ou]) ⟨hx, hb, hml, hown, hts⟩ (cJ_pair_1 l D cI cL cQ a b h0 tl tr cu bk lk lv lo lp ll lf rk rv ro rp rl rf) (cwV 1 hts gL_pair_X5_pair rfl rfl rfl (by decide +kernel) ⟨Nat.le_of_ble_eq_true rfl, Nat.le_of_ble_eq_true rfl⟩) (jr_V hK hN hP [0, 1, 2] rfl 5 0 rfl rfl rfl) rfl rfl hl.1 rfl (lv_room (Nat.le_of_ble_eq_true rfl)) dL_pair_4 ⟨Nat.le_of_ble_eq_true rfl, Nat.le_of_ble_eq_true rfl⟩)) (fun r f_1 => ?_)
  obtain rfl := f_1
  refine lv_i2l (v := 0) hx hb dL_pair_7 (by first | rfl | decide) ?_
  refine va_last hx hb hK hP hD hS 3 1 rfl rfl (by unfold vp_in; decide) dL_pair_8 (fun H locs hP hD hS => ?_)
  have hP : va_P D vwCl [(h0, .inr (5, [.ref tl, .ref tr, .ref cu, .ref bk, .int 0])), (tl, .inr (4, [.int (nI a), .ref lk, .ref lv, .ref lo, .ref lp, .ref ll, .ref lf, .int 0, .int 0])), (tr, .inr (4, [.int (nI b), .ref rk, .ref rv, .ref ro, .ref rp, .ref rl, .ref rf, .int 0, .int 0])), (ou, .inl (cL, 1, .inr (.inl (vp_updL fo (0 : Int32).toNatClampNeg 0))))] H := hP
  have hD : va_D A [(h0, .inr (5, [.ref tl, .ref tr, .ref cu, .ref bk, .int 0])), (tl, .inr (4, [.int (nI a), .ref lk, .ref lv, .ref lo, .ref lp, .ref ll, .ref lf, .int 0, .int 0])), (tr, .inr (4, [.int (nI b), .ref rk, .ref rv, .ref ro, .ref rp, .ref rl, .ref rf, .int 0, .int 0])), (ou, .inl (cL, 1, .inr (.inl (vp_updL fo (0 : Int32).toNatClampNeg 0))))] := hD
  refine lv_goto (tgt := 15) hx hb dL_pair_9 (by decide) ?_
  refine lv_iconst (v := 0) hx hb dL_pair_15 (by decide) ?_
  refine W.widen (k := 0) (n := 0) (by omega) (by omega) ?_
  exact W.iret (v := 0) hx hb hr (fun t ht hW => ⟨⟨0, [(h0, .inr (5, [.ref tl, .ref tr, .ref cu, .ref bk, .int 0])), (tl, .inr (4, [.int (nI a), .ref lk, .ref lv, .ref lo, .ref lp, .ref ll, .ref lf, .int 0, .int 0])), (tr, .inr (4, [.int (nI b), .ref rk, .ref rv, .ref ro, .ref rp, .ref rl, .ref rf, .int 0, .int 0])), (ou, .inl (cL, 1, .inr (.inl (vp_updL fo (0 : Int32).toNatClampNeg 0))))], rfl, (by exact ⟨rfl, rfl⟩), by rw [ht]; exact hP, hD⟩, hS.F ht⟩) hS.2.2 dL_pair_16
set_option maxHeartbeats 1000000 in
set_option maxRecDepth 100000 in
theorem kL_pair_2 (l : Launch) (hnt : l.stackTraces = false) (D : va_G) (cI cL cQ : ClassId) (a : Nat) (b : Nat) (h0 : Nat) (tl : Nat) (tr : Nat) (cu : Nat) (bk : Nat) (lk : Nat) (lv : Nat) (lo : Nat) (lp : Nat) (ll : Nat) (lf : Nat) (rk : Nat) (rv : Nat) (ro : Nat) (rp : Nat) (rl : Nat) (rf : Nat) (ou : Nat) (fo : Nat → Int64) (sz : Nat) : Met l yL_pair wsL_pair ({ frames := 3, cells := 0, slots := 0, locals := 65 }) (jh_P D vwCl (jT cI cL cQ) cL cQ [.ref h0, .int 2, .ref ou] [(h0, .inr (5, [.ref tl, .ref tr, .ref cu, .ref bk, .int 0])), (tl, .inr (4, [.int (nI a), .ref lk, .ref lv, .ref lo, .ref lp, .ref ll, .ref lf, .int 0, .int 0])), (tr, .inr (4, [.int (nI b), .ref rk, .ref rv, .ref ro, .ref rp, .ref rl, .ref rf, .int 0, .int 0])), (ou, .inl (cL, 1, .inr (.inl fo)))] sz) (va_Qi (fun (r : Int32) (u : va_W) => r = 0 ∧ u = [(h0, .inr (5, [.ref tl, .ref tr, .ref cu, .ref bk, .int 0])), (tl, .inr (4, [.int (nI a), .ref lk, .ref lv, .ref lo, .ref lp, .ref ll, .ref lf, .int 0, .int 0])), (tr, .inr (4, [.int (nI b), .ref rk, .ref rv, .ref ro, .ref rp, .ref rl, .ref rf, .int 0, .int 0])), (ou, .inl (cL, 1, .inr (.inl (vp_updL fo (0 : Int32).toNatClampNeg 0))))]) (jw_B D vwCl (va_A [(h0, .inr (5, [.ref tl, .ref tr, .ref cu, .ref bk, .int 0])), (tl, .inr (4, [.int (nI a), .ref lk, .ref lv, .ref lo, .ref lp, .ref ll, .ref lf, .int 0, .int 0])), (tr, .inr (4, [.int (nI b), .ref rk, .ref rv, .ref ro, .ref rp, .ref rl, .ref rf, .int 0, .int 0])), (ou, .inl (cL, 1, .inr (.inl fo)))] sz) (fun u : va_W => u)) (va_A [(h0, .inr (5, [.ref tl, .ref tr, .ref cu, .ref bk, .int 0])), (tl, .inr (4, [.int (nI a), .ref lk, .ref lv, .ref lo, .ref lp, .ref ll, .ref lf, .int 0, .int 0])), (tr, .inr (4, [.int (nI b), .ref rk, .ref rv, .ref ro, .ref rp, .ref rl, .ref rf, .int 0, .int 0])), (ou, .inl (cL, 1, .inr (.inl fo)))] sz)) 0 0 (va_A [(h0, .inr (5, [.ref tl, .ref tr, .ref cu, .ref bk, .int 0])), (tl, .inr (4, [.int (nI a), .ref lk, .ref lv, .ref lo, .ref lp, .ref ll, .ref lf, .int 0, .int 0])), (tr, .inr (4, [.int (nI b), .ref rk, .ref rv, .ref ro, .ref rp, .ref rl, .ref rf, .int 0, .int 0])), (ou, .inl (cL, 1, .inr (.inl fo)))] sz) := by
  refine va_MetW (hh := [(0, 9, 12, 19)]) (cc := cL_pair) (maxL := 4) (ret := (some .int)) (by decide) rfl ?_
  intro p e s m args below meth c s₁ B hml hv
  obtain ⟨rfl, hsz, hP, hK, hN, hD0, hZ⟩ := hv
  have hx := B.exec
  have hb := B.bytes
  have hr := B.returns
  have hts := atoms_spec (ws := wsL_pair) B.pre
  have hown : s.vm.findClass RL = some m.cls := findClass_of_methodNamed B.named
  have hlocks := B.notSynchronized
  subst hsz
  have hD := hD0.self (sz := s.heap.size)
  generalize hAe : va_A [(h0, .inr (5, [.ref tl, .ref tr, .ref cu, .ref bk, .int 0])), (tl, .inr (4, [.int (nI a), .ref lk, .ref lv, .ref lo, .ref lp, .ref ll, .ref lf, .int 0, .int 0])), (tr, .inr (4, [.int (nI b), .ref rk, .ref rv, .ref ro, .ref rp, .ref rl, .ref rf, .int 0, .int 0])), (ou, .inl (cL, 1, .inr (.inl fo)))] s.heap.size = A at hD ⊢
  have hA : ∀ q : Nat, s.heap.size ≤ q → A q := fun q h => by rw [← hAe]; exact Or.inr h
  have hS : va_S A s.heap s.heap [] := va_S.rf
  have hl := lv_entry ([.ref h0, .int 2, .ref ou]) (n := 4) (Nat.le_of_ble_eq_true rfl)
  rw [lg_entry_eq]
  generalize (lg_sl ([.ref h0, .int 2, .ref ou]) ++ List.replicate (4 - (lg_sl ([.ref h0, .int 2, .ref ou])).length) Slot.unset).toArray = ls at hl ⊢
  have hl : lv_has ls 4 [(0, .ref h0), (1, .int 2), (2, .ref ou)] := hl
  refine lv_aload_n hx hb dL_pair_0 rfl (lv_at hl 2 rfl) ?_
  refine lv_iconst (v := 0) hx hb dL_pair_1 (by decide) ?_
  refine lv_aload_n hx hb dL_pair_2 rfl (lv_at hl 0 rfl) ?_
  refine lv_iload_n hx hb dL_pair_3 rfl (lv_at hl 1 rfl) ?_
  refine vp_callSi (va_Run.run (va_runV (As := [.int 2]) (rest := [.int 0, .ref ou]) ⟨hx, hb, hml, hown, hts⟩ (cJ_pair_2 l D cI cL cQ a b h0 tl tr cu bk lk lv lo lp ll lf rk rv ro rp rl rf) (cwV 1 hts gL_pair_X5_pair rfl rfl rfl (by decide +kernel) ⟨Nat.le_of_ble_eq_true rfl, Nat.le_of_ble_eq_true rfl⟩) (jr_V hK hN hP [0, 1, 2] rfl 5 0 rfl rfl rfl) rfl rfl hl.1 rfl (lv_room (Nat.le_of_ble_eq_true rfl)) dL_pair_4 ⟨Nat.le_of_ble_eq_true rfl, Nat.le_of_ble_eq_true rfl⟩)) (fun r f_1 => ?_)
  obtain rfl := f_1
  refine lv_i2l (v := 0) hx hb dL_pair_7 (by first | rfl | decide) ?_
  refine va_last hx hb hK hP hD hS 3 1 rfl rfl (by unfold vp_in; decide) dL_pair_8 (fun H locs hP hD hS => ?_)
  have hP : va_P D vwCl [(h0, .inr (5, [.ref tl, .ref tr, .ref cu, .ref bk, .int 0])), (tl, .inr (4, [.int (nI a), .ref lk, .ref lv, .ref lo, .ref lp, .ref ll, .ref lf, .int 0, .int 0])), (tr, .inr (4, [.int (nI b), .ref rk, .ref rv, .ref ro, .ref rp, .ref rl, .ref rf, .int 0, .int 0])), (ou, .inl (cL, 1, .inr (.inl (vp_updL fo (0 : Int32).toNatClampNeg 0))))] H := hP
  have hD : va_D A [(h0, .inr (5, [.ref tl, .ref tr, .ref cu, .ref bk, .int 0])), (tl, .inr (4, [.int (nI a), .ref lk, .ref lv, .ref lo, .ref lp, .ref ll, .ref lf, .int 0, .int 0])), (tr, .inr (4, [.int (nI b), .ref rk, .ref rv, .ref ro, .ref rp, .ref rl, .ref rf, .int 0, .int 0])), (ou, .inl (cL, 1, .inr (.inl (vp_updL fo (0 : Int32).toNatClampNeg 0))))] := hD
  refine lv_goto (tgt := 15) hx hb dL_pair_9 (by decide) ?_
  refine lv_iconst (v := 0) hx hb dL_pair_15 (by decide) ?_
  refine W.widen (k := 0) (n := 0) (by omega) (by omega) ?_
  exact W.iret (v := 0) hx hb hr (fun t ht hW => ⟨⟨0, [(h0, .inr (5, [.ref tl, .ref tr, .ref cu, .ref bk, .int 0])), (tl, .inr (4, [.int (nI a), .ref lk, .ref lv, .ref lo, .ref lp, .ref ll, .ref lf, .int 0, .int 0])), (tr, .inr (4, [.int (nI b), .ref rk, .ref rv, .ref ro, .ref rp, .ref rl, .ref rf, .int 0, .int 0])), (ou, .inl (cL, 1, .inr (.inl (vp_updL fo (0 : Int32).toNatClampNeg 0))))], rfl, (by exact ⟨rfl, rfl⟩), by rw [ht]; exact hP, hD⟩, hS.F ht⟩) hS.2.2 dL_pair_16
set_option maxHeartbeats 1000000 in
set_option maxRecDepth 100000 in
theorem kL_pair_3 (l : Launch) (hnt : l.stackTraces = false) (D : va_G) (cI cL cQ : ClassId) (a : Nat) (b : Nat) (h0 : Nat) (tl : Nat) (tr : Nat) (cu : Nat) (bk : Nat) (lk : Nat) (lv : Nat) (lo : Nat) (lp : Nat) (ll : Nat) (lf : Nat) (rk : Nat) (rv : Nat) (ro : Nat) (rp : Nat) (rl : Nat) (rf : Nat) (ou : Nat) (fo : Nat → Int64) (sz : Nat) : Met l yL_pair wsL_pair ({ frames := 3, cells := 0, slots := 0, locals := 65 }) (jh_P D vwCl (jT cI cL cQ) cL cQ [.ref h0, .int 3, .ref ou] [(h0, .inr (5, [.ref tl, .ref tr, .ref cu, .ref bk, .int 0])), (tl, .inr (4, [.int (nI a), .ref lk, .ref lv, .ref lo, .ref lp, .ref ll, .ref lf, .int 0, .int 0])), (tr, .inr (4, [.int (nI b), .ref rk, .ref rv, .ref ro, .ref rp, .ref rl, .ref rf, .int 0, .int 0])), (ou, .inl (cL, 1, .inr (.inl fo)))] sz) (va_Qi (fun (r : Int32) (u : va_W) => r = 0 ∧ u = [(h0, .inr (5, [.ref tl, .ref tr, .ref cu, .ref bk, .int 0])), (tl, .inr (4, [.int (nI a), .ref lk, .ref lv, .ref lo, .ref lp, .ref ll, .ref lf, .int 0, .int 0])), (tr, .inr (4, [.int (nI b), .ref rk, .ref rv, .ref ro, .ref rp, .ref rl, .ref rf, .int 0, .int 0])), (ou, .inl (cL, 1, .inr (.inl (vp_updL fo (0 : Int32).toNatClampNeg (-1)))))]) (jw_B D vwCl (va_A [(h0, .inr (5, [.ref tl, .ref tr, .ref cu, .ref bk, .int 0])), (tl, .inr (4, [.int (nI a), .ref lk, .ref lv, .ref lo, .ref lp, .ref ll, .ref lf, .int 0, .int 0])), (tr, .inr (4, [.int (nI b), .ref rk, .ref rv, .ref ro, .ref rp, .ref rl, .ref rf, .int 0, .int 0])), (ou, .inl (cL, 1, .inr (.inl fo)))] sz) (fun u : va_W => u)) (va_A [(h0, .inr (5, [.ref tl, .ref tr, .ref cu, .ref bk, .int 0])), (tl, .inr (4, [.int (nI a), .ref lk, .ref lv, .ref lo, .ref lp, .ref ll, .ref lf, .int 0, .int 0])), (tr, .inr (4, [.int (nI b), .ref rk, .ref rv, .ref ro, .ref rp, .ref rl, .ref rf, .int 0, .int 0])), (ou, .inl (cL, 1, .inr (.inl fo)))] sz)) 0 0 (va_A [(h0, .inr (5, [.ref tl, .ref tr, .ref cu, .ref bk, .int 0])), (tl, .inr (4, [.int (nI a), .ref lk, .ref lv, .ref lo, .ref lp, .ref ll, .ref lf, .int 0, .int 0])), (tr, .inr (4, [.int (nI b), .ref rk, .ref rv, .ref ro, .ref rp, .ref rl, .ref rf, .int 0, .int 0])), (ou, .inl (cL, 1, .inr (.inl fo)))] sz) := by
  refine va_MetW (hh := [(0, 9, 12, 19)]) (cc := cL_pair) (maxL := 4) (ret := (some .int)) (by decide) rfl ?_
  intro p e s m args below meth c s₁ B hml hv
  obtain ⟨rfl, hsz, hP, hK, hN, hD0, hZ⟩ := hv
  have hx := B.exec
  have hb := B.bytes
  have hr := B.returns
  have hts := atoms_spec (ws := wsL_pair) B.pre
  have hown : s.vm.findClass RL = some m.cls := findClass_of_methodNamed B.named
  have hlocks := B.notSynchronized
  subst hsz
  have hD := hD0.self (sz := s.heap.size)
  generalize hAe : va_A [(h0, .inr (5, [.ref tl, .ref tr, .ref cu, .ref bk, .int 0])), (tl, .inr (4, [.int (nI a), .ref lk, .ref lv, .ref lo, .ref lp, .ref ll, .ref lf, .int 0, .int 0])), (tr, .inr (4, [.int (nI b), .ref rk, .ref rv, .ref ro, .ref rp, .ref rl, .ref rf, .int 0, .int 0])), (ou, .inl (cL, 1, .inr (.inl fo)))] s.heap.size = A at hD ⊢
  have hA : ∀ q : Nat, s.heap.size ≤ q → A q := fun q h => by rw [← hAe]; exact Or.inr h
  have hS : va_S A s.heap s.heap [] := va_S.rf
  have hl := lv_entry ([.ref h0, .int 3, .ref ou]) (n := 4) (Nat.le_of_ble_eq_true rfl)
  rw [lg_entry_eq]
  generalize (lg_sl ([.ref h0, .int 3, .ref ou]) ++ List.replicate (4 - (lg_sl ([.ref h0, .int 3, .ref ou])).length) Slot.unset).toArray = ls at hl ⊢
  have hl : lv_has ls 4 [(0, .ref h0), (1, .int 3), (2, .ref ou)] := hl
  refine lv_aload_n hx hb dL_pair_0 rfl (lv_at hl 2 rfl) ?_
  refine lv_iconst (v := 0) hx hb dL_pair_1 (by decide) ?_
  refine lv_aload_n hx hb dL_pair_2 rfl (lv_at hl 0 rfl) ?_
  refine lv_iload_n hx hb dL_pair_3 rfl (lv_at hl 1 rfl) ?_
  refine vp_callSi (va_Run.run (va_runV (As := [.int 3]) (rest := [.int 0, .ref ou]) ⟨hx, hb, hml, hown, hts⟩ (cJ_pair_3 l D cI cL cQ a b h0 tl tr cu bk lk lv lo lp ll lf rk rv ro rp rl rf) (cwV 1 hts gL_pair_X5_pair rfl rfl rfl (by decide +kernel) ⟨Nat.le_of_ble_eq_true rfl, Nat.le_of_ble_eq_true rfl⟩) (jr_V hK hN hP [0, 1, 2] rfl 5 0 rfl rfl rfl) rfl rfl hl.1 rfl (lv_room (Nat.le_of_ble_eq_true rfl)) dL_pair_4 ⟨Nat.le_of_ble_eq_true rfl, Nat.le_of_ble_eq_true rfl⟩)) (fun r f_1 => ?_)
  obtain rfl := f_1
  refine lv_i2l (v := (-1)) hx hb dL_pair_7 (by first | rfl | decide) ?_
  refine va_last hx hb hK hP hD hS 3 1 rfl rfl (by unfold vp_in; decide) dL_pair_8 (fun H locs hP hD hS => ?_)
  have hP : va_P D vwCl [(h0, .inr (5, [.ref tl, .ref tr, .ref cu, .ref bk, .int 0])), (tl, .inr (4, [.int (nI a), .ref lk, .ref lv, .ref lo, .ref lp, .ref ll, .ref lf, .int 0, .int 0])), (tr, .inr (4, [.int (nI b), .ref rk, .ref rv, .ref ro, .ref rp, .ref rl, .ref rf, .int 0, .int 0])), (ou, .inl (cL, 1, .inr (.inl (vp_updL fo (0 : Int32).toNatClampNeg (-1)))))] H := hP
  have hD : va_D A [(h0, .inr (5, [.ref tl, .ref tr, .ref cu, .ref bk, .int 0])), (tl, .inr (4, [.int (nI a), .ref lk, .ref lv, .ref lo, .ref lp, .ref ll, .ref lf, .int 0, .int 0])), (tr, .inr (4, [.int (nI b), .ref rk, .ref rv, .ref ro, .ref rp, .ref rl, .ref rf, .int 0, .int 0])), (ou, .inl (cL, 1, .inr (.inl (vp_updL fo (0 : Int32).toNatClampNeg (-1)))))] := hD
  refine lv_goto (tgt := 15) hx hb dL_pair_9 (by decide) ?_
  refine lv_iconst (v := 0) hx hb dL_pair_15 (by decide) ?_
  refine W.widen (k := 0) (n := 0) (by omega) (by omega) ?_
  exact W.iret (v := 0) hx hb hr (fun t ht hW => ⟨⟨0, [(h0, .inr (5, [.ref tl, .ref tr, .ref cu, .ref bk, .int 0])), (tl, .inr (4, [.int (nI a), .ref lk, .ref lv, .ref lo, .ref lp, .ref ll, .ref lf, .int 0, .int 0])), (tr, .inr (4, [.int (nI b), .ref rk, .ref rv, .ref ro, .ref rp, .ref rl, .ref rf, .int 0, .int 0])), (ou, .inl (cL, 1, .inr (.inl (vp_updL fo (0 : Int32).toNatClampNeg (-1)))))], rfl, (by exact ⟨rfl, rfl⟩), by rw [ht]; exact hP, hD⟩, hS.F ht⟩) hS.2.2 dL_pair_16
set_option maxHeartbeats 1000000 in
set_option maxRecDepth 100000 in
theorem kL_pair_4 (l : Launch) (hnt : l.stackTraces = false) (D : va_G) (cI cL cQ : ClassId) (a : Nat) (b : Nat) (h0 : Nat) (tl : Nat) (tr : Nat) (cu : Nat) (bk : Nat) (lk : Nat) (lv : Nat) (lo : Nat) (lp : Nat) (ll : Nat) (lf : Nat) (rk : Nat) (rv : Nat) (ro : Nat) (rp : Nat) (rl : Nat) (rf : Nat) (ou : Nat) (fo : Nat → Int64) (sz : Nat) : Met l yL_pair wsL_pair ({ frames := 3, cells := 0, slots := 0, locals := 65 }) (jh_P D vwCl (jT cI cL cQ) cL cQ [.ref h0, .int 4, .ref ou] [(h0, .inr (5, [.ref tl, .ref tr, .ref cu, .ref bk, .int 0])), (tl, .inr (4, [.int (nI a), .ref lk, .ref lv, .ref lo, .ref lp, .ref ll, .ref lf, .int 0, .int 0])), (tr, .inr (4, [.int (nI b), .ref rk, .ref rv, .ref ro, .ref rp, .ref rl, .ref rf, .int 0, .int 0])), (ou, .inl (cL, 1, .inr (.inl fo)))] sz) (va_Qi (fun (r : Int32) (u : va_W) => r = 0 ∧ u = [(h0, .inr (5, [.ref tl, .ref tr, .ref cu, .ref bk, .int 0])), (tl, .inr (4, [.int (nI a), .ref lk, .ref lv, .ref lo, .ref lp, .ref ll, .ref lf, .int 0, .int 0])), (tr, .inr (4, [.int (nI b), .ref rk, .ref rv, .ref ro, .ref rp, .ref rl, .ref rf, .int 0, .int 0])), (ou, .inl (cL, 1, .inr (.inl (vp_updL fo (0 : Int32).toNatClampNeg (-1)))))]) (jw_B D vwCl (va_A [(h0, .inr (5, [.ref tl, .ref tr, .ref cu, .ref bk, .int 0])), (tl, .inr (4, [.int (nI a), .ref lk, .ref lv, .ref lo, .ref lp, .ref ll, .ref lf, .int 0, .int 0])), (tr, .inr (4, [.int (nI b), .ref rk, .ref rv, .ref ro, .ref rp, .ref rl, .ref rf, .int 0, .int 0])), (ou, .inl (cL, 1, .inr (.inl fo)))] sz) (fun u : va_W => u)) (va_A [(h0, .inr (5, [.ref tl, .ref tr, .ref cu, .ref bk, .int 0])), (tl, .inr (4, [.int (nI a), .ref lk, .ref lv, .ref lo, .ref lp, .ref ll, .ref lf, .int 0, .int 0])), (tr, .inr (4, [.int (nI b), .ref rk, .ref rv, .ref ro, .ref rp, .ref rl, .ref rf, .int 0, .int 0])), (ou, .inl (cL, 1, .inr (.inl fo)))] sz)) 0 0 (va_A [(h0, .inr (5, [.ref tl, .ref tr, .ref cu, .ref bk, .int 0])), (tl, .inr (4, [.int (nI a), .ref lk, .ref lv, .ref lo, .ref lp, .ref ll, .ref lf, .int 0, .int 0])), (tr, .inr (4, [.int (nI b), .ref rk, .ref rv, .ref ro, .ref rp, .ref rl, .ref rf, .int 0, .int 0])), (ou, .inl (cL, 1, .inr (.inl fo)))] sz) := by
  refine va_MetW (hh := [(0, 9, 12, 19)]) (cc := cL_pair) (maxL := 4) (ret := (some .int)) (by decide) rfl ?_
  intro p e s m args below meth c s₁ B hml hv
  obtain ⟨rfl, hsz, hP, hK, hN, hD0, hZ⟩ := hv
  have hx := B.exec
  have hb := B.bytes
  have hr := B.returns
  have hts := atoms_spec (ws := wsL_pair) B.pre
  have hown : s.vm.findClass RL = some m.cls := findClass_of_methodNamed B.named
  have hlocks := B.notSynchronized
  subst hsz
  have hD := hD0.self (sz := s.heap.size)
  generalize hAe : va_A [(h0, .inr (5, [.ref tl, .ref tr, .ref cu, .ref bk, .int 0])), (tl, .inr (4, [.int (nI a), .ref lk, .ref lv, .ref lo, .ref lp, .ref ll, .ref lf, .int 0, .int 0])), (tr, .inr (4, [.int (nI b), .ref rk, .ref rv, .ref ro, .ref rp, .ref rl, .ref rf, .int 0, .int 0])), (ou, .inl (cL, 1, .inr (.inl fo)))] s.heap.size = A at hD ⊢
  have hA : ∀ q : Nat, s.heap.size ≤ q → A q := fun q h => by rw [← hAe]; exact Or.inr h
  have hS : va_S A s.heap s.heap [] := va_S.rf
  have hl := lv_entry ([.ref h0, .int 4, .ref ou]) (n := 4) (Nat.le_of_ble_eq_true rfl)
  rw [lg_entry_eq]
  generalize (lg_sl ([.ref h0, .int 4, .ref ou]) ++ List.replicate (4 - (lg_sl ([.ref h0, .int 4, .ref ou])).length) Slot.unset).toArray = ls at hl ⊢
  have hl : lv_has ls 4 [(0, .ref h0), (1, .int 4), (2, .ref ou)] := hl
  refine lv_aload_n hx hb dL_pair_0 rfl (lv_at hl 2 rfl) ?_
  refine lv_iconst (v := 0) hx hb dL_pair_1 (by decide) ?_
  refine lv_aload_n hx hb dL_pair_2 rfl (lv_at hl 0 rfl) ?_
  refine lv_iload_n hx hb dL_pair_3 rfl (lv_at hl 1 rfl) ?_
  refine vp_callSi (va_Run.run (va_runV (As := [.int 4]) (rest := [.int 0, .ref ou]) ⟨hx, hb, hml, hown, hts⟩ (cJ_pair_4 l D cI cL cQ a b h0 tl tr cu bk lk lv lo lp ll lf rk rv ro rp rl rf) (cwV 1 hts gL_pair_X5_pair rfl rfl rfl (by decide +kernel) ⟨Nat.le_of_ble_eq_true rfl, Nat.le_of_ble_eq_true rfl⟩) (jr_V hK hN hP [0, 1, 2] rfl 5 0 rfl rfl rfl) rfl rfl hl.1 rfl (lv_room (Nat.le_of_ble_eq_true rfl)) dL_pair_4 ⟨Nat.le_of_ble_eq_true rfl, Nat.le_of_ble_eq_true rfl⟩)) (fun r f_1 => ?_)
  obtain rfl := f_1
  refine lv_i2l (v := (-1)) hx hb dL_pair_7 (by first | rfl | decide) ?_
  refine va_last hx hb hK hP hD hS 3 1 rfl rfl (by unfold vp_in; decide) dL_pair_8 (fun H locs hP hD hS => ?_)
  have hP : va_P D vwCl [(h0, .inr (5, [.ref tl, .ref tr, .ref cu, .ref bk, .int 0])), (tl, .inr (4, [.int (nI a), .ref lk, .ref lv, .ref lo, .ref lp, .ref ll, .ref lf, .int 0, .int 0])), (tr, .inr (4, [.int (nI b), .ref rk, .ref rv, .ref ro, .ref rp, .ref rl, .ref rf, .int 0, .int 0])), (ou, .inl (cL, 1, .inr (.inl (vp_updL fo (0 : Int32).toNatClampNeg (-1)))))] H := hP
  have hD : va_D A [(h0, .inr (5, [.ref tl, .ref tr, .ref cu, .ref bk, .int 0])), (tl, .inr (4, [.int (nI a), .ref lk, .ref lv, .ref lo, .ref lp, .ref ll, .ref lf, .int 0, .int 0])), (tr, .inr (4, [.int (nI b), .ref rk, .ref rv, .ref ro, .ref rp, .ref rl, .ref rf, .int 0, .int 0])), (ou, .inl (cL, 1, .inr (.inl (vp_updL fo (0 : Int32).toNatClampNeg (-1)))))] := hD
  refine lv_goto (tgt := 15) hx hb dL_pair_9 (by decide) ?_
  refine lv_iconst (v := 0) hx hb dL_pair_15 (by decide) ?_
  refine W.widen (k := 0) (n := 0) (by omega) (by omega) ?_
  exact W.iret (v := 0) hx hb hr (fun t ht hW => ⟨⟨0, [(h0, .inr (5, [.ref tl, .ref tr, .ref cu, .ref bk, .int 0])), (tl, .inr (4, [.int (nI a), .ref lk, .ref lv, .ref lo, .ref lp, .ref ll, .ref lf, .int 0, .int 0])), (tr, .inr (4, [.int (nI b), .ref rk, .ref rv, .ref ro, .ref rp, .ref rl, .ref rf, .int 0, .int 0])), (ou, .inl (cL, 1, .inr (.inl (vp_updL fo (0 : Int32).toNatClampNeg (-1)))))], rfl, (by exact ⟨rfl, rfl⟩), by rw [ht]; exact hP, hD⟩, hS.F ht⟩) hS.2.2 dL_pair_16
set_option maxHeartbeats 1000000 in
set_option maxRecDepth 100000 in
theorem kL_about_t (l : Launch) (hnt : l.stackTraces = false) (D : va_G) (cI cL cQ : ClassId) (h0 : Nat) (tl : Nat) (tr : Nat) (cu : Nat) (bk : Nat) (x : Int32) (ou : Nat) (fo : Nat → Int64) (sz : Nat) (h1 : x < 0 ∨ 5 ≤ x) : Met l yL_about wsL_about ({ frames := 8, cells := 1, slots := 6, locals := 123 }) (jh_P D vwCl (jT cI cL cQ) cL cQ [.ref h0, .int x, .ref ou] [(h0, .inr (5, [.ref tl, .ref tr, .ref cu, .ref bk, .int 0])), (ou, .inl (cL, 1, .inr (.inl fo)))] sz) (va_Qi (fun (r : Int32) (u : va_W) => r = 1 ∧ u = [(h0, .inr (5, [.ref tl, .ref tr, .ref cu, .ref bk, .int 0])), (ou, .inl (cL, 1, .inr (.inl fo)))]) (jw_B D vwCl (va_A [(h0, .inr (5, [.ref tl, .ref tr, .ref cu, .ref bk, .int 0])), (ou, .inl (cL, 1, .inr (.inl fo)))] sz) (fun u : va_W => u)) (va_A [(h0, .inr (5, [.ref tl, .ref tr, .ref cu, .ref bk, .int 0])), (ou, .inl (cL, 1, .inr (.inl fo)))] sz)) 1 6 (va_A [(h0, .inr (5, [.ref tl, .ref tr, .ref cu, .ref bk, .int 0])), (ou, .inl (cL, 1, .inr (.inl fo)))] sz) := by
  refine va_MetW (hh := [(0, 8, 11, 19)]) (cc := cL_about) (maxL := 4) (ret := (some .int)) (by decide) rfl ?_
  intro p e s m args below meth c s₁ B hml hv
  obtain ⟨rfl, hsz, hP, hK, hN, hD0, hZ⟩ := hv
  have hx := B.exec
  have hb := B.bytes
  have hr := B.returns
  have hts := atoms_spec (ws := wsL_about) B.pre
  have hown : s.vm.findClass RL = some m.cls := findClass_of_methodNamed B.named
  have hlocks := B.notSynchronized
  subst hsz
  have hD := hD0.self (sz := s.heap.size)
  generalize hAe : va_A [(h0, .inr (5, [.ref tl, .ref tr, .ref cu, .ref bk, .int 0])), (ou, .inl (cL, 1, .inr (.inl fo)))] s.heap.size = A at hD ⊢
  have hA : ∀ q : Nat, s.heap.size ≤ q → A q := fun q h => by rw [← hAe]; exact Or.inr h
  have hS : va_S A s.heap s.heap [] := va_S.rf
  have hl := lv_entry ([.ref h0, .int x, .ref ou]) (n := 4) (Nat.le_of_ble_eq_true rfl)
  rw [lg_entry_eq]
  generalize (lg_sl ([.ref h0, .int x, .ref ou]) ++ List.replicate (4 - (lg_sl ([.ref h0, .int x, .ref ou])).length) Slot.unset).toArray = ls at hl ⊢
  have hl : lv_has ls 4 [(0, .ref h0), (1, .int x), (2, .ref ou)] := hl
  refine lv_aload_n hx hb dL_about_0 rfl (lv_at hl 2 rfl) ?_
  refine lv_iconst (v := 0) hx hb dL_about_1 (by decide) ?_
  refine lv_aload_n hx hb dL_about_2 rfl (lv_at hl 0 rfl) ?_
  refine lv_iload_n hx hb dL_about_3 rfl (lv_at hl 1 rfl) ?_
  refine jx_thr (vx_runV (As := [.int x]) (rest := [.int 0, .ref ou]) ⟨hx, hb, hml, hown, hts⟩ (cJ_about_t l hnt D cI cL cQ h0 tl tr cu bk x (by first | assumption | decide | omega)) (cwV 1 hts gL_about_X5_about rfl rfl rfl (by decide +kernel) ⟨Nat.le_of_ble_eq_true rfl, Nat.le_of_ble_eq_true rfl⟩) (jt_V hK hN hZ hP [0] rfl 5 0 rfl rfl rfl) rfl rfl hl.1 rfl (lv_room (Nat.le_of_ble_eq_true rfl)) dL_about_4 ⟨Nat.le_of_ble_eq_true rfl, Nat.le_of_ble_eq_true rfl⟩) (fun ce q9 H1 hz hk hce hcv hcl => ?_)
  have hP : va_P D vwCl [(h0, .inr (5, [.ref tl, .ref tr, .ref cu, .ref bk, .int 0])), (ou, .inl (cL, 1, .inr (.inl fo)))] H1 := hP.kept (fun k x hx => hk x.1 (hP k x hx).lt)
  have hS : va_S A s.heap H1 [] := ⟨hz, fun q h1 _ => hk q h1, fun _ h => nomatch h⟩
  generalize H1 = H at hP hS hce ⊢
  have htab : c.exceptionTable.toList = [⟨0, 8, 11, 19⟩] := vx_table (x := yL_about) B (hts _ List.mem_cons_self)
  refine jc_first (name := "") hown ⟨0, 8, 11, 19⟩ [] htab (by decide) (by decide) (hts (.classLink RL 19 "java/lang/IllegalArgumentException") (by decide +kernel)) hce hcv hcl ?_
  refine W.eq (g2 := F0 m 11 ls [.ref q9]) rfl ?_
  refine W.widen (k := 1) (n := 6) (by omega) (by omega) ?_
  refine lv_astore_n (lv' := [(3, .ref q9), (0, .ref h0), (1, .int x), (2, .ref ou)]) hx hb dL_about_11 rfl hl (by decide) rfl (fun ls hl => ?_)
  refine lv_iconst (v := 1) hx hb dL_about_12 (by decide) ?_
  refine W.widen (k := 1) (n := 6) (by omega) (by omega) ?_
  exact W.iret (v := 1) hx hb hr (fun t ht hW => ⟨⟨1, [(h0, .inr (5, [.ref tl, .ref tr, .ref cu, .ref bk, .int 0])), (ou, .inl (cL, 1, .inr (.inl fo)))], rfl, (by exact ⟨rfl, rfl⟩), by rw [ht]; exact hP, hD⟩, hS.F ht⟩) hS.2.2 dL_about_13
set_option maxHeartbeats 1000000 in
set_option maxRecDepth 100000 in
theorem kL_about_0 (l : Launch) (hnt : l.stackTraces = false) (D : va_G) (cI cL cQ : ClassId) (a : Nat) (b : Nat) (h0 : Nat) (tl : Nat) (tr : Nat) (cu : Nat) (bk : Nat) (lk : Nat) (lv : Nat) (lo : Nat) (lp : Nat) (ll : Nat) (lf : Nat) (rk : Nat) (rv : Nat) (ro : Nat) (rp : Nat) (rl : Nat) (rf : Nat) (he : Nat) (ma : Nat) (ou : Nat) (fo : Nat → Int64) (sz : Nat) : Met l yL_about wsL_about ({ frames := 2, cells := 0, slots := 0, locals := 42 }) (jh_P D vwCl (jT cI cL cQ) cL cQ [.ref h0, .int 0, .ref ou] [(h0, .inr (5, [.ref tl, .ref tr, .ref cu, .ref bk, .int 0])), (tl, .inr (4, [.int (nI a), .ref lk, .ref lv, .ref lo, .ref lp, .ref ll, .ref lf, .int 0, .int 0])), (tr, .inr (4, [.int (nI b), .ref rk, .ref rv, .ref ro, .ref rp, .ref rl, .ref rf, .int 0, .int 0])), (cu, .inr (0, [.ref tl, .ref tr, .ref he, .ref ma, .int 0, .int 0, .long 0])), (ou, .inl (cL, 1, .inr (.inl fo)))] sz) (va_Qi (fun (r : Int32) (u : va_W) => r = 0 ∧ u = [(h0, .inr (5, [.ref tl, .ref tr, .ref cu, .ref bk, .int 0])), (tl, .inr (4, [.int (nI a), .ref lk, .ref lv, .ref lo, .ref lp, .ref ll, .ref lf, .int 0, .int 0])), (tr, .inr (4, [.int (nI b), .ref rk, .ref rv, .ref ro, .ref rp, .ref rl, .ref rf, .int 0, .int 0])), (cu, .inr (0, [.ref tl, .ref tr, .ref he, .ref ma, .int 0, .int 0, .long 0])), (ou, .inl (cL, 1, .inr (.inl (vp_updL fo (0 : Int32).toNatClampNeg 0))))]) (jw_B D vwCl (va_A [(h0, .inr (5, [.ref tl, .ref tr, .ref cu, .ref bk, .int 0])), (tl, .inr (4, [.int (nI a), .ref lk, .ref lv, .ref lo, .ref lp, .ref ll, .ref lf, .int 0, .int 0])), (tr, .inr (4, [.int (nI b), .ref rk, .ref rv, .ref ro, .ref rp, .ref rl, .ref rf, .int 0, .int 0])), (cu, .inr (0, [.ref tl, .ref tr, .ref he, .ref ma, .int 0, .int 0, .long 0])), (ou, .inl (cL, 1, .inr (.inl fo)))] sz) (fun u : va_W => u)) (va_A [(h0, .inr (5, [.ref tl, .ref tr, .ref cu, .ref bk, .int 0])), (tl, .inr (4, [.int (nI a), .ref lk, .ref lv, .ref lo, .ref lp, .ref ll, .ref lf, .int 0, .int 0])), (tr, .inr (4, [.int (nI b), .ref rk, .ref rv, .ref ro, .ref rp, .ref rl, .ref rf, .int 0, .int 0])), (cu, .inr (0, [.ref tl, .ref tr, .ref he, .ref ma, .int 0, .int 0, .long 0])), (ou, .inl (cL, 1, .inr (.inl fo)))] sz)) 0 0 (va_A [(h0, .inr (5, [.ref tl, .ref tr, .ref cu, .ref bk, .int 0])), (tl, .inr (4, [.int (nI a), .ref lk, .ref lv, .ref lo, .ref lp, .ref ll, .ref lf, .int 0, .int 0])), (tr, .inr (4, [.int (nI b), .ref rk, .ref rv, .ref ro, .ref rp, .ref rl, .ref rf, .int 0, .int 0])), (cu, .inr (0, [.ref tl, .ref tr, .ref he, .ref ma, .int 0, .int 0, .long 0])), (ou, .inl (cL, 1, .inr (.inl fo)))] sz) := by
  refine va_MetW (hh := [(0, 8, 11, 19)]) (cc := cL_about) (maxL := 4) (ret := (some .int)) (by decide) rfl ?_
  intro p e s m args below meth c s₁ B hml hv
  obtain ⟨rfl, hsz, hP, hK, hN, hD0, hZ⟩ := hv
  have hx := B.exec
  have hb := B.bytes
  have hr := B.returns
  have hts := atoms_spec (ws := wsL_about) B.pre
  have hown : s.vm.findClass RL = some m.cls := findClass_of_methodNamed B.named
  have hlocks := B.notSynchronized
  subst hsz
  have hD := hD0.self (sz := s.heap.size)
  generalize hAe : va_A [(h0, .inr (5, [.ref tl, .ref tr, .ref cu, .ref bk, .int 0])), (tl, .inr (4, [.int (nI a), .ref lk, .ref lv, .ref lo, .ref lp, .ref ll, .ref lf, .int 0, .int 0])), (tr, .inr (4, [.int (nI b), .ref rk, .ref rv, .ref ro, .ref rp, .ref rl, .ref rf, .int 0, .int 0])), (cu, .inr (0, [.ref tl, .ref tr, .ref he, .ref ma, .int 0, .int 0, .long 0])), (ou, .inl (cL, 1, .inr (.inl fo)))] s.heap.size = A at hD ⊢
  have hA : ∀ q : Nat, s.heap.size ≤ q → A q := fun q h => by rw [← hAe]; exact Or.inr h
  have hS : va_S A s.heap s.heap [] := va_S.rf
  have hl := lv_entry ([.ref h0, .int 0, .ref ou]) (n := 4) (Nat.le_of_ble_eq_true rfl)
  rw [lg_entry_eq]
  generalize (lg_sl ([.ref h0, .int 0, .ref ou]) ++ List.replicate (4 - (lg_sl ([.ref h0, .int 0, .ref ou])).length) Slot.unset).toArray = ls at hl ⊢
  have hl : lv_has ls 4 [(0, .ref h0), (1, .int 0), (2, .ref ou)] := hl
  refine lv_aload_n hx hb dL_about_0 rfl (lv_at hl 2 rfl) ?_
  refine lv_iconst (v := 0) hx hb dL_about_1 (by decide) ?_
  refine lv_aload_n hx hb dL_about_2 rfl (lv_at hl 0 rfl) ?_
  refine lv_iload_n hx hb dL_about_3 rfl (lv_at hl 1 rfl) ?_
  refine vp_callSl (va_Run.run (va_runV (As := [.int 0]) (rest := [.int 0, .ref ou]) ⟨hx, hb, hml, hown, hts⟩ (cJ_about_0 l D cI cL cQ a b h0 tl tr cu bk lk lv lo lp ll lf rk rv ro rp rl rf he ma) (cwV 1 hts gL_about_X5_about rfl rfl rfl (by decide +kernel) ⟨Nat.le_of_ble_eq_true rfl, Nat.le_of_ble_eq_true rfl⟩) (jr_V hK hN hP [0, 1, 2, 3] rfl 5 0 rfl rfl rfl) rfl rfl hl.1 rfl (lv_room (Nat.le_of_ble_eq_true rfl)) dL_about_4 ⟨Nat.le_of_ble_eq_true rfl, Nat.le_of_ble_eq_true rfl⟩)) (fun r f_1 => ?_)
  obtain rfl := f_1
  refine va_last hx hb hK hP hD hS 4 1 rfl rfl (by unfold vp_in; decide) dL_about_7 (fun H locs hP hD hS => ?_)
  have hP : va_P D vwCl [(h0, .inr (5, [.ref tl, .ref tr, .ref cu, .ref bk, .int 0])), (tl, .inr (4, [.int (nI a), .ref lk, .ref lv, .ref lo, .ref lp, .ref ll, .ref lf, .int 0, .int 0])), (tr, .inr (4, [.int (nI b), .ref rk, .ref rv, .ref ro, .ref rp, .ref rl, .ref rf, .int 0, .int 0])), (cu, .inr (0, [.ref tl, .ref tr, .ref he, .ref ma, .int 0, .int 0, .long 0])), (ou, .inl (cL, 1, .inr (.inl (vp_updL fo (0 : Int32).toNatClampNeg 0))))] H := hP
  have hD : va_D A [(h0, .inr (5, [.ref tl, .ref tr, .ref cu, .ref bk, .int 0])), (tl, .inr (4, [.int (nI a), .ref lk, .ref lv, .ref lo, .ref lp, .ref ll, .ref lf, .int 0, .int 0])), (tr, .inr (4, [.int (nI b), .ref rk, .ref rv, .ref ro, .ref rp, .ref rl, .ref rf, .int 0, .int 0])), (cu, .inr (0, [.ref tl, .ref tr, .ref he, .ref ma, .int 0, .int 0, .long 0])), (ou, .inl (cL, 1, .inr (.inl (vp_updL fo (0 : Int32).toNatClampNeg 0))))] := hD
  refine lv_goto (tgt := 14) hx hb dL_about_8 (by decide) ?_
  refine lv_iconst (v := 0) hx hb dL_about_14 (by decide) ?_
  refine W.widen (k := 0) (n := 0) (by omega) (by omega) ?_
  exact W.iret (v := 0) hx hb hr (fun t ht hW => ⟨⟨0, [(h0, .inr (5, [.ref tl, .ref tr, .ref cu, .ref bk, .int 0])), (tl, .inr (4, [.int (nI a), .ref lk, .ref lv, .ref lo, .ref lp, .ref ll, .ref lf, .int 0, .int 0])), (tr, .inr (4, [.int (nI b), .ref rk, .ref rv, .ref ro, .ref rp, .ref rl, .ref rf, .int 0, .int 0])), (cu, .inr (0, [.ref tl, .ref tr, .ref he, .ref ma, .int 0, .int 0, .long 0])), (ou, .inl (cL, 1, .inr (.inl (vp_updL fo (0 : Int32).toNatClampNeg 0))))], rfl, (by exact ⟨rfl, rfl⟩), by rw [ht]; exact hP, hD⟩, hS.F ht⟩) hS.2.2 dL_about_15
set_option maxHeartbeats 1000000 in
set_option maxRecDepth 100000 in
theorem kL_about_1 (l : Launch) (hnt : l.stackTraces = false) (D : va_G) (cI cL cQ : ClassId) (a : Nat) (b : Nat) (h0 : Nat) (tl : Nat) (tr : Nat) (cu : Nat) (bk : Nat) (lk : Nat) (lv : Nat) (lo : Nat) (lp : Nat) (ll : Nat) (lf : Nat) (rk : Nat) (rv : Nat) (ro : Nat) (rp : Nat) (rl : Nat) (rf : Nat) (he : Nat) (ma : Nat) (ou : Nat) (fo : Nat → Int64) (sz : Nat) : Met l yL_about wsL_about ({ frames := 2, cells := 0, slots := 0, locals := 42 }) (jh_P D vwCl (jT cI cL cQ) cL cQ [.ref h0, .int 1, .ref ou] [(h0, .inr (5, [.ref tl, .ref tr, .ref cu, .ref bk, .int 0])), (tl, .inr (4, [.int (nI a), .ref lk, .ref lv, .ref lo, .ref lp, .ref ll, .ref lf, .int 0, .int 0])), (tr, .inr (4, [.int (nI b), .ref rk, .ref rv, .ref ro, .ref rp, .ref rl, .ref rf, .int 0, .int 0])), (cu, .inr (0, [.ref tl, .ref tr, .ref he, .ref ma, .int 0, .int 0, .long 0])), (ou, .inl (cL, 1, .inr (.inl fo)))] sz) (va_Qi (fun (r : Int32) (u : va_W) => r = 0 ∧ u = [(h0, .inr (5, [.ref tl, .ref tr, .ref cu, .ref bk, .int 0])), (tl, .inr (4, [.int (nI a), .ref lk, .ref lv, .ref lo, .ref lp, .ref ll, .ref lf, .int 0, .int 0])), (tr, .inr (4, [.int (nI b), .ref rk, .ref rv, .ref ro, .ref rp, .ref rl, .ref rf, .int 0, .int 0])), (cu, .inr (0, [.ref tl, .ref tr, .ref he, .ref ma, .int 0, .int 0, .long 0])), (ou, .inl (cL, 1, .inr (.inl (vp_updL fo (0 : Int32).toNatClampNeg 0))))]) (jw_B D vwCl (va_A [(h0, .inr (5, [.ref tl, .ref tr, .ref cu, .ref bk, .int 0])), (tl, .inr (4, [.int (nI a), .ref lk, .ref lv, .ref lo, .ref lp, .ref ll, .ref lf, .int 0, .int 0])), (tr, .inr (4, [.int (nI b), .ref rk, .ref rv, .ref ro, .ref rp, .ref rl, .ref rf, .int 0, .int 0])), (cu, .inr (0, [.ref tl, .ref tr, .ref he, .ref ma, .int 0, .int 0, .long 0])), (ou, .inl (cL, 1, .inr (.inl fo)))] sz) (fun u : va_W => u)) (va_A [(h0, .inr (5, [.ref tl, .ref tr, .ref cu, .ref bk, .int 0])), (tl, .inr (4, [.int (nI a), .ref lk, .ref lv, .ref lo, .ref lp, .ref ll, .ref lf, .int 0, .int 0])), (tr, .inr (4, [.int (nI b), .ref rk, .ref rv, .ref ro, .ref rp, .ref rl, .ref rf, .int 0, .int 0])), (cu, .inr (0, [.ref tl, .ref tr, .ref he, .ref ma, .int 0, .int 0, .long 0])), (ou, .inl (cL, 1, .inr (.inl fo)))] sz)) 0 0 (va_A [(h0, .inr (5, [.ref tl, .ref tr, .ref cu, .ref bk, .int 0])), (tl, .inr (4, [.int (nI a), .ref lk, .ref lv, .ref lo, .ref lp, .ref ll, .ref lf, .int 0, .int 0])), (tr, .inr (4, [.int (nI b), .ref rk, .ref rv, .ref ro, .ref rp, .ref rl, .ref rf, .int 0, .int 0])), (cu, .inr (0, [.ref tl, .ref tr, .ref he, .ref ma, .int 0, .int 0, .long 0])), (ou, .inl (cL, 1, .inr (.inl fo)))] sz) := by
  refine va_MetW (hh := [(0, 8, 11, 19)]) (cc := cL_about) (maxL := 4) (ret := (some .int)) (by decide) rfl ?_
  intro p e s m args below meth c s₁ B hml hv
  obtain ⟨rfl, hsz, hP, hK, hN, hD0, hZ⟩ := hv
  have hx := B.exec
  have hb := B.bytes
  have hr := B.returns
  have hts := atoms_spec (ws := wsL_about) B.pre
  have hown : s.vm.findClass RL = some m.cls := findClass_of_methodNamed B.named
  have hlocks := B.notSynchronized
  subst hsz
  have hD := hD0.self (sz := s.heap.size)
  generalize hAe : va_A [(h0, .inr (5, [.ref tl, .ref tr, .ref cu, .ref bk, .int 0])), (tl, .inr (4, [.int (nI a), .ref lk, .ref lv, .ref lo, .ref lp, .ref ll, .ref lf, .int 0, .int 0])), (tr, .inr (4, [.int (nI b), .ref rk, .ref rv, .ref ro, .ref rp, .ref rl, .ref rf, .int 0, .int 0])), (cu, .inr (0, [.ref tl, .ref tr, .ref he, .ref ma, .int 0, .int 0, .long 0])), (ou, .inl (cL, 1, .inr (.inl fo)))] s.heap.size = A at hD ⊢
  have hA : ∀ q : Nat, s.heap.size ≤ q → A q := fun q h => by rw [← hAe]; exact Or.inr h
  have hS : va_S A s.heap s.heap [] := va_S.rf
  have hl := lv_entry ([.ref h0, .int 1, .ref ou]) (n := 4) (Nat.le_of_ble_eq_true rfl)
  rw [lg_entry_eq]
  generalize (lg_sl ([.ref h0, .int 1, .ref ou]) ++ List.replicate (4 - (lg_sl ([.ref h0, .int 1, .ref ou])).length) Slot.unset).toArray = ls at hl ⊢
  have hl : lv_has ls 4 [(0, .ref h0), (1, .int 1), (2, .ref ou)] := hl
  refine lv_aload_n hx hb dL_about_0 rfl (lv_at hl 2 rfl) ?_
  refine lv_iconst (v := 0) hx hb dL_about_1 (by decide) ?_
  refine lv_aload_n hx hb dL_about_2 rfl (lv_at hl 0 rfl) ?_
  refine lv_iload_n hx hb dL_about_3 rfl (lv_at hl 1 rfl) ?_
  refine vp_callSl (va_Run.run (va_runV (As := [.int 1]) (rest := [.int 0, .ref ou]) ⟨hx, hb, hml, hown, hts⟩ (cJ_about_1 l D cI cL cQ a b h0 tl tr cu bk lk lv lo lp ll lf rk rv ro rp rl rf he ma) (cwV 1 hts gL_about_X5_about rfl rfl rfl (by decide +kernel) ⟨Nat.le_of_ble_eq_true rfl, Nat.le_of_ble_eq_true rfl⟩) (jr_V hK hN hP [0, 1, 2, 3] rfl 5 0 rfl rfl rfl) rfl rfl hl.1 rfl (lv_room (Nat.le_of_ble_eq_true rfl)) dL_about_4 ⟨Nat.le_of_ble_eq_true rfl, Nat.le_of_ble_eq_true rfl⟩)) (fun r f_1 => ?_)
  obtain rfl := f_1
  refine va_last hx hb hK hP hD hS 4 1 rfl rfl (by unfold vp_in; decide) dL_about_7 (fun H locs hP hD hS => ?_)
  have hP : va_P D vwCl [(h0, .inr (5, [.ref tl, .ref tr, .ref cu, .ref bk, .int 0])), (tl, .inr (4, [.int (nI a), .ref lk, .ref lv, .ref lo, .ref lp, .ref ll, .ref lf, .int 0, .int 0])), (tr, .inr (4, [.int (nI b), .ref rk, .ref rv, .ref ro, .ref rp, .ref rl, .ref rf, .int 0, .int 0])), (cu, .inr (0, [.ref tl, .ref tr, .ref he, .ref ma, .int 0, .int 0, .long 0])), (ou, .inl (cL, 1, .inr (.inl (vp_updL fo (0 : Int32).toNatClampNeg 0))))] H := hP
  have hD : va_D A [(h0, .inr (5, [.ref tl, .ref tr, .ref cu, .ref bk, .int 0])), (tl, .inr (4, [.int (nI a), .ref lk, .ref lv, .ref lo, .ref lp, .ref ll, .ref lf, .int 0, .int 0])), (tr, .inr (4, [.int (nI b), .ref rk, .ref rv, .ref ro, .ref rp, .ref rl, .ref rf, .int 0, .int 0])), (cu, .inr (0, [.ref tl, .ref tr, .ref he, .ref ma, .int 0, .int 0, .long 0])), (ou, .inl (cL, 1, .inr (.inl (vp_updL fo (0 : Int32).toNatClampNeg 0))))] := hD
  refine lv_goto (tgt := 14) hx hb dL_about_8 (by decide) ?_
  refine lv_iconst (v := 0) hx hb dL_about_14 (by decide) ?_
  refine W.widen (k := 0) (n := 0) (by omega) (by omega) ?_
  exact W.iret (v := 0) hx hb hr (fun t ht hW => ⟨⟨0, [(h0, .inr (5, [.ref tl, .ref tr, .ref cu, .ref bk, .int 0])), (tl, .inr (4, [.int (nI a), .ref lk, .ref lv, .ref lo, .ref lp, .ref ll, .ref lf, .int 0, .int 0])), (tr, .inr (4, [.int (nI b), .ref rk, .ref rv, .ref ro, .ref rp, .ref rl, .ref rf, .int 0, .int 0])), (cu, .inr (0, [.ref tl, .ref tr, .ref he, .ref ma, .int 0, .int 0, .long 0])), (ou, .inl (cL, 1, .inr (.inl (vp_updL fo (0 : Int32).toNatClampNeg 0))))], rfl, (by exact ⟨rfl, rfl⟩), by rw [ht]; exact hP, hD⟩, hS.F ht⟩) hS.2.2 dL_about_15
set_option maxHeartbeats 1000000 in
set_option maxRecDepth 100000 in
theorem kL_about_2 (l : Launch) (hnt : l.stackTraces = false) (D : va_G) (cI cL cQ : ClassId) (a : Nat) (b : Nat) (h0 : Nat) (tl : Nat) (tr : Nat) (cu : Nat) (bk : Nat) (lk : Nat) (lv : Nat) (lo : Nat) (lp : Nat) (ll : Nat) (lf : Nat) (rk : Nat) (rv : Nat) (ro : Nat) (rp : Nat) (rl : Nat) (rf : Nat) (he : Nat) (ma : Nat) (ou : Nat) (fo : Nat → Int64) (sz : Nat) : Met l yL_about wsL_about ({ frames := 2, cells := 0, slots := 0, locals := 42 }) (jh_P D vwCl (jT cI cL cQ) cL cQ [.ref h0, .int 2, .ref ou] [(h0, .inr (5, [.ref tl, .ref tr, .ref cu, .ref bk, .int 0])), (tl, .inr (4, [.int (nI a), .ref lk, .ref lv, .ref lo, .ref lp, .ref ll, .ref lf, .int 0, .int 0])), (tr, .inr (4, [.int (nI b), .ref rk, .ref rv, .ref ro, .ref rp, .ref rl, .ref rf, .int 0, .int 0])), (cu, .inr (0, [.ref tl, .ref tr, .ref he, .ref ma, .int 0, .int 0, .long 0])), (ou, .inl (cL, 1, .inr (.inl fo)))] sz) (va_Qi (fun (r : Int32) (u : va_W) => r = 0 ∧ u = [(h0, .inr (5, [.ref tl, .ref tr, .ref cu, .ref bk, .int 0])), (tl, .inr (4, [.int (nI a), .ref lk, .ref lv, .ref lo, .ref lp, .ref ll, .ref lf, .int 0, .int 0])), (tr, .inr (4, [.int (nI b), .ref rk, .ref rv, .ref ro, .ref rp, .ref rl, .ref rf, .int 0, .int 0])), (cu, .inr (0, [.ref tl, .ref tr, .ref he, .ref ma, .int 0, .int 0, .long 0])), (ou, .inl (cL, 1, .inr (.inl (vp_updL fo (0 : Int32).toNatClampNeg 0))))]) (jw_B D vwCl (va_A [(h0, .inr (5, [.ref tl, .ref tr, .ref cu, .ref bk, .int 0])), (tl, .inr (4, [.int (nI a), .ref lk, .ref lv, .ref lo, .ref lp, .ref ll, .ref lf, .int 0, .int 0])), (tr, .inr (4, [.int (nI b), .ref rk, .ref rv, .ref ro, .ref rp, .ref rl, .ref rf, .int 0, .int 0])), (cu, .inr (0, [.ref tl, .ref tr, .ref he, .ref ma, .int 0, .int 0, .long 0])), (ou, .inl (cL, 1, .inr (.inl fo)))] sz) (fun u : va_W => u)) (va_A [(h0, .inr (5, [.ref tl, .ref tr, .ref cu, .ref bk, .int 0])), (tl, .inr (4, [.int (nI a), .ref lk, .ref lv, .ref lo, .ref lp, .ref ll, .ref lf, .int 0, .int 0])), (tr, .inr (4, [.int (nI b), .ref rk, .ref rv, .ref ro, .ref rp, .ref rl, .ref rf, .int 0, .int 0])), (cu, .inr (0, [.ref tl, .ref tr, .ref he, .ref ma, .int 0, .int 0, .long 0])), (ou, .inl (cL, 1, .inr (.inl fo)))] sz)) 0 0 (va_A [(h0, .inr (5, [.ref tl, .ref tr, .ref cu, .ref bk, .int 0])), (tl, .inr (4, [.int (nI a), .ref lk, .ref lv, .ref lo, .ref lp, .ref ll, .ref lf, .int 0, .int 0])), (tr, .inr (4, [.int (nI b), .ref rk, .ref rv, .ref ro, .ref rp, .ref rl, .ref rf, .int 0, .int 0])), (cu, .inr (0, [.ref tl, .ref tr, .ref he, .ref ma, .int 0, .int 0, .long 0])), (ou, .inl (cL, 1, .inr (.inl fo)))] sz) := by
  refine va_MetW (hh := [(0, 8, 11, 19)]) (cc := cL_about) (maxL := 4) (ret := (some .int)) (by decide) rfl ?_
  intro p e s m args below meth c s₁ B hml hv
  obtain ⟨rfl, hsz, hP, hK, hN, hD0, hZ⟩ := hv
  have hx := B.exec
  have hb := B.bytes
  have hr := B.returns
  have hts := atoms_spec (ws := wsL_about) B.pre
  have hown : s.vm.findClass RL = some m.cls := findClass_of_methodNamed B.named
  have hlocks := B.notSynchronized
  subst hsz
  have hD := hD0.self (sz := s.heap.size)
  generalize hAe : va_A [(h0, .inr (5, [.ref tl, .ref tr, .ref cu, .ref bk, .int 0])), (tl, .inr (4, [.int (nI a), .ref lk, .ref lv, .ref lo, .ref lp, .ref ll, .ref lf, .int 0, .int 0])), (tr, .inr (4, [.int (nI b), .ref rk, .ref rv, .ref ro, .ref rp, .ref rl, .ref rf, .int 0, .int 0])), (cu, .inr (0, [.ref tl, .ref tr, .ref he, .ref ma, .int 0, .int 0, .long 0])), (ou, .inl (cL, 1, .inr (.inl fo)))] s.heap.size = A at hD ⊢
  have hA : ∀ q : Nat, s.heap.size ≤ q → A q := fun q h => by rw [← hAe]; exact Or.inr h
  have hS : va_S A s.heap s.heap [] := va_S.rf
  have hl := lv_entry ([.ref h0, .int 2, .ref ou]) (n := 4) (Nat.le_of_ble_eq_true rfl)
  rw [lg_entry_eq]
  generalize (lg_sl ([.ref h0, .int 2, .ref ou]) ++ List.replicate (4 - (lg_sl ([.ref h0, .int 2, .ref ou])).length) Slot.unset).toArray = ls at hl ⊢
  have hl : lv_has ls 4 [(0, .ref h0), (1, .int 2), (2, .ref ou)] := hl
  refine lv_aload_n hx hb dL_about_0 rfl (lv_at hl 2 rfl) ?_
  refine lv_iconst (v := 0) hx hb dL_about_1 (by decide) ?_
  refine lv_aload_n hx hb dL_about_2 rfl (lv_at hl 0 rfl) ?_
  refine lv_iload_n hx hb dL_about_3 rfl (lv_at hl 1 rfl) ?_
  refine vp_callSl (va_Run.run (va_runV (As := [.int 2]) (rest := [.int 0, .ref ou]) ⟨hx, hb, hml, hown, hts⟩ (cJ_about_2 l D cI cL cQ a b h0 tl tr cu bk lk lv lo lp ll lf rk rv ro rp rl rf he ma) (cwV 1 hts gL_about_X5_about rfl rfl rfl (by decide +kernel) ⟨Nat.le_of_ble_eq_true rfl, Nat.le_of_ble_eq_true rfl⟩) (jr_V hK hN hP [0, 1, 2, 3] rfl 5 0 rfl rfl rfl) rfl rfl hl.1 rfl (lv_room (Nat.le_of_ble_eq_true rfl)) dL_about_4 ⟨Nat.le_of_ble_eq_true rfl, Nat.le_of_ble_eq_true rfl⟩)) (fun r f_1 => ?_)
  obtain rfl := f_1
  refine va_last hx hb hK hP hD hS 4 1 rfl rfl (by unfold vp_in; decide) dL_about_7 (fun H locs hP hD hS => ?_)
  have hP : va_P D vwCl [(h0, .inr (5, [.ref tl, .ref tr, .ref cu, .ref bk, .int 0])), (tl, .inr (4, [.int (nI a), .ref lk, .ref lv, .ref lo, .ref lp, .ref ll, .ref lf, .int 0, .int 0])), (tr, .inr (4, [.int (nI b), .ref rk, .ref rv, .ref ro, .ref rp, .ref rl, .ref rf, .int 0, .int 0])), (cu, .inr (0, [.ref tl, .ref tr, .ref he, .ref ma, .int 0, .int 0, .long 0])), (ou, .inl (cL, 1, .inr (.inl (vp_updL fo (0 : Int32).toNatClampNeg 0))))] H := hP
  have hD : va_D A [(h0, .inr (5, [.ref tl, .ref tr, .ref cu, .ref bk, .int 0])), (tl, .inr (4, [.int (nI a), .ref lk, .ref lv, .ref lo, .ref lp, .ref ll, .ref lf, .int 0, .int 0])), (tr, .inr (4, [.int (nI b), .ref rk, .ref rv, .ref ro, .ref rp, .ref rl, .ref rf, .int 0, .int 0])), (cu, .inr (0, [.ref tl, .ref tr, .ref he, .ref ma, .int 0, .int 0, .long 0])), (ou, .inl (cL, 1, .inr (.inl (vp_updL fo (0 : Int32).toNatClampNeg 0))))] := hD
  refine lv_goto (tgt := 14) hx hb dL_about_8 (by decide) ?_
  refine lv_iconst (v := 0) hx hb dL_about_14 (by decide) ?_
  refine W.widen (k := 0) (n := 0) (by omega) (by omega) ?_
  exact W.iret (v := 0) hx hb hr (fun t ht hW => ⟨⟨0, [(h0, .inr (5, [.ref tl, .ref tr, .ref cu, .ref bk, .int 0])), (tl, .inr (4, [.int (nI a), .ref lk, .ref lv, .ref lo, .ref lp, .ref ll, .ref lf, .int 0, .int 0])), (tr, .inr (4, [.int (nI b), .ref rk, .ref rv, .ref ro, .ref rp, .ref rl, .ref rf, .int 0, .int 0])), (cu, .inr (0, [.ref tl, .ref tr, .ref he, .ref ma, .int 0, .int 0, .long 0])), (ou, .inl (cL, 1, .inr (.inl (vp_updL fo (0 : Int32).toNatClampNeg 0))))], rfl, (by exact ⟨rfl, rfl⟩), by rw [ht]; exact hP, hD⟩, hS.F ht⟩) hS.2.2 dL_about_15
set_option maxHeartbeats 1000000 in
set_option maxRecDepth 100000 in
theorem kL_about_3 (l : Launch) (hnt : l.stackTraces = false) (D : va_G) (cI cL cQ : ClassId) (a : Nat) (b : Nat) (h0 : Nat) (tl : Nat) (tr : Nat) (cu : Nat) (bk : Nat) (lk : Nat) (lv : Nat) (lo : Nat) (lp : Nat) (ll : Nat) (lf : Nat) (rk : Nat) (rv : Nat) (ro : Nat) (rp : Nat) (rl : Nat) (rf : Nat) (he : Nat) (ma : Nat) (ou : Nat) (fo : Nat → Int64) (sz : Nat) : Met l yL_about wsL_about ({ frames := 2, cells := 0, slots := 0, locals := 42 }) (jh_P D vwCl (jT cI cL cQ) cL cQ [.ref h0, .int 3, .ref ou] [(h0, .inr (5, [.ref tl, .ref tr, .ref cu, .ref bk, .int 0])), (tl, .inr (4, [.int (nI a), .ref lk, .ref lv, .ref lo, .ref lp, .ref ll, .ref lf, .int 0, .int 0])), (tr, .inr (4, [.int (nI b), .ref rk, .ref rv, .ref ro, .ref rp, .ref rl, .ref rf, .int 0, .int 0])), (cu, .inr (0, [.ref tl, .ref tr, .ref he, .ref ma, .int 0, .int 0, .long 0])), (ou, .inl (cL, 1, .inr (.inl fo)))] sz) (va_Qi (fun (r : Int32) (u : va_W) => r = 0 ∧ u = [(h0, .inr (5, [.ref tl, .ref tr, .ref cu, .ref bk, .int 0])), (tl, .inr (4, [.int (nI a), .ref lk, .ref lv, .ref lo, .ref lp, .ref ll, .ref lf, .int 0, .int 0])), (tr, .inr (4, [.int (nI b), .ref rk, .ref rv, .ref ro, .ref rp, .ref rl, .ref rf, .int 0, .int 0])), (cu, .inr (0, [.ref tl, .ref tr, .ref he, .ref ma, .int 0, .int 0, .long 0])), (ou, .inl (cL, 1, .inr (.inl (vp_updL fo (0 : Int32).toNatClampNeg 0))))]) (jw_B D vwCl (va_A [(h0, .inr (5, [.ref tl, .ref tr, .ref cu, .ref bk, .int 0])), (tl, .inr (4, [.int (nI a), .ref lk, .ref lv, .ref lo, .ref lp, .ref ll, .ref lf, .int 0, .int 0])), (tr, .inr (4, [.int (nI b), .ref rk, .ref rv, .ref ro, .ref rp, .ref rl, .ref rf, .int 0, .int 0])), (cu, .inr (0, [.ref tl, .ref tr, .ref he, .ref ma, .int 0, .int 0, .long 0])), (ou, .inl (cL, 1, .inr (.inl fo)))] sz) (fun u : va_W => u)) (va_A [(h0, .inr (5, [.ref tl, .ref tr, .ref cu, .ref bk, .int 0])), (tl, .inr (4, [.int (nI a), .ref lk, .ref lv, .ref lo, .ref lp, .ref ll, .ref lf, .int 0, .int 0])), (tr, .inr (4, [.int (nI b), .ref rk, .ref rv, .ref ro, .ref rp, .ref rl, .ref rf, .int 0, .int 0])), (cu, .inr (0, [.ref tl, .ref tr, .ref he, .ref ma, .int 0, .int 0, .long 0])), (ou, .inl (cL, 1, .inr (.inl fo)))] sz)) 0 0 (va_A [(h0, .inr (5, [.ref tl, .ref tr, .ref cu, .ref bk, .int 0])), (tl, .inr (4, [.int (nI a), .ref lk, .ref lv, .ref lo, .ref lp, .ref ll, .ref lf, .int 0, .int 0])), (tr, .inr (4, [.int (nI b), .ref rk, .ref rv, .ref ro, .ref rp, .ref rl, .ref rf, .int 0, .int 0])), (cu, .inr (0, [.ref tl, .ref tr, .ref he, .ref ma, .int 0, .int 0, .long 0])), (ou, .inl (cL, 1, .inr (.inl fo)))] sz) := by
  refine va_MetW (hh := [(0, 8, 11, 19)]) (cc := cL_about) (maxL := 4) (ret := (some .int)) (by decide) rfl ?_
  intro p e s m args below meth c s₁ B hml hv
  obtain ⟨rfl, hsz, hP, hK, hN, hD0, hZ⟩ := hv
  have hx := B.exec
  have hb := B.bytes
  have hr := B.returns
  have hts := atoms_spec (ws := wsL_about) B.pre
  have hown : s.vm.findClass RL = some m.cls := findClass_of_methodNamed B.named
  have hlocks := B.notSynchronized
  subst hsz
  have hD := hD0.self (sz := s.heap.size)
  generalize hAe : va_A [(h0, .inr (5, [.ref tl, .ref tr, .ref cu, .ref bk, .int 0])), (tl, .inr (4, [.int (nI a), .ref lk, .ref lv, .ref lo, .ref lp, .ref ll, .ref lf, .int 0, .int 0])), (tr, .inr (4, [.int (nI b), .ref rk, .ref rv, .ref ro, .ref rp, .ref rl, .ref rf, .int 0, .int 0])), (cu, .inr (0, [.ref tl, .ref tr, .ref he, .ref ma, .int 0, .int 0, .long 0])), (ou, .inl (cL, 1, .inr (.inl fo)))] s.heap.size = A at hD ⊢
  have hA : ∀ q : Nat, s.heap.size ≤ q → A q := fun q h => by rw [← hAe]; exact Or.inr h
  have hS : va_S A s.heap s.heap [] := va_S.rf
  have hl := lv_entry ([.ref h0, .int 3, .ref ou]) (n := 4) (Nat.le_of_ble_eq_true rfl)
  rw [lg_entry_eq]
  generalize (lg_sl ([.ref h0, .int 3, .ref ou]) ++ List.replicate (4 - (lg_sl ([.ref h0, .int 3, .ref ou])).length) Slot.unset).toArray = ls at hl ⊢
  have hl : lv_has ls 4 [(0, .ref h0), (1, .int 3), (2, .ref ou)] := hl
  refine lv_aload_n hx hb dL_about_0 rfl (lv_at hl 2 rfl) ?_
  refine lv_iconst (v := 0) hx hb dL_about_1 (by decide) ?_
  refine lv_aload_n hx hb dL_about_2 rfl (lv_at hl 0 rfl) ?_
  refine lv_iload_n hx hb dL_about_3 rfl (lv_at hl 1 rfl) ?_
  refine vp_callSl (va_Run.run (va_runV (As := [.int 3]) (rest := [.int 0, .ref ou]) ⟨hx, hb, hml, hown, hts⟩ (cJ_about_3 l D cI cL cQ a b h0 tl tr cu bk lk lv lo lp ll lf rk rv ro rp rl rf he ma) (cwV 1 hts gL_about_X5_about rfl rfl rfl (by decide +kernel) ⟨Nat.le_of_ble_eq_true rfl, Nat.le_of_ble_eq_true rfl⟩) (jr_V hK hN hP [0, 1, 2, 3] rfl 5 0 rfl rfl rfl) rfl rfl hl.1 rfl (lv_room (Nat.le_of_ble_eq_true rfl)) dL_about_4 ⟨Nat.le_of_ble_eq_true rfl, Nat.le_of_ble_eq_true rfl⟩)) (fun r f_1 => ?_)
  obtain rfl := f_1
  refine va_last hx hb hK hP hD hS 4 1 rfl rfl (by unfold vp_in; decide) dL_about_7 (fun H locs hP hD hS => ?_)
  have hP : va_P D vwCl [(h0, .inr (5, [.ref tl, .ref tr, .ref cu, .ref bk, .int 0])), (tl, .inr (4, [.int (nI a), .ref lk, .ref lv, .ref lo, .ref lp, .ref ll, .ref lf, .int 0, .int 0])), (tr, .inr (4, [.int (nI b), .ref rk, .ref rv, .ref ro, .ref rp, .ref rl, .ref rf, .int 0, .int 0])), (cu, .inr (0, [.ref tl, .ref tr, .ref he, .ref ma, .int 0, .int 0, .long 0])), (ou, .inl (cL, 1, .inr (.inl (vp_updL fo (0 : Int32).toNatClampNeg 0))))] H := hP
  have hD : va_D A [(h0, .inr (5, [.ref tl, .ref tr, .ref cu, .ref bk, .int 0])), (tl, .inr (4, [.int (nI a), .ref lk, .ref lv, .ref lo, .ref lp, .ref ll, .ref lf, .int 0, .int 0])), (tr, .inr (4, [.int (nI b), .ref rk, .ref rv, .ref ro, .ref rp, .ref rl, .ref rf, .int 0, .int 0])), (cu, .inr (0, [.ref tl, .ref tr, .ref he, .ref ma, .int 0, .int 0, .long 0])), (ou, .inl (cL, 1, .inr (.inl (vp_updL fo (0 : Int32).toNatClampNeg 0))))] := hD
  refine lv_goto (tgt := 14) hx hb dL_about_8 (by decide) ?_
  refine lv_iconst (v := 0) hx hb dL_about_14 (by decide) ?_
  refine W.widen (k := 0) (n := 0) (by omega) (by omega) ?_
  exact W.iret (v := 0) hx hb hr (fun t ht hW => ⟨⟨0, [(h0, .inr (5, [.ref tl, .ref tr, .ref cu, .ref bk, .int 0])), (tl, .inr (4, [.int (nI a), .ref lk, .ref lv, .ref lo, .ref lp, .ref ll, .ref lf, .int 0, .int 0])), (tr, .inr (4, [.int (nI b), .ref rk, .ref rv, .ref ro, .ref rp, .ref rl, .ref rf, .int 0, .int 0])), (cu, .inr (0, [.ref tl, .ref tr, .ref he, .ref ma, .int 0, .int 0, .long 0])), (ou, .inl (cL, 1, .inr (.inl (vp_updL fo (0 : Int32).toNatClampNeg 0))))], rfl, (by exact ⟨rfl, rfl⟩), by rw [ht]; exact hP, hD⟩, hS.F ht⟩) hS.2.2 dL_about_15
set_option maxHeartbeats 1000000 in
set_option maxRecDepth 100000 in
theorem kL_about_4 (l : Launch) (hnt : l.stackTraces = false) (D : va_G) (cI cL cQ : ClassId) (a : Nat) (b : Nat) (h0 : Nat) (tl : Nat) (tr : Nat) (cu : Nat) (bk : Nat) (lk : Nat) (lv : Nat) (lo : Nat) (lp : Nat) (ll : Nat) (lf : Nat) (rk : Nat) (rv : Nat) (ro : Nat) (rp : Nat) (rl : Nat) (rf : Nat) (he : Nat) (ma : Nat) (ou : Nat) (fo : Nat → Int64) (sz : Nat) : Met l yL_about wsL_about ({ frames := 2, cells := 0, slots := 0, locals := 42 }) (jh_P D vwCl (jT cI cL cQ) cL cQ [.ref h0, .int 4, .ref ou] [(h0, .inr (5, [.ref tl, .ref tr, .ref cu, .ref bk, .int 0])), (tl, .inr (4, [.int (nI a), .ref lk, .ref lv, .ref lo, .ref lp, .ref ll, .ref lf, .int 0, .int 0])), (tr, .inr (4, [.int (nI b), .ref rk, .ref rv, .ref ro, .ref rp, .ref rl, .ref rf, .int 0, .int 0])), (cu, .inr (0, [.ref tl, .ref tr, .ref he, .ref ma, .int 0, .int 0, .long 0])), (ou, .inl (cL, 1, .inr (.inl fo)))] sz) (va_Qi (fun (r : Int32) (u : va_W) => r = 0 ∧ u = [(h0, .inr (5, [.ref tl, .ref tr, .ref cu, .ref bk, .int 0])), (tl, .inr (4, [.int (nI a), .ref lk, .ref lv, .ref lo, .ref lp, .ref ll, .ref lf, .int 0, .int 0])), (tr, .inr (4, [.int (nI b), .ref rk, .ref rv, .ref ro, .ref rp, .ref rl, .ref rf, .int 0, .int 0])), (cu, .inr (0, [.ref tl, .ref tr, .ref he, .ref ma, .int 0, .int 0, .long 0])), (ou, .inl (cL, 1, .inr (.inl (vp_updL fo (0 : Int32).toNatClampNeg 0))))]) (jw_B D vwCl (va_A [(h0, .inr (5, [.ref tl, .ref tr, .ref cu, .ref bk, .int 0])), (tl, .inr (4, [.int (nI a), .ref lk, .ref lv, .ref lo, .ref lp, .ref ll, .ref lf, .int 0, .int 0])), (tr, .inr (4, [.int (nI b), .ref rk, .ref rv, .ref ro, .ref rp, .ref rl, .ref rf, .int 0, .int 0])), (cu, .inr (0, [.ref tl, .ref tr, .ref he, .ref ma, .int 0, .int 0, .long 0])), (ou, .inl (cL, 1, .inr (.inl fo)))] sz) (fun u : va_W => u)) (va_A [(h0, .inr (5, [.ref tl, .ref tr, .ref cu, .ref bk, .int 0])), (tl, .inr (4, [.int (nI a), .ref lk, .ref lv, .ref lo, .ref lp, .ref ll, .ref lf, .int 0, .int 0])), (tr, .inr (4, [.int (nI b), .ref rk, .ref rv, .ref ro, .ref rp, .ref rl, .ref rf, .int 0, .int 0])), (cu, .inr (0, [.ref tl, .ref tr, .ref he, .ref ma, .int 0, .int 0, .long 0])), (ou, .inl (cL, 1, .inr (.inl fo)))] sz)) 0 0 (va_A [(h0, .inr (5, [.ref tl, .ref tr, .ref cu, .ref bk, .int 0])), (tl, .inr (4, [.int (nI a), .ref lk, .ref lv, .ref lo, .ref lp, .ref ll, .ref lf, .int 0, .int 0])), (tr, .inr (4, [.int (nI b), .ref rk, .ref rv, .ref ro, .ref rp, .ref rl, .ref rf, .int 0, .int 0])), (cu, .inr (0, [.ref tl, .ref tr, .ref he, .ref ma, .int 0, .int 0, .long 0])), (ou, .inl (cL, 1, .inr (.inl fo)))] sz) := by
  refine va_MetW (hh := [(0, 8, 11, 19)]) (cc := cL_about) (maxL := 4) (ret := (some .int)) (by decide) rfl ?_
  intro p e s m args below meth c s₁ B hml hv
  obtain ⟨rfl, hsz, hP, hK, hN, hD0, hZ⟩ := hv
  have hx := B.exec
  have hb := B.bytes
  have hr := B.returns
  have hts := atoms_spec (ws := wsL_about) B.pre
  have hown : s.vm.findClass RL = some m.cls := findClass_of_methodNamed B.named
  have hlocks := B.notSynchronized
  subst hsz
  have hD := hD0.self (sz := s.heap.size)
  generalize hAe : va_A [(h0, .inr (5, [.ref tl, .ref tr, .ref cu, .ref bk, .int 0])), (tl, .inr (4, [.int (nI a), .ref lk, .ref lv, .ref lo, .ref lp, .ref ll, .ref lf, .int 0, .int 0])), (tr, .inr (4, [.int (nI b), .ref rk, .ref rv, .ref ro, .ref rp, .ref rl, .ref rf, .int 0, .int 0])), (cu, .inr (0, [.ref tl, .ref tr, .ref he, .ref ma, .int 0, .int 0, .long 0])), (ou, .inl (cL, 1, .inr (.inl fo)))] s.heap.size = A at hD ⊢
  have hA : ∀ q : Nat, s.heap.size ≤ q → A q := fun q h => by rw [← hAe]; exact Or.inr h
  have hS : va_S A s.heap s.heap [] := va_S.rf
  have hl := lv_entry ([.ref h0, .int 4, .ref ou]) (n := 4) (Nat.le_of_ble_eq_true rfl)
  rw [lg_entry_eq]
  generalize (lg_sl ([.ref h0, .int 4, .ref ou]) ++ List.replicate (4 - (lg_sl ([.ref h0, .int 4, .ref ou])).length) Slot.unset).toArray = ls at hl ⊢
  have hl : lv_has ls 4 [(0, .ref h0), (1, .int 4), (2, .ref ou)] := hl
  refine lv_aload_n hx hb dL_about_0 rfl (lv_at hl 2 rfl) ?_
  refine lv_iconst (v := 0) hx hb dL_about_1 (by decide) ?_
  refine lv_aload_n hx hb dL_about_2 rfl (lv_at hl 0 rfl) ?_
  refine lv_iload_n hx hb dL_about_3 rfl (lv_at hl 1 rfl) ?_
  refine vp_callSl (va_Run.run (va_runV (As := [.int 4]) (rest := [.int 0, .ref ou]) ⟨hx, hb, hml, hown, hts⟩ (cJ_about_4 l D cI cL cQ a b h0 tl tr cu bk lk lv lo lp ll lf rk rv ro rp rl rf he ma) (cwV 1 hts gL_about_X5_about rfl rfl rfl (by decide +kernel) ⟨Nat.le_of_ble_eq_true rfl, Nat.le_of_ble_eq_true rfl⟩) (jr_V hK hN hP [0, 1, 2, 3] rfl 5 0 rfl rfl rfl) rfl rfl hl.1 rfl (lv_room (Nat.le_of_ble_eq_true rfl)) dL_about_4 ⟨Nat.le_of_ble_eq_true rfl, Nat.le_of_ble_eq_true rfl⟩)) (fun r f_1 => ?_)
  obtain rfl := f_1
  refine va_last hx hb hK hP hD hS 4 1 rfl rfl (by unfold vp_in; decide) dL_about_7 (fun H locs hP hD hS => ?_)
  have hP : va_P D vwCl [(h0, .inr (5, [.ref tl, .ref tr, .ref cu, .ref bk, .int 0])), (tl, .inr (4, [.int (nI a), .ref lk, .ref lv, .ref lo, .ref lp, .ref ll, .ref lf, .int 0, .int 0])), (tr, .inr (4, [.int (nI b), .ref rk, .ref rv, .ref ro, .ref rp, .ref rl, .ref rf, .int 0, .int 0])), (cu, .inr (0, [.ref tl, .ref tr, .ref he, .ref ma, .int 0, .int 0, .long 0])), (ou, .inl (cL, 1, .inr (.inl (vp_updL fo (0 : Int32).toNatClampNeg 0))))] H := hP
  have hD : va_D A [(h0, .inr (5, [.ref tl, .ref tr, .ref cu, .ref bk, .int 0])), (tl, .inr (4, [.int (nI a), .ref lk, .ref lv, .ref lo, .ref lp, .ref ll, .ref lf, .int 0, .int 0])), (tr, .inr (4, [.int (nI b), .ref rk, .ref rv, .ref ro, .ref rp, .ref rl, .ref rf, .int 0, .int 0])), (cu, .inr (0, [.ref tl, .ref tr, .ref he, .ref ma, .int 0, .int 0, .long 0])), (ou, .inl (cL, 1, .inr (.inl (vp_updL fo (0 : Int32).toNatClampNeg 0))))] := hD
  refine lv_goto (tgt := 14) hx hb dL_about_8 (by decide) ?_
  refine lv_iconst (v := 0) hx hb dL_about_14 (by decide) ?_
  refine W.widen (k := 0) (n := 0) (by omega) (by omega) ?_
  exact W.iret (v := 0) hx hb hr (fun t ht hW => ⟨⟨0, [(h0, .inr (5, [.ref tl, .ref tr, .ref cu, .ref bk, .int 0])), (tl, .inr (4, [.int (nI a), .ref lk, .ref lv, .ref lo, .ref lp, .ref ll, .ref lf, .int 0, .int 0])), (tr, .inr (4, [.int (nI b), .ref rk, .ref rv, .ref ro, .ref rp, .ref rl, .ref rf, .int 0, .int 0])), (cu, .inr (0, [.ref tl, .ref tr, .ref he, .ref ma, .int 0, .int 0, .long 0])), (ou, .inl (cL, 1, .inr (.inl (vp_updL fo (0 : Int32).toNatClampNeg 0))))], rfl, (by exact ⟨rfl, rfl⟩), by rw [ht]; exact hP, hD⟩, hS.F ht⟩) hS.2.2 dL_about_15
