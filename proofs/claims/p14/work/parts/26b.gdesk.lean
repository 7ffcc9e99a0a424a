set_option maxHeartbeats 1000000 in
set_option maxRecDepth 100000 in
theorem gJ_next (l : Launch) (D : va_G) (cI cL cQ : ClassId) (h0 : Nat) (tl : Nat) (tr : Nat) (cu : Nat) (bk : Nat) (he : Nat) (ma : Nat) (hm : Int32) (kd : Int32) (cc0 : Int64) (p0 : Int32) (p1 : Int32) (p2 : Int32) (p3 : Int32) (p4 : Int32) (p5 : Int32) (p6 : Int32) (a : Nat) (n : Nat) (pl : Nat) (a2 : Nat) (n2 : Nat) (pl2 : Nat) (lk : Nat) (lv : Nat) (lo : Nat) (lp : Nat) (ll : Nat) (lf : Nat) (rk : Nat) (rv : Nat) (ro : Nat) (rp : Nat) (rl : Nat) (rf : Nat) (gk : Nat → Int32) (go : Nat → Int32) (hk : Nat → Int32) (ho_ : Nat → Int32) (sz : Nat) (ha : a ≤ 400) (hn : n ≤ a) (hol : jord a go) (ha2 : a2 ≤ 400) (hn2 : n2 ≤ a2) (hor : jord a2 ho_) : Met l yX5_next wsX5_next ({ frames := 6, cells := 0, slots := 0, locals := 133 }) (jw_P D vwCl (jT cI cL cQ) cL cQ [.ref h0] [(h0, .inr (5, [.ref tl, .ref tr, .ref cu, .ref bk, .int 1])), (cu, .inr (0, [.ref tl, .ref tr, .ref he, .ref ma, .int hm, .int kd, .long cc0])), (he, .inr (2, [.int p0, .int p1, .int p2, .int p3, .int p4, .int p5, .int p6])), (tl, .inr (4, [.int (nI a), .ref lk, .ref lv, .ref lo, .ref lp, .ref ll, .ref lf, .int (nI n), .int (nI pl)])), (lk, .inl (cI, a, .inl gk)), (lo, .inl (cI, a, .inl go)), (tr, .inr (4, [.int (nI a2), .ref rk, .ref rv, .ref ro, .ref rp, .ref rl, .ref rf, .int (nI n2), .int (nI pl2)])), (rk, .inl (cI, a2, .inl hk)), (ro, .inl (cI, a2, .inl ho_))] sz) (va_Qi (fun (r : Int32) (u : va_W) => (∃ (y0 : Int32) (y1 : Int32) (y2 : Int32) (y3 : Int32) (y4 : Int32) (y5 : Int32) (y6 : Int32) (cc9 : Int64), r = 1 ∧ u = [(h0, .inr (5, [.ref tl, .ref tr, .ref cu, .ref bk, .int 1])), (cu, .inr (0, [.ref tl, .ref tr, .ref he, .ref ma, .int hm, .int kd, .long cc9])), (he, .inr (2, [.int y0, .int y1, .int y2, .int y3, .int y4, .int y5, .int y6])), (tl, .inr (4, [.int (nI a), .ref lk, .ref lv, .ref lo, .ref lp, .ref ll, .ref lf, .int (nI n), .int (nI pl)])), (lk, .inl (cI, a, .inl gk)), (lo, .inl (cI, a, .inl go)), (tr, .inr (4, [.int (nI a2), .ref rk, .ref rv, .ref ro, .ref rp, .ref rl, .ref rf, .int (nI n2), .int (nI pl2)])), (rk, .inl (cI, a2, .inl hk)), (ro, .inl (cI, a2, .inl ho_))]) ∨ (∃ (y0 : Int32) (y1 : Int32) (y2 : Int32) (y3 : Int32) (y4 : Int32) (y5 : Int32) (y6 : Int32) (cc9 : Int64), r = 0 ∧ u = [(h0, .inr (5, [.ref tl, .ref tr, .ref cu, .ref bk, .int 1])), (cu, .inr (0, [.ref tl, .ref tr, .ref he, .ref ma, .int hm, .int kd, .long cc9])), (he, .inr (2, [.int y0, .int y1, .int y2, .int y3, .int y4, .int y5, .int y6])), (tl, .inr (4, [.int (nI a), .ref lk, .ref lv, .ref lo, .ref lp, .ref ll, .ref lf, .int (nI n), .int (nI pl)])), (lk, .inl (cI, a, .inl gk)), (lo, .inl (cI, a, .inl go)), (tr, .inr (4, [.int (nI a2), .ref rk, .ref rv, .ref ro, .ref rp, .ref rl, .ref rf, .int (nI n2), .int (nI pl2)])), (rk, .inl (cI, a2, .inl hk)), (ro, .inl (cI, a2, .inl ho_))])) (jw_B D vwCl (va_A [(h0, .inr (5, [.ref tl, .ref tr, .ref cu, .ref bk, .int 1])), (cu, .inr (0, [.ref tl, .ref tr, .ref he, .ref ma, .int hm, .int kd, .long cc0])), (he, .inr (2, [.int p0, .int p1, .int p2, .int p3, .int p4, .int p5, .int p6])), (tl, .inr (4, [.int (nI a), .ref lk, .ref lv, .ref lo, .ref lp, .ref ll, .ref lf, .int (nI n), .int (nI pl)])), (lk, .inl (cI, a, .inl gk)), (lo, .inl (cI, a, .inl go)), (tr, .inr (4, [.int (nI a2), .ref rk, .ref rv, .ref ro, .ref rp, .ref rl, .ref rf, .int (nI n2), .int (nI pl2)])), (rk, .inl (cI, a2, .inl hk)), (ro, .inl (cI, a2, .inl ho_))] sz) (fun u : va_W => u)) (va_A [(h0, .inr (5, [.ref tl, .ref tr, .ref cu, .ref bk, .int 1])), (cu, .inr (0, [.ref tl, .ref tr, .ref he, .ref ma, .int hm, .int kd, .long cc0])), (he, .inr (2, [.int p0, .int p1, .int p2, .int p3, .int p4, .int p5, .int p6])), (tl, .inr (4, [.int (nI a), .ref lk, .ref lv, .ref lo, .ref lp, .ref ll, .ref lf, .int (nI n), .int (nI pl)])), (lk, .inl (cI, a, .inl gk)), (lo, .inl (cI, a, .inl go)), (tr, .inr (4, [.int (nI a2), .ref rk, .ref rv, .ref ro, .ref rp, .ref rl, .ref rf, .int (nI n2), .int (nI pl2)])), (rk, .inl (cI, a2, .inl hk)), (ro, .inl (cI, a2, .inl ho_))] sz)) 0 0 (va_A [(h0, .inr (5, [.ref tl, .ref tr, .ref cu, .ref bk, .int 1])), (cu, .inr (0, [.ref tl, .ref tr, .ref he, .ref ma, .int hm, .int kd, .long cc0])), (he, .inr (2, [.int p0, .int p1, .int p2, .int p3, .int p4, .int p5, .int p6])), (tl, .inr (4, [.int (nI a), .ref lk, .ref lv, .ref lo, .ref lp, .ref ll, .ref lf, .int (nI n), .int (nI pl)])), (lk, .inl (cI, a, .inl gk)), (lo, .inl (cI, a, .inl go)), (tr, .inr (4, [.int (nI a2), .ref rk, .ref rv, .ref ro, .ref rp, .ref rl, .ref rf, .int (nI n2), .int (nI pl2)])), (rk, .inl (cI, a2, .inl hk)), (ro, .inl (cI, a2, .inl ho_))] sz) := by
  refine Met.ofW (cc := cX5_next) (maxL := 1) (ret := (some .boolean)) (by decide) rfl ?_
  intro p e s m args below meth c s₁ B hml hv
  obtain ⟨rfl, hsz, hP, hK, hN, hD0⟩ := hv
  have hx := B.exec
  have hb := B.bytes
  have hr := B.returns
  have hts := atoms_spec (ws := wsX5_next) B.pre
  have hown : s.vm.findClass RX5 = some m.cls := findClass_of_methodNamed B.named
  have hlocks := B.notSynchronized
  subst hsz
  have hD := hD0.self (sz := s.heap.size)
  generalize hAe : va_A [(h0, .inr (5, [.ref tl, .ref tr, .ref cu, .ref bk, .int 1])), (cu, .inr (0, [.ref tl, .ref tr, .ref he, .ref ma, .int hm, .int kd, .long cc0])), (he, .inr (2, [.int p0, .int p1, .int p2, .int p3, .int p4, .int p5, .int p6])), (tl, .inr (4, [.int (nI a), .ref lk, .ref lv, .ref lo, .ref lp, .ref ll, .ref lf, .int (nI n), .int (nI pl)])), (lk, .inl (cI, a, .inl gk)), (lo, .inl (cI, a, .inl go)), (tr, .inr (4, [.int (nI a2), .ref rk, .ref rv, .ref ro, .ref rp, .ref rl, .ref rf, .int (nI n2), .int (nI pl2)])), (rk, .inl (cI, a2, .inl hk)), (ro, .inl (cI, a2, .inl ho_))] s.heap.size = A at hD ⊢
  have hA : ∀ q : Nat, s.heap.size ≤ q → A q := fun q h => by rw [← hAe]; exact Or.inr h
  have hS : va_S A s.heap s.heap [] := va_S.rf
  have hl := lv_entry ([.ref h0]) (n := 1) (Nat.le_of_ble_eq_true rfl)
  rw [lg_entry_eq]
  generalize (lg_sl ([.ref h0]) ++ List.replicate (1 - (lg_sl ([.ref h0])).length) Slot.unset).toArray = ls at hl ⊢
  have hl : lv_has ls 1 [(0, .ref h0)] := hl
  refine lv_aload_n hx hb dX5_next_0 rfl (lv_at hl 0 rfl) ?_
  refine va_get (D := D) (ci := 5) (v := .int 1) (C := RX5) (T := TX5) (N := 5) hx hb hts (by decide +kernel) hown hK hP 0 rfl rfl 4 (by decide) (hts (.fieldLink RX5 41 "JoinDesk" "prepared" "Z") (by decide +kernel)) (fun _ h9 => h9) rfl dX5_next_1 ?_
  refine va_csv (va_Run.run (va_runS (As := [.int 1]) (rest := []) ⟨hx, hb, hml, hown, hts⟩ (gJ_requireState_ok l D cI cL cQ) (va_cwS 1 hts gX5_next_X5_requireState rfl rfl rfl (by decide +kernel) ⟨Nat.le_of_ble_eq_true rfl, Nat.le_of_ble_eq_true rfl⟩) (jr_S hK hN hP [] rfl) rfl rfl hl.1 rfl (lv_room (Nat.le_of_ble_eq_true rfl)) dX5_next_4 ⟨Nat.le_of_ble_eq_true rfl, Nat.le_of_ble_eq_true rfl⟩)) (fun f_1 => ?_)
  refine lv_aload_n hx hb dX5_next_7 rfl (lv_at hl 0 rfl) ?_
  refine va_get (D := D) (ci := 5) (v := .ref cu) (C := RX5) (T := TX5) (N := 5) hx hb hts (by decide +kernel) hown hK hP 0 rfl rfl 2 (by decide) (hts (.fieldLink RX5 30 "JoinDesk" "cursor" "LJoinDesk$Cursor;") (by decide +kernel)) (fun _ h9 => h9) rfl dX5_next_8 ?_
  refine jw_i (wr := [(h0, .inr (5, [.ref tl, .ref tr, .ref cu, .ref bk, .int 1]))]) (va_runV (As := []) (rest := []) ⟨hx, hb, hml, hown, hts⟩ (gC_goOn l D cI cL cQ cu tl tr he ma hm kd cc0 a n pl a2 n2 pl2 lk lv lo lp ll lf rk rv ro rp rl rf gk go hk ho_ p0 p1 p2 p3 p4 p5 p6 _ (by first | assumption | decide | omega) (by first | assumption | decide | omega) (by first | assumption | decide | omega) (by first | assumption | decide | omega) (by first | assumption | decide | omega) (by first | assumption | decide | omega)) (cwV 0 hts gX5_next_X0_goOn rfl rfl rfl (by decide +kernel) ⟨Nat.le_of_ble_eq_true rfl, Nat.le_of_ble_eq_true rfl⟩) (jw_V hK hN hP hD [1, 2, 3, 4, 5, 6, 7, 8] (by decide) rfl 0 1 rfl rfl rfl) rfl rfl hl.1 rfl (lv_room (Nat.le_of_ble_eq_true rfl)) dX5_next_11 ⟨Nat.le_of_ble_eq_true rfl, Nat.le_of_ble_eq_true rfl⟩) hP hD hS hA [1, 2, 3, 4, 5, 6, 7, 8] [0] rfl rfl (by decide) (by decide) (fun r u H locs f_2 hP hD hS => ?_)
  rcases f_2 with ⟨y0_3, y1_4, y2_5, y3_6, y4_7, y5_8, y6_9, cc9_10, rfl, rfl⟩ | ⟨y0_11, y1_12, y2_13, y3_14, y4_15, y5_16, y6_17, cc9_18, rfl, rfl⟩
  · have hP : va_P D vwCl [(h0, .inr (5, [.ref tl, .ref tr, .ref cu, .ref bk, .int 1])), (cu, .inr (0, [.ref tl, .ref tr, .ref he, .ref ma, .int hm, .int kd, .long cc9_10])), (he, .inr (2, [.int y0_3, .int y1_4, .int y2_5, .int y3_6, .int y4_7, .int y5_8, .int y6_9])), (tl, .inr (4, [.int (nI a), .ref lk, .ref lv, .ref lo, .ref lp, .ref ll, .ref lf, .int (nI n), .int (nI pl)])), (lk, .inl (cI, a, .inl gk)), (lo, .inl (cI, a, .inl go)), (tr, .inr (4, [.int (nI a2), .ref rk, .ref rv, .ref ro, .ref rp, .ref rl, .ref rf, .int (nI n2), .int (nI pl2)])), (rk, .inl (cI, a2, .inl hk)), (ro, .inl (cI, a2, .inl ho_))] H := hP
    have hD : va_D A [(h0, .inr (5, [.ref tl, .ref tr, .ref cu, .ref bk, .int 1])), (cu, .inr (0, [.ref tl, .ref tr, .ref he, .ref ma, .int hm, .int kd, .long cc9_10])), (he, .inr (2, [.int y0_3, .int y1_4, .int y2_5, .int y3_6, .int y4_7, .int y5_8, .int y6_9])), (tl, .inr (4, [.int (nI a), .ref lk, .ref lv, .ref lo, .ref lp, .ref ll, .ref lf, .int (nI n), .int (nI pl)])), (lk, .inl (cI, a, .inl gk)), (lo, .inl (cI, a, .inl go)), (tr, .inr (4, [.int (nI a2), .ref rk, .ref rv, .ref ro, .ref rp, .ref rl, .ref rf, .int (nI n2), .int (nI pl2)])), (rk, .inl (cI, a2, .inl hk)), (ro, .inl (cI, a2, .inl ho_))] := hD
    refine W.widen (k := 0) (n := 0) (by omega) (by omega) ?_
    exact W.zret (v := 1) (ty := .boolean) hx hb hr rfl (fun t ht hW => ⟨⟨1, [(h0, .inr (5, [.ref tl, .ref tr, .ref cu, .ref bk, .int 1])), (cu, .inr (0, [.ref tl, .ref tr, .ref he, .ref ma, .int hm, .int kd, .long cc9_10])), (he, .inr (2, [.int y0_3, .int y1_4, .int y2_5, .int y3_6, .int y4_7, .int y5_8, .int y6_9])), (tl, .inr (4, [.int (nI a), .ref lk, .ref lv, .ref lo, .ref lp, .ref ll, .ref lf, .int (nI n), .int (nI pl)])), (lk, .inl (cI, a, .inl gk)), (lo, .inl (cI, a, .inl go)), (tr, .inr (4, [.int (nI a2), .ref rk, .ref rv, .ref ro, .ref rp, .ref rl, .ref rf, .int (nI n2), .int (nI pl2)])), (rk, .inl (cI, a2, .inl hk)), (ro, .inl (cI, a2, .inl ho_))], rfl, (by exact (Or.inl ⟨_, _, _, _, _, _, _, _, rfl, rfl⟩)), by rw [ht]; exact hP, hD⟩, hS.F ht⟩) hS.2.2 dX5_next_14
  · have hP : va_P D vwCl [(h0, .inr (5, [.ref tl, .ref tr, .ref cu, .ref bk, .int 1])), (cu, .inr (0, [.ref tl, .ref tr, .ref he, .ref ma, .int hm, .int kd, .long cc9_18])), (he, .inr (2, [.int y0_11, .int y1_12, .int y2_13, .int y3_14, .int y4_15, .int y5_16, .int y6_17])), (tl, .inr (4, [.int (nI a), .ref lk, .ref lv, .ref lo, .ref lp, .ref ll, .ref lf, .int (nI n), .int (nI pl)])), (lk, .inl (cI, a, .inl gk)), (lo, .inl (cI, a, .inl go)), (tr, .inr (4, [.int (nI a2), .ref rk, .ref rv, .ref ro, .ref rp, .ref rl, .ref rf, .int (nI n2), .int (nI pl2)])), (rk, .inl (cI, a2, .inl hk)), (ro, .inl (cI, a2, .inl ho_))] H := hP
    have hD : va_D A [(h0, .inr (5, [.ref tl, .ref tr, .ref cu, .ref bk, .int 1])), (cu, .inr (0, [.ref tl, .ref tr, .ref he, .ref ma, .int hm, .int kd, .long cc9_18])), (he, .inr (2, [.int y0_11, .int y1_12, .int y2_13, .int y3_14, .int y4_15, .int y5_16, .int y6_17])), (tl, .inr (4, [.int (nI a), .ref lk, .ref lv, .ref lo, .ref lp, .ref ll, .ref lf, .int (nI n), .int (nI pl)])), (lk, .inl (cI, a, .inl gk)), (lo, .inl (cI, a, .inl go)), (tr, .inr (4, [.int (nI a2), .ref rk, .ref rv, .ref ro, .ref rp, .ref rl, .ref rf, .int (nI n2), .int (nI pl2)])), (rk, .inl (cI, a2, .inl hk)), (ro, .inl (cI, a2, .inl ho_))] := hD
    refine W.widen (k := 0) (n := 0) (by omega) (by omega) ?_
    exact W.zret (v := 0) (ty := .boolean) hx hb hr rfl (fun t ht hW => ⟨⟨0, [(h0, .inr (5, [.ref tl, .ref tr, .ref cu, .ref bk, .int 1])), (cu, .inr (0, [.ref tl, .ref tr, .ref he, .ref ma, .int hm, .int kd, .long cc9_18])), (he, .inr (2, [.int y0_11, .int y1_12, .int y2_13, .int y3_14, .int y4_15, .int y5_16, .int y6_17])), (tl, .inr (4, [.int (nI a), .ref lk, .ref lv, .ref lo, .ref lp, .ref ll, .ref lf, .int (nI n), .int (nI pl)])), (lk, .inl (cI, a, .inl gk)), (lo, .inl (cI, a, .inl go)), (tr, .inr (4, [.int (nI a2), .ref rk, .ref rv, .ref ro, .ref rp, .ref rl, .ref rf, .int (nI n2), .int (nI pl2)])), (rk, .inl (cI, a2, .inl hk)), (ro, .inl (cI, a2, .inl ho_))], rfl, (by exact (Or.inr (⟨_, _, _, _, _, _, _, _, rfl, rfl⟩))), by rw [ht]; exact hP, hD⟩, hS.F ht⟩) hS.2.2 dX5_next_14
set_option maxHeartbeats 1000000 in
set_option maxRecDepth 100000 in
theorem gJ_mark (l : Launch) (D : va_G) (cI cL cQ : ClassId) (h0 : Nat) (tl : Nat) (tr : Nat) (cu : Nat) (bk : Nat) (he : Nat) (ma : Nat) (hm : Int32) (kd : Int32) (cc0 : Int64) (p0 : Int32) (p1 : Int32) (p2 : Int32) (p3 : Int32) (p4 : Int32) (p5 : Int32) (p6 : Int32) (q0 : Int32) (q1 : Int32) (q2 : Int32) (q3 : Int32) (q4 : Int32) (q5 : Int32) (q6 : Int32) (sz : Nat) : Met l yX5_mark wsX5_mark ({ frames := 2, cells := 0, slots := 0, locals := 41 }) (jw_P D vwCl (jT cI cL cQ) cL cQ [.ref h0] [(h0, .inr (5, [.ref tl, .ref tr, .ref cu, .ref bk, .int 1])), (cu, .inr (0, [.ref tl, .ref tr, .ref he, .ref ma, .int hm, .int kd, .long cc0])), (he, .inr (2, [.int p0, .int p1, .int p2, .int p3, .int p4, .int p5, .int p6])), (ma, .inr (2, [.int q0, .int q1, .int q2, .int q3, .int q4, .int q5, .int q6]))] sz) (va_Qi (fun (r : Int32) (u : va_W) => r = p6 ∧ u = [(h0, .inr (5, [.ref tl, .ref tr, .ref cu, .ref bk, .int 1])), (cu, .inr (0, [.ref tl, .ref tr, .ref he, .ref ma, .int 1, .int kd, .long cc0])), (he, .inr (2, [.int p0, .int p1, .int p2, .int p3, .int p4, .int p5, .int p6])), (ma, .inr (2, [.int p0, .int p1, .int p2, .int p3, .int p4, .int p5, .int p6]))]) (jw_B D vwCl (va_A [(h0, .inr (5, [.ref tl, .ref tr, .ref cu, .ref bk, .int 1])), (cu, .inr (0, [.ref tl, .ref tr, .ref he, .ref ma, .int hm, .int kd, .long cc0])), (he, .inr (2, [.int p0, .int p1, .int p2, .int p3, .int p4, .int p5, .int p6])), (ma, .inr (2, [.int q0, .int q1, .int q2, .int q3, .int q4, .int q5, .int q6]))] sz) (fun u : va_W => u)) (va_A [(h0, .inr (5, [.ref tl, .ref tr, .ref cu, .ref bk, .int 1])), (cu, .inr (0, [.ref tl, .ref tr, .ref he, .ref ma, .int hm, .int kd, .long cc0])), (he, .inr (2, [.int p0, .int p1, .int p2, .int p3, .int p4, .int p5, .int p6])), (ma, .inr (2, [.int q0, .int q1, .int q2, .int q3, .int q4, .int q5, .int q6]))] sz)) 0 0 (va_A [(h0, .inr (5, [.ref tl, .ref tr, .ref cu, .ref bk, .int 1])), (cu, .inr (0, [.ref tl, .ref tr, .ref he, .ref ma, .int hm, .int kd, .long cc0])), (he, .inr (2, [.int p0, .int p1, .int p2, .int p3, .int p4, .int p5, .int p6])), (ma, .inr (2, [.int q0, .int q1, .int q2, .int q3, .int q4, .int q5, .int q6]))] sz) := by
  refine Met.ofW (cc := cX5_mark) (maxL := 1) (ret := (some .int)) (by decide) rfl ?_
  intro p e s m args below meth c s₁ B hml hv
  obtain ⟨rfl, hsz, hP, hK, hN, hD0⟩ := hv
  have hx := B.exec
  have hb := B.bytes
  have hr := B.returns
  have hts := atoms_spec (ws := wsX5_mark) B.pre
  have hown : s.vm.findClass RX5 = some m.cls := findClass_of_methodNamed B.named
  have hlocks := B.notSynchronized
  subst hsz
  have hD := hD0.self (sz := s.heap.size)
  generalize hAe : va_A [(h0, .inr (5, [.ref tl, .ref tr, .ref cu, .ref bk, .int 1])), (cu, .inr (0, [.ref tl, .ref tr, .ref he, .ref ma, .int hm, .int kd, .long cc0])), (he, .inr (2, [.int p0, .int p1, .int p2, .int p3, .int p4, .int p5, .int p6])), (ma, .inr (2, [.int q0, .int q1, .int q2, .int q3, .int q4, .int q5, .int q6]))] s.heap.size = A at hD ⊢
  have hA : ∀ q : Nat, s.heap.size ≤ q → A q := fun q h => by rw [← hAe]; exact Or.inr h
  have hS : va_S A s.heap s.heap [] := va_S.rf
  have hl := lv_entry ([.ref h0]) (n := 1) (Nat.le_of_ble_eq_true rfl)
  rw [lg_entry_eq]
  generalize (lg_sl ([.ref h0]) ++ List.replicate (1 - (lg_sl ([.ref h0])).length) Slot.unset).toArray = ls at hl ⊢
  have hl : lv_has ls 1 [(0, .ref h0)] := hl
  refine lv_aload_n hx hb dX5_mark_0 rfl (lv_at hl 0 rfl) ?_
  refine va_get (D := D) (ci := 5) (v := .int 1) (C := RX5) (T := TX5) (N := 5) hx hb hts (by decide +kernel) hown hK hP 0 rfl rfl 4 (by decide) (hts (.fieldLink RX5 41 "JoinDesk" "prepared" "Z") (by decide +kernel)) (fun _ h9 => h9) rfl dX5_mark_1 ?_
  refine va_csv (va_Run.run (va_runS (As := [.int 1]) (rest := []) ⟨hx, hb, hml, hown, hts⟩ (gJ_requireState_ok l D cI cL cQ) (va_cwS 1 hts gX5_mark_X5_requireState rfl rfl rfl (by decide +kernel) ⟨Nat.le_of_ble_eq_true rfl, Nat.le_of_ble_eq_true rfl⟩) (jr_S hK hN hP [] rfl) rfl rfl hl.1 rfl (lv_room (Nat.le_of_ble_eq_true rfl)) dX5_mark_4 ⟨Nat.le_of_ble_eq_true rfl, Nat.le_of_ble_eq_true rfl⟩)) (fun f_1 => ?_)
  refine lv_aload_n hx hb dX5_mark_7 rfl (lv_at hl 0 rfl) ?_
  refine va_get (D := D) (ci := 5) (v := .ref cu) (C := RX5) (T := TX5) (N := 5) hx hb hts (by decide +kernel) hown hK hP 0 rfl rfl 2 (by decide) (hts (.fieldLink RX5 30 "JoinDesk" "cursor" "LJoinDesk$Cursor;") (by decide +kernel)) (fun _ h9 => h9) rfl dX5_mark_8 ?_
  refine jw_i (wr := [(h0, .inr (5, [.ref tl, .ref tr, .ref cu, .ref bk, .int 1]))]) (va_runV (As := []) (rest := []) ⟨hx, hb, hml, hown, hts⟩ (gC_setMark l D cI cL cQ cu tl tr he ma hm kd cc0 p0 p1 p2 p3 p4 p5 p6 q0 q1 q2 q3 q4 q5 q6 _) (cwV 0 hts gX5_mark_X0_setMark rfl rfl rfl (by decide +kernel) ⟨Nat.le_of_ble_eq_true rfl, Nat.le_of_ble_eq_true rfl⟩) (jw_V hK hN hP hD [1, 2, 3] (by decide) rfl 0 1 rfl rfl rfl) rfl rfl hl.1 rfl (lv_room (Nat.le_of_ble_eq_true rfl)) dX5_mark_11 ⟨Nat.le_of_ble_eq_true rfl, Nat.le_of_ble_eq_true rfl⟩) hP hD hS hA [1, 2, 3] [0] rfl rfl (by decide) (by decide) (fun r u H locs f_2 hP hD hS => ?_)
  obtain ⟨er_3, rfl⟩ := f_2
  subst r
  have hP : va_P D vwCl [(h0, .inr (5, [.ref tl, .ref tr, .ref cu, .ref bk, .int 1])), (cu, .inr (0, [.ref tl, .ref tr, .ref he, .ref ma, .int 1, .int kd, .long cc0])), (he, .inr (2, [.int p0, .int p1, .int p2, .int p3, .int p4, .int p5, .int p6])), (ma, .inr (2, [.int p0, .int p1, .int p2, .int p3, .int p4, .int p5, .int p6]))] H := hP
  have hD : va_D A [(h0, .inr (5, [.ref tl, .ref tr, .ref cu, .ref bk, .int 1])), (cu, .inr (0, [.ref tl, .ref tr, .ref he, .ref ma, .int 1, .int kd, .long cc0])), (he, .inr (2, [.int p0, .int p1, .int p2, .int p3, .int p4, .int p5, .int p6])), (ma, .inr (2, [.int p0, .int p1, .int p2, .int p3, .int p4, .int p5, .int p6]))] := hD
  refine W.widen (k := 0) (n := 0) (by omega) (by omega) ?_
  exact W.iret (v := p6) hx hb hr (fun t ht hW => ⟨⟨p6, [(h0, .inr (5, [.ref tl, .ref tr, .ref cu, .ref bk, .int 1])), (cu, .inr (0, [.ref tl, .ref tr, .ref he, .ref ma, .int 1, .int kd, .long cc0])), (he, .inr (2, [.int p0, .int p1, .int p2, .int p3, .int p4, .int p5, .int p6])), (ma, .inr (2, [.int p0, .int p1, .int p2, .int p3, .int p4, .int p5, .int p6]))], rfl, (by exact ⟨rfl, rfl⟩), by rw [ht]; exact hP, hD⟩, hS.F ht⟩) hS.2.2 dX5_mark_14
set_option maxHeartbeats 1000000 in
set_option maxRecDepth 100000 in
theorem gJ_back (l : Launch) (D : va_G) (cI cL cQ : ClassId) (h0 : Nat) (tl : Nat) (tr : Nat) (cu : Nat) (bk : Nat) (he : Nat) (ma : Nat) (kd : Int32) (cc0 : Int64) (p0 : Int32) (p1 : Int32) (p2 : Int32) (p3 : Int32) (p4 : Int32) (p5 : Int32) (p6 : Int32) (q0 : Int32) (q1 : Int32) (q2 : Int32) (q3 : Int32) (q4 : Int32) (q5 : Int32) (q6 : Int32) (sz : Nat) : Met l yX5_back wsX5_back ({ frames := 2, cells := 0, slots := 0, locals := 41 }) (jw_P D vwCl (jT cI cL cQ) cL cQ [.ref h0] [(h0, .inr (5, [.ref tl, .ref tr, .ref cu, .ref bk, .int 1])), (cu, .inr (0, [.ref tl, .ref tr, .ref he, .ref ma, .int 1, .int kd, .long cc0])), (he, .inr (2, [.int p0, .int p1, .int p2, .int p3, .int p4, .int p5, .int p6])), (ma, .inr (2, [.int q0, .int q1, .int q2, .int q3, .int q4, .int q5, .int q6]))] sz) (va_Qi (fun (r : Int32) (u : va_W) => r = q6 ∧ u = [(h0, .inr (5, [.ref tl, .ref tr, .ref cu, .ref bk, .int 1])), (cu, .inr (0, [.ref tl, .ref tr, .ref he, .ref ma, .int 1, .int kd, .long cc0])), (he, .inr (2, [.int q0, .int q1, .int q2, .int q3, .int q4, .int q5, .int q6])), (ma, .inr (2, [.int q0, .int q1, .int q2, .int q3, .int q4, .int q5, .int q6]))]) (jw_B D vwCl (va_A [(h0, .inr (5, [.ref tl, .ref tr, .ref cu, .ref bk, .int 1])), (cu, .inr (0, [.ref tl, .ref tr, .ref he, .ref ma, .int 1, .int kd, .long cc0])), (he, .inr (2, [.int p0, .int p1, .int p2, .int p3, .int p4, .int p5, .int p6])), (ma, .inr (2, [.int q0, .int q1, .int q2, .int q3, .int q4, .int q5, .int q6]))] sz) (fun u : va_W => u)) (va_A [(h0, .inr (5, [.ref tl, .ref tr, .ref cu, .ref bk, .int 1])), (cu, .inr (0, [.ref tl, .ref tr, .ref he, .ref ma, .int 1, .int kd, .long cc0])), (he, .inr (2, [.int p0, .int p1, .int p2, .int p3, .int p4, .int p5, .int p6])), (ma, .inr (2, [.int q0, .int q1, .int q2, .int q3, .int q4, .int q5, .int q6]))] sz)) 0 0 (va_A [(h0, .inr (5, [.ref tl, .ref tr, .ref cu, .ref bk, .int 1])), (cu, .inr (0, [.ref tl, .ref tr, .ref he, .ref ma, .int 1, .int kd, .long cc0])), (he, .inr (2, [.int p0, .int p1, .int p2, .int p3, .int p4, .int p5, .int p6])), (ma, .inr (2, [.int q0, .int q1, .int q2, .int q3, .int q4, .int q5, .int q6]))] sz) := by
  refine Met.ofW (cc := cX5_back) (maxL := 1) (ret := (some .int)) (by decide) rfl ?_
  intro p e s m args below meth c s₁ B hml hv
  obtain ⟨rfl, hsz, hP, hK, hN, hD0⟩ := hv
  have hx := B.exec
  have hb := B.bytes
  have hr := B.returns
  have hts := atoms_spec (ws := wsX5_back) B.pre
  have hown : s.vm.findClass RX5 = some m.cls := findClass_of_methodNamed B.named
  have hlocks := B.notSynchronized
  subst hsz
  have hD := hD0.self (sz := s.heap.size)
  generalize hAe : va_A [(h0, .inr (5, [.ref tl, .ref tr, .ref cu, .ref bk, .int 1])), (cu, .inr (0, [.ref tl, .ref tr, .ref he, .ref ma, .int 1, .int kd, .long cc0])), (he, .inr (2, [.int p0, .int p1, .int p2, .int p3, .int p4, .int p5, .int p6])), (ma, .inr (2, [.int q0, .int q1, .int q2, .int q3, .int q4, .int q5, .int q6]))] s.heap.size = A at hD ⊢
  have hA : ∀ q : Nat, s.heap.size ≤ q → A q := fun q h => by rw [← hAe]; exact Or.inr h
  have hS : va_S A s.heap s.heap [] := va_S.rf
  have hl := lv_entry ([.ref h0]) (n := 1) (Nat.le_of_ble_eq_true rfl)
  rw [lg_entry_eq]
  generalize (lg_sl ([.ref h0]) ++ List.replicate (1 - (lg_sl ([.ref h0])).length) Slot.unset).toArray = ls at hl ⊢
  have hl : lv_has ls 1 [(0, .ref h0)] := hl
  refine lv_aload_n hx hb dX5_back_0 rfl (lv_at hl 0 rfl) ?_
  refine va_get (D := D) (ci := 5) (v := .int 1) (C := RX5) (T := TX5) (N := 5) hx hb hts (by decide +kernel) hown hK hP 0 rfl rfl 4 (by decide) (hts (.fieldLink RX5 41 "JoinDesk" "prepared" "Z") (by decide +kernel)) (fun _ h9 => h9) rfl dX5_back_1 ?_
  refine lv_if_eq (tgt := 21) hx hb dX5_back_4 (by decide) (fun c_1 => absurd c_1 (by decide)) (fun c_1 => ?_)
  refine lv_aload_n hx hb dX5_back_7 rfl (lv_at hl 0 rfl) ?_
  refine va_get (D := D) (ci := 5) (v := .ref cu) (C := RX5) (T := TX5) (N := 5) hx hb hts (by decide +kernel) hown hK hP 0 rfl rfl 2 (by decide) (hts (.fieldLink RX5 30 "JoinDesk" "cursor" "LJoinDesk$Cursor;") (by decide +kernel)) (fun _ h9 => h9) rfl dX5_back_8 ?_
  refine vp_callSi (va_Run.run (va_runV (As := []) (rest := []) ⟨hx, hb, hml, hown, hts⟩ (gC_hasMark_1 l D cI cL cQ cu tl tr he ma kd cc0) (cwV 0 hts gX5_back_X0_hasMark rfl rfl rfl (by decide +kernel) ⟨Nat.le_of_ble_eq_true rfl, Nat.le_of_ble_eq_true rfl⟩) (jr_V hK hN hP [1] rfl 0 1 rfl rfl rfl) rfl rfl hl.1 rfl (lv_room (Nat.le_of_ble_eq_true rfl)) dX5_back_11 ⟨Nat.le_of_ble_eq_true rfl, Nat.le_of_ble_eq_true rfl⟩)) (fun r f_2 => ?_)
  obtain rfl := f_2
  refine lv_if_eq (tgt := 21) hx hb dX5_back_14 (by decide) (fun c_3 => absurd c_3 (by decide)) (fun c_3 => ?_)
  refine lv_iconst (v := 1) hx hb dX5_back_17 (by decide) ?_
  refine lv_goto (tgt := 22) hx hb dX5_back_18 (by decide) ?_
  refine va_csv (va_Run.run (va_runS (As := [.int 1]) (rest := []) ⟨hx, hb, hml, hown, hts⟩ (gJ_requireState_ok l D cI cL cQ) (va_cwS 1 hts gX5_back_X5_requireState rfl rfl rfl (by decide +kernel) ⟨Nat.le_of_ble_eq_true rfl, Nat.le_of_ble_eq_true rfl⟩) (jr_S hK hN hP [] rfl) rfl rfl hl.1 rfl (lv_room (Nat.le_of_ble_eq_true rfl)) dX5_back_22 ⟨Nat.le_of_ble_eq_true rfl, Nat.le_of_ble_eq_true rfl⟩)) (fun f_4 => ?_)
  refine lv_aload_n hx hb dX5_back_25 rfl (lv_at hl 0 rfl) ?_
  refine va_get (D := D) (ci := 5) (v := .ref cu) (C := RX5) (T := TX5) (N := 5) hx hb hts (by decide +kernel) hown hK hP 0 rfl rfl 2 (by decide) (hts (.fieldLink RX5 30 "JoinDesk" "cursor" "LJoinDesk$Cursor;") (by decide +kernel)) (fun _ h9 => h9) rfl dX5_back_26 ?_
  refine jw_i (wr := [(h0, .inr (5, [.ref tl, .ref tr, .ref cu, .ref bk, .int 1]))]) (va_runV (As := []) (rest := []) ⟨hx, hb, hml, hown, hts⟩ (gC_goToMark l D cI cL cQ cu tl tr he ma 1 kd cc0 p0 p1 p2 p3 p4 p5 p6 q0 q1 q2 q3 q4 q5 q6 _) (cwV 0 hts gX5_back_X0_goToMark rfl rfl rfl (by decide +kernel) ⟨Nat.le_of_ble_eq_true rfl, Nat.le_of_ble_eq_true rfl⟩) (jw_V hK hN hP hD [1, 2, 3] (by decide) rfl 0 1 rfl rfl rfl) rfl rfl hl.1 rfl (lv_room (Nat.le_of_ble_eq_true rfl)) dX5_back_29 ⟨Nat.le_of_ble_eq_true rfl, Nat.le_of_ble_eq_true rfl⟩) hP hD hS hA [1, 2, 3] [0] rfl rfl (by decide) (by decide) (fun r u H locs f_5 hP hD hS => ?_)
  obtain ⟨er_6, rfl⟩ := f_5
  subst r
  have hP : va_P D vwCl [(h0, .inr (5, [.ref tl, .ref tr, .ref cu, .ref bk, .int 1])), (cu, .inr (0, [.ref tl, .ref tr, .ref he, .ref ma, .int 1, .int kd, .long cc0])), (he, .inr (2, [.int q0, .int q1, .int q2, .int q3, .int q4, .int q5, .int q6])), (ma, .inr (2, [.int q0, .int q1, .int q2, .int q3, .int q4, .int q5, .int q6]))] H := hP
  have hD : va_D A [(h0, .inr (5, [.ref tl, .ref tr, .ref cu, .ref bk, .int 1])), (cu, .inr (0, [.ref tl, .ref tr, .ref he, .ref ma, .int 1, .int kd, .long cc0])), (he, .inr (2, [.int q0, .int q1, .int q2, .int q3, .int q4, .int q5, .int q6])), (ma, .inr (2, [.int q0, .int q1, .int q2, .int q3, .int q4, .int q5, .int q6]))] := hD
  refine W.widen (k := 0) (n := 0) (by omega) (by omega) ?_
  exact W.iret (v := q6) hx hb hr (fun t ht hW => ⟨⟨q6, [(h0, .inr (5, [.ref tl, .ref tr, .ref cu, .ref bk, .int 1])), (cu, .inr (0, [.ref tl, .ref tr, .ref he, .ref ma, .int 1, .int kd, .long cc0])), (he, .inr (2, [.int q0, .int q1, .int q2, .int q3, .int q4, .int q5, .int q6])), (ma, .inr (2, [.int q0, .int q1, .int q2, .int q3, .int q4, .int q5, .int q6]))], rfl, (by exact ⟨rfl, rfl⟩), by rw [ht]; exact hP, hD⟩, hS.F ht⟩) hS.2.2 dX5_back_32
set_option maxHeartbeats 1000000 in
set_option maxRecDepth 100000 in
theorem gJ_seek (l : Launch) (D : va_G) (cI cL cQ : ClassId) (h0 : Nat) (tl : Nat) (tr : Nat) (cu : Nat) (bk : Nat) (he : Nat) (ma : Nat) (hm : Int32) (kd : Int32) (cc0 : Int64) (p0 : Int32) (p1 : Int32) (p2 : Int32) (p3 : Int32) (p4 : Int32) (p5 : Int32) (p6 : Int32) (a : Nat) (n : Nat) (pl : Nat) (a2 : Nat) (n2 : Nat) (pl2 : Nat) (lk : Nat) (lv : Nat) (lo : Nat) (lp : Nat) (ll : Nat) (lf : Nat) (rk : Nat) (rv : Nat) (ro : Nat) (rp : Nat) (rl : Nat) (rf : Nat) (gk : Nat → Int32) (go : Nat → Int32) (gp : Nat → Int32) (gl : Nat → Int32) (hk : Nat → Int32) (ho_ : Nat → Int32) (hl_ : Nat → Int32) (x : Int32) (sz : Nat) (ha : a ≤ 400) (hn : n ≤ a) (hol : jord a go) (ha2 : a2 ≤ 400) (hn2 : n2 ≤ a2) (hor : jord a2 ho_) : Met l yX5_seek wsX5_seek ({ frames := 5, cells := 0, slots := 0, locals := 114 }) (jw_P D vwCl (jT cI cL cQ) cL cQ [.ref h0, .int x] [(h0, .inr (5, [.ref tl, .ref tr, .ref cu, .ref bk, .int 1])), (cu, .inr (0, [.ref tl, .ref tr, .ref he, .ref ma, .int hm, .int kd, .long cc0])), (he, .inr (2, [.int p0, .int p1, .int p2, .int p3, .int p4, .int p5, .int p6])), (tl, .inr (4, [.int (nI a), .ref lk, .ref lv, .ref lo, .ref lp, .ref ll, .ref lf, .int (nI n), .int (nI pl)])), (lk, .inl (cI, a, .inl gk)), (lo, .inl (cI, a, .inl go)), (lp, .inl (cI, a + 1, .inl gp)), (ll, .inl (cI, a + 1, .inl gl)), (tr, .inr (4, [.int (nI a2), .ref rk, .ref rv, .ref ro, .ref rp, .ref rl, .ref rf, .int (nI n2), .int (nI pl2)])), (rk, .inl (cI, a2, .inl hk)), (ro, .inl (cI, a2, .inl ho_)), (rl, .inl (cI, a2 + 1, .inl hl_))] sz) (va_Qi (fun (r : Int32) (u : va_W) => (∃ (y0 : Int32) (y1 : Int32) (y2 : Int32) (y3 : Int32) (y4 : Int32) (y5 : Int32) (y6 : Int32) (cc9 : Int64), r = 1 ∧ u = [(h0, .inr (5, [.ref tl, .ref tr, .ref cu, .ref bk, .int 1])), (cu, .inr (0, [.ref tl, .ref tr, .ref he, .ref ma, .int hm, .int kd, .long cc9])), (he, .inr (2, [.int y0, .int y1, .int y2, .int y3, .int y4, .int y5, .int y6])), (tl, .inr (4, [.int (nI a), .ref lk, .ref lv, .ref lo, .ref lp, .ref ll, .ref lf, .int (nI n), .int (nI pl)])), (lk, .inl (cI, a, .inl gk)), (lo, .inl (cI, a, .inl go)), (lp, .inl (cI, a + 1, .inl gp)), (ll, .inl (cI, a + 1, .inl gl)), (tr, .inr (4, [.int (nI a2), .ref rk, .ref rv, .ref ro, .ref rp, .ref rl, .ref rf, .int (nI n2), .int (nI pl2)])), (rk, .inl (cI, a2, .inl hk)), (ro, .inl (cI, a2, .inl ho_)), (rl, .inl (cI, a2 + 1, .inl hl_))]) ∨ (∃ (y0 : Int32) (y1 : Int32) (y2 : Int32) (y3 : Int32) (y4 : Int32) (y5 : Int32) (y6 : Int32) (cc9 : Int64), r = 0 ∧ u = [(h0, .inr (5, [.ref tl, .ref tr, .ref cu, .ref bk, .int 1])), (cu, .inr (0, [.ref tl, .ref tr, .ref he, .ref ma, .int hm, .int kd, .long cc9])), (he, .inr (2, [.int y0, .int y1, .int y2, .int y3, .int y4, .int y5, .int y6])), (tl, .inr (4, [.int (nI a), .ref lk, .ref lv, .ref lo, .ref lp, .ref ll, .ref lf, .int (nI n), .int (nI pl)])), (lk, .inl (cI, a, .inl gk)), (lo, .inl (cI, a, .inl go)), (lp, .inl (cI, a + 1, .inl gp)), (ll, .inl (cI, a + 1, .inl gl)), (tr, .inr (4, [.int (nI a2), .ref rk, .ref rv, .ref ro, .ref rp, .ref rl, .ref rf, .int (nI n2), .int (nI pl2)])), (rk, .inl (cI, a2, .inl hk)), (ro, .inl (cI, a2, .inl ho_)), (rl, .inl (cI, a2 + 1, .inl hl_))])) (jw_B D vwCl (va_A [(h0, .inr (5, [.ref tl, .ref tr, .ref cu, .ref bk, .int 1])), (cu, .inr (0, [.ref tl, .ref tr, .ref he, .ref ma, .int hm, .int kd, .long cc0])), (he, .inr (2, [.int p0, .int p1, .int p2, .int p3, .int p4, .int p5, .int p6])), (tl, .inr (4, [.int (nI a), .ref lk, .ref lv, .ref lo, .ref lp, .ref ll, .ref lf, .int (nI n), .int (nI pl)])), (lk, .inl (cI, a, .inl gk)), (lo, .inl (cI, a, .inl go)), (lp, .inl (cI, a + 1, .inl gp)), (ll, .inl (cI, a + 1, .inl gl)), (tr, .inr (4, [.int (nI a2), .ref rk, .ref rv, .ref ro, .ref rp, .ref rl, .ref rf, .int (nI n2), .int (nI pl2)])), (rk, .inl (cI, a2, .inl hk)), (ro, .inl (cI, a2, .inl ho_)), (rl, .inl (cI, a2 + 1, .inl hl_))] sz) (fun u : va_W => u)) (va_A [(h0, .inr (5, [.ref tl, .ref tr, .ref cu, .ref bk, .int 1])), (cu, .inr (0, [.ref tl, .ref tr, .ref he, .ref ma, .int hm, .int kd, .long cc0])), (he, .inr (2, [.int p0, .int p1, .int p2, .int p3, .int p4, .int p5, .int p6])), (tl, .inr (4, [.int (nI a), .ref lk, .ref lv, .ref lo, .ref lp, .ref ll, .ref lf, .int (nI n), .int (nI pl)])), (lk, .inl (cI, a, .inl gk)), (lo, .inl (cI, a, .inl go)), (lp, .inl (cI, a + 1, .inl gp)), (ll, .inl (cI, a + 1, .inl gl)), (tr, .inr (4, [.int (nI a2), .ref rk, .ref rv, .ref ro, .ref rp, .ref rl, .ref rf, .int (nI n2), .int (nI pl2)])), (rk, .inl (cI, a2, .inl hk)), (ro, .inl (cI, a2, .inl ho_)), (rl, .inl (cI, a2 + 1, .inl hl_))] sz)) 0 0 (va_A [(h0, .inr (5, [.ref tl, .ref tr, .ref cu, .ref bk, .int 1])), (cu, .inr (0, [.ref tl, .ref tr, .ref he, .ref ma, .int hm, .int kd, .long cc0])), (he, .inr (2, [.int p0, .int p1, .int p2, .int p3, .int p4, .int p5, .int p6])), (tl, .inr (4, [.int (nI a), .ref lk, .ref lv, .ref lo, .ref lp, .ref ll, .ref lf, .int (nI n), .int (nI pl)])), (lk, .inl (cI, a, .inl gk)), (lo, .inl (cI, a, .inl go)), (lp, .inl (cI, a + 1, .inl gp)), (ll, .inl (cI, a + 1, .inl gl)), (tr, .inr (4, [.int (nI a2), .ref rk, .ref rv, .ref ro, .ref rp, .ref rl, .ref rf, .int (nI n2), .int (nI pl2)])), (rk, .inl (cI, a2, .inl hk)), (ro, .inl (cI, a2, .inl ho_)), (rl, .inl (cI, a2 + 1, .inl hl_))] sz) := by
  refine Met.ofW (cc := cX5_seek) (maxL := 2) (ret := (some .boolean)) (by decide) rfl ?_
  intro p e s m args below meth c s₁ B hml hv
  obtain ⟨rfl, hsz, hP, hK, hN, hD0⟩ := hv
  have hx := B.exec
  have hb := B.bytes
  have hr := B.returns
  have hts := atoms_spec (ws := wsX5_seek) B.pre
  have hown : s.vm.findClass RX5 = some m.cls := findClass_of_methodNamed B.named
  have hlocks := B.notSynchronized
  subst hsz
  have hD := hD0.self (sz := s.heap.size)
  generalize hAe : va_A [(h0, .inr (5, [.ref tl, .ref tr, .ref cu, .ref bk, .int 1])), (cu, .inr (0, [.ref tl, .ref tr, .ref he, .ref ma, .int hm, .int kd, .long cc0])), (he, .inr (2, [.int p0, .int p1, .int p2, .int p3, .int p4, .int p5, .int p6])), (tl, .inr (4, [.int (nI a), .ref lk, .ref lv, .ref lo, .ref lp, .ref ll, .ref lf, .int (nI n), .int (nI pl)])), (lk, .inl (cI, a, .inl gk)), (lo, .inl (cI, a, .inl go)), (lp, .inl (cI, a + 1, .inl gp)), (ll, .inl (cI, a + 1, .inl gl)), (tr, .inr (4, [.int (nI a2), .ref rk, .ref rv, .ref ro, .ref rp, .ref rl, .ref rf, .int (nI n2), .int (nI pl2)])), (rk, .inl (cI, a2, .inl hk)), (ro, .inl (cI, a2, .inl ho_)), (rl, .inl (cI, a2 + 1, .inl hl_))] s.heap.size = A at hD ⊢
  have hA : ∀ q : Nat, s.heap.size ≤ q → A q := fun q h => by rw [← hAe]; exact Or.inr h
  have hS : va_S A s.heap s.heap [] := va_S.rf
  have hl := lv_entry ([.ref h0, .int x]) (n := 2) (Nat.le_of_ble_eq_true rfl)
  rw [lg_entry_eq]
  generalize (lg_sl ([.ref h0, .int x]) ++ List.replicate (2 - (lg_sl ([.ref h0, .int x])).length) Slot.unset).toArray = ls at hl ⊢
  have hl : lv_has ls 2 [(0, .ref h0), (1, .int x)] := hl
  refine lv_aload_n hx hb dX5_seek_0 rfl (lv_at hl 0 rfl) ?_
  refine va_get (D := D) (ci := 5) (v := .int 1) (C := RX5) (T := TX5) (N := 5) hx hb hts (by decide +kernel) hown hK hP 0 rfl rfl 4 (by decide) (hts (.fieldLink RX5 41 "JoinDesk" "prepared" "Z") (by decide +kernel)) (fun _ h9 => h9) rfl dX5_seek_1 ?_
  refine va_csv (va_Run.run (va_runS (As := [.int 1]) (rest := []) ⟨hx, hb, hml, hown, hts⟩ (gJ_requireState_ok l D cI cL cQ) (va_cwS 1 hts gX5_seek_X5_requireState rfl rfl rfl (by decide +kernel) ⟨Nat.le_of_ble_eq_true rfl, Nat.le_of_ble_eq_true rfl⟩) (jr_S hK hN hP [] rfl) rfl rfl hl.1 rfl (lv_room (Nat.le_of_ble_eq_true rfl)) dX5_seek_4 ⟨Nat.le_of_ble_eq_true rfl, Nat.le_of_ble_eq_true rfl⟩)) (fun f_1 => ?_)
  refine lv_aload_n hx hb dX5_seek_7 rfl (lv_at hl 0 rfl) ?_
  refine va_get (D := D) (ci := 5) (v := .ref cu) (C := RX5) (T := TX5) (N := 5) hx hb hts (by decide +kernel) hown hK hP 0 rfl rfl 2 (by decide) (hts (.fieldLink RX5 30 "JoinDesk" "cursor" "LJoinDesk$Cursor;") (by decide +kernel)) (fun _ h9 => h9) rfl dX5_seek_8 ?_
  refine lv_iload_n hx hb dX5_seek_11 rfl (lv_at hl 1 rfl) ?_
  refine jw_i (wr := [(h0, .inr (5, [.ref tl, .ref tr, .ref cu, .ref bk, .int 1]))]) (va_runV (As := [.int x]) (rest := []) ⟨hx, hb, hml, hown, hts⟩ (gC_goBefore l D cI cL cQ cu tl tr he ma hm kd cc0 a n pl a2 n2 pl2 lk lv lo lp ll lf rk rv ro rp rl rf gk go gp gl hk ho_ hl_ p0 p1 p2 p3 p4 p5 p6 x _ (by first | assumption | decide | omega) (by first | assumption | decide | omega) (by first | assumption | decide | omega) (by first | assumption | decide | omega) (by first | assumption | decide | omega) (by first | assumption | decide | omega)) (cwV 1 hts gX5_seek_X0_goBefore rfl rfl rfl (by decide +kernel) ⟨Nat.le_of_ble_eq_true rfl, Nat.le_of_ble_eq_true rfl⟩) (jw_V hK hN hP hD [1, 2, 3, 4, 5, 6, 7, 8, 9, 10, 11] (by decide) rfl 0 1 rfl rfl rfl) rfl rfl hl.1 rfl (lv_room (Nat.le_of_ble_eq_true rfl)) dX5_seek_12 ⟨Nat.le_of_ble_eq_true rfl, Nat.le_of_ble_eq_true rfl⟩) hP hD hS hA [1, 2, 3, 4, 5, 6, 7, 8, 9, 10, 11] [0] rfl rfl (by decide) (by decide) (fun r u H locs f_2 hP hD hS => ?_)
  rcases f_2 with ⟨y0_3, y1_4, y2_5, y3_6, y4_7, y5_8, y6_9, cc9_10, rfl, rfl⟩ | ⟨y0_11, y1_12, y2_13, y3_14, y4_15, y5_16, y6_17, cc9_18, rfl, rfl⟩
  · have hP : va_P D vwCl [(h0, .inr (5, [.ref tl, .ref tr, .ref cu, .ref bk, .int 1])), (cu, .inr (0, [.ref tl, .ref tr, .ref he, .ref ma, .int hm, .int kd, .long cc9_10])), (he, .inr (2, [.int y0_3, .int y1_4, .int y2_5, .int y3_6, .int y4_7, .int y5_8, .int y6_9])), (tl, .inr (4, [.int (nI a), .ref lk, .ref lv, .ref lo, .ref lp, .ref ll, .ref lf, .int (nI n), .int (nI pl)])), (lk, .inl (cI, a, .inl gk)), (lo, .inl (cI, a, .inl go)), (lp, .inl (cI, a + 1, .inl gp)), (ll, .inl (cI, a + 1, .inl gl)), (tr, .inr (4, [.int (nI a2), .ref rk, .ref rv, .ref ro, .ref rp, .ref rl, .ref rf, .int (nI n2), .int (nI pl2)])), (rk, .inl (cI, a2, .inl hk)), (ro, .inl (cI, a2, .inl ho_)), (rl, .inl (cI, a2 + 1, .inl hl_))] H := hP
    have hD : va_D A [(h0, .inr (5, [.ref tl, .ref tr, .ref cu, .ref bk, .int 1])), (cu, .inr (0, [.ref tl, .ref tr, .ref he, .ref ma, .int hm, .int kd, .long cc9_10])), (he, .inr (2, [.int y0_3, .int y1_4, .int y2_5, .int y3_6, .int y4_7, .int y5_8, .int y6_9])), (tl, .inr (4, [.int (nI a), .ref lk, .ref lv, .ref lo, .ref lp, .ref ll, .ref lf, .int (nI n), .int (nI pl)])), (lk, .inl (cI, a, .inl gk)), (lo, .inl (cI, a, .inl go)), (lp, .inl (cI, a + 1, .inl gp)), (ll, .inl (cI, a + 1, .inl gl)), (tr, .inr (4, [.int (nI a2), .ref rk, .ref rv, .ref ro, .ref rp, .ref rl, .ref rf, .int (nI n2), .int (nI pl2)])), (rk, .inl (cI, a2, .inl hk)), (ro, .inl (cI, a2, .inl ho_)), (rl, .inl (cI, a2 + 1, .inl hl_))] := hD
    refine W.widen (k := 0) (n := 0) (by omega) (by omega) ?_
    exact W.zret (v := 1) (ty := .boolean) hx hb hr rfl (fun t ht hW => ⟨⟨1, [(h0, .inr (5, [.ref tl, .ref tr, .ref cu, .ref bk, .int 1])), (cu, .inr (0, [.ref tl, .ref tr, .ref he, .ref ma, .int hm, .int kd, .long cc9_10])), (he, .inr (2, [.int y0_3, .int y1_4, .int y2_5, .int y3_6, .int y4_7, .int y5_8, .int y6_9])), (tl, .inr (4, [.int (nI a), .ref lk, .ref lv, .ref lo, .ref lp, .ref ll, .ref lf, .int (nI n), .int (nI pl)])), (lk, .inl (cI, a, .inl gk)), (lo, .inl (cI, a, .inl go)), (lp, .inl (cI, a + 1, .inl gp)), (ll, .inl (cI, a + 1, .inl gl)), (tr, .inr (4, [.int (nI a2), .ref rk, .ref rv, .ref ro, .ref rp, .ref rl, .ref rf, .int (nI n2), .int (nI pl2)])), (rk, .inl (cI, a2, .inl hk)), (ro, .inl (cI, a2, .inl ho_)), (rl, .inl (cI, a2 + 1, .inl hl_))], rfl, (by exact (Or.inl ⟨_, _, _, _, _, _, _, _, rfl, rfl⟩)), by rw [ht]; exact hP, hD⟩, hS.F ht⟩) hS.2.2 dX5_seek_15
  · have hP : va_P D vwCl [(h0, .inr (5, [.ref tl, .ref tr, .ref cu, .ref bk, .int 1])), (cu, .inr (0, [.ref tl, .ref tr, .ref he, .ref ma, .int hm, .int kd, .long cc9_18])), (he, .inr (2, [.int y0_11, .int y1_12, .int y2_13, .int y3_14, .int y4_15, .int y5_16, .int y6_17])), (tl, .inr (4, [.int (nI a), .ref lk, .ref lv, .ref lo, .ref lp, .ref ll, .ref lf, .int (nI n), .int (nI pl)])), (lk, .inl (cI, a, .inl gk)), (lo, .inl (cI, a, .inl go)), (lp, .inl (cI, a + 1, .inl gp)), (ll, .inl (cI, a + 1, .inl gl)), (tr, .inr (4, [.int (nI a2), .ref rk, .ref rv, .ref ro, .ref rp, .ref rl, .ref rf, .int (nI n2), .int (nI pl2)])), (rk, .inl (cI, a2, .inl hk)), (ro, .inl (cI, a2, .inl ho_)), (rl, .inl (cI, a2 + 1, .inl hl_))] H := hP
    have hD : va_D A [(h0, .inr (5, [.ref tl, .ref tr, .ref cu, .ref bk, .int 1])), (cu, .inr (0, [.ref tl, .ref tr, .ref he, .ref ma, .int hm, .int kd, .long cc9_18])), (he, .inr (2, [.int y0_11, .int y1_12, .int y2_13, .int y3_14, .int y4_15, .int y5_16, .int y6_17])), (tl, .inr (4, [.int (nI a), .ref lk, .ref lv, .ref lo, .ref lp, .ref ll, .ref lf, .int (nI n), .int (nI pl)])), (lk, .inl (cI, a, .inl gk)), (lo, .inl (cI, a, .inl go)), (lp, .inl (cI, a + 1, .inl gp)), (ll, .inl (cI, a + 1, .inl gl)), (tr, .inr (4, [.int (nI a2), .ref rk, .ref rv, .ref ro, .ref rp, .ref rl, .ref rf, .int (nI n2), .int (nI pl2)])), (rk, .inl (cI, a2, .inl hk)), (ro, .inl (cI, a2, .inl ho_)), (rl, .inl (cI, a2 + 1, .inl hl_))] := hD
    refine W.widen (k := 0) (n := 0) (by omega) (by omega) ?_
    exact W.zret (v := 0) (ty := .boolean) hx hb hr rfl (fun t ht hW => ⟨⟨0, [(h0, .inr (5, [.ref tl, .ref tr, .ref cu, .ref bk, .int 1])), (cu, .inr (0, [.ref tl, .ref tr, .ref he, .ref ma, .int hm, .int kd, .long cc9_18])), (he, .inr (2, [.int y0_11, .int y1_12, .int y2_13, .int y3_14, .int y4_15, .int y5_16, .int y6_17])), (tl, .inr (4, [.int (nI a), .ref lk, .ref lv, .ref lo, .ref lp, .ref ll, .ref lf, .int (nI n), .int (nI pl)])), (lk, .inl (cI, a, .inl gk)), (lo, .inl (cI, a, .inl go)), (lp, .inl (cI, a + 1, .inl gp)), (ll, .inl (cI, a + 1, .inl gl)), (tr, .inr (4, [.int (nI a2), .ref rk, .ref rv, .ref ro, .ref rp, .ref rl, .ref rf, .int (nI n2), .int (nI pl2)])), (rk, .inl (cI, a2, .inl hk)), (ro, .inl (cI, a2, .inl ho_)), (rl, .inl (cI, a2 + 1, .inl hl_))], rfl, (by exact (Or.inr (⟨_, _, _, _, _, _, _, _, rfl, rfl⟩))), by rw [ht]; exact hP, hD⟩, hS.F ht⟩) hS.2.2 dX5_seek_15
set_option maxHeartbeats 1000000 in
set_option maxRecDepth 100000 in
theorem gJ_rewind (l : Launch) (D : va_G) (cI cL cQ : ClassId) (h0 : Nat) (tl : Nat) (tr : Nat) (cu : Nat) (bk : Nat) (he : Nat) (ma : Nat) (hm : Int32) (kd : Int32) (cc0 : Int64) (p0 : Int32) (p1 : Int32) (p2 : Int32) (p3 : Int32) (p4 : Int32) (p5 : Int32) (p6 : Int32) (sz : Nat) : Met l yX5_rewind wsX5_rewind ({ frames := 2, cells := 0, slots := 0, locals := 43 }) (jw_P D vwCl (jT cI cL cQ) cL cQ [.ref h0] [(h0, .inr (5, [.ref tl, .ref tr, .ref cu, .ref bk, .int 1])), (cu, .inr (0, [.ref tl, .ref tr, .ref he, .ref ma, .int hm, .int kd, .long cc0])), (he, .inr (2, [.int p0, .int p1, .int p2, .int p3, .int p4, .int p5, .int p6]))] sz) (va_Qv (fun u : va_W => u = [(h0, .inr (5, [.ref tl, .ref tr, .ref cu, .ref bk, .int 1])), (cu, .inr (0, [.ref tl, .ref tr, .ref he, .ref ma, .int hm, .int kd, .long 0])), (he, .inr (2, [.int 0, .int 0, .int 0, .int 0, .int (-1), .int (-1), .int 0]))]) (jw_B D vwCl (va_A [(h0, .inr (5, [.ref tl, .ref tr, .ref cu, .ref bk, .int 1])), (cu, .inr (0, [.ref tl, .ref tr, .ref he, .ref ma, .int hm, .int kd, .long cc0])), (he, .inr (2, [.int p0, .int p1, .int p2, .int p3, .int p4, .int p5, .int p6]))] sz) (fun u : va_W => u)) (va_A [(h0, .inr (5, [.ref tl, .ref tr, .ref cu, .ref bk, .int 1])), (cu, .inr (0, [.ref tl, .ref tr, .ref he, .ref ma, .int hm, .int kd, .long cc0])), (he, .inr (2, [.int p0, .int p1, .int p2, .int p3, .int p4, .int p5, .int p6]))] sz)) 0 0 (va_A [(h0, .inr (5, [.ref tl, .ref tr, .ref cu, .ref bk, .int 1])), (cu, .inr (0, [.ref tl, .ref tr, .ref he, .ref ma, .int hm, .int kd, .long cc0])), (he, .inr (2, [.int p0, .int p1, .int p2, .int p3, .int p4, .int p5, .int p6]))] sz) := by
  refine Met.ofW (cc := cX5_rewind) (maxL := 1) (ret := none) (by decide) rfl ?_
  intro p e s m args below meth c s₁ B hml hv
  obtain ⟨rfl, hsz, hP, hK, hN, hD0⟩ := hv
  have hx := B.exec
  have hb := B.bytes
  have hr := B.returns
  have hts := atoms_spec (ws := wsX5_rewind) B.pre
  have hown : s.vm.findClass RX5 = some m.cls := findClass_of_methodNamed B.named
  have hlocks := B.notSynchronized
  subst hsz
  have hD := hD0.self (sz := s.heap.size)
  generalize hAe : va_A [(h0, .inr (5, [.ref tl, .ref tr, .ref cu, .ref bk, .int 1])), (cu, .inr (0, [.ref tl, .ref tr, .ref he, .ref ma, .int hm, .int kd, .long cc0])), (he, .inr (2, [.int p0, .int p1, .int p2, .int p3, .int p4, .int p5, .int p6]))] s.heap.size = A at hD ⊢
  have hA : ∀ q : Nat, s.heap.size ≤ q → A q := fun q h => by rw [← hAe]; exact Or.inr h
  have hS : va_S A s.heap s.heap [] := va_S.rf
  have hl := lv_entry ([.ref h0]) (n := 1) (Nat.le_of_ble_eq_true rfl)
  rw [lg_entry_eq]
  generalize (lg_sl ([.ref h0]) ++ List.replicate (1 - (lg_sl ([.ref h0])).length) Slot.unset).toArray = ls at hl ⊢
  have hl : lv_has ls 1 [(0, .ref h0)] := hl
  refine lv_aload_n hx hb dX5_rewind_0 rfl (lv_at hl 0 rfl) ?_
  refine va_get (D := D) (ci := 5) (v := .int 1) (C := RX5) (T := TX5) (N := 5) hx hb hts (by decide +kernel) hown hK hP 0 rfl rfl 4 (by decide) (hts (.fieldLink RX5 41 "JoinDesk" "prepared" "Z") (by decide +kernel)) (fun _ h9 => h9) rfl dX5_rewind_1 ?_
  refine va_csv (va_Run.run (va_runS (As := [.int 1]) (rest := []) ⟨hx, hb, hml, hown, hts⟩ (gJ_requireState_ok l D cI cL cQ) (va_cwS 1 hts gX5_rewind_X5_requireState rfl rfl rfl (by decide +kernel) ⟨Nat.le_of_ble_eq_true rfl, Nat.le_of_ble_eq_true rfl⟩) (jr_S hK hN hP [] rfl) rfl rfl hl.1 rfl (lv_room (Nat.le_of_ble_eq_true rfl)) dX5_rewind_4 ⟨Nat.le_of_ble_eq_true rfl, Nat.le_of_ble_eq_true rfl⟩)) (fun f_1 => ?_)
  refine lv_aload_n hx hb dX5_rewind_7 rfl (lv_at hl 0 rfl) ?_
  refine va_get (D := D) (ci := 5) (v := .ref cu) (C := RX5) (T := TX5) (N := 5) hx hb hts (by decide +kernel) hown hK hP 0 rfl rfl 2 (by decide) (hts (.fieldLink RX5 30 "JoinDesk" "cursor" "LJoinDesk$Cursor;") (by decide +kernel)) (fun _ h9 => h9) rfl dX5_rewind_8 ?_
  refine jw_v (wr := [(h0, .inr (5, [.ref tl, .ref tr, .ref cu, .ref bk, .int 1]))]) (va_runV (As := []) (rest := []) ⟨hx, hb, hml, hown, hts⟩ (gC_restart l D cI cL cQ cu tl tr he ma hm kd cc0 p0 p1 p2 p3 p4 p5 p6 _) (cwV 0 hts gX5_rewind_X0_restart rfl rfl rfl (by decide +kernel) ⟨Nat.le_of_ble_eq_true rfl, Nat.le_of_ble_eq_true rfl⟩) (jw_V hK hN hP hD [1, 2] (by decide) rfl 0 1 rfl rfl rfl) rfl rfl hl.1 rfl (lv_room (Nat.le_of_ble_eq_true rfl)) dX5_rewind_11 ⟨Nat.le_of_ble_eq_true rfl, Nat.le_of_ble_eq_true rfl⟩) hP hD hS hA [1, 2] [0] rfl rfl (by decide) (by decide) (fun u H locs f_2 hP hD hS => ?_)
  obtain rfl := f_2
  have hP : va_P D vwCl [(h0, .inr (5, [.ref tl, .ref tr, .ref cu, .ref bk, .int 1])), (cu, .inr (0, [.ref tl, .ref tr, .ref he, .ref ma, .int hm, .int kd, .long 0])), (he, .inr (2, [.int 0, .int 0, .int 0, .int 0, .int (-1), .int (-1), .int 0]))] H := hP
  have hD : va_D A [(h0, .inr (5, [.ref tl, .ref tr, .ref cu, .ref bk, .int 1])), (cu, .inr (0, [.ref tl, .ref tr, .ref he, .ref ma, .int hm, .int kd, .long 0])), (he, .inr (2, [.int 0, .int 0, .int 0, .int 0, .int (-1), .int (-1), .int 0]))] := hD
  refine W.widen (k := 0) (n := 0) (by omega) (by omega) ?_
  exact W.vret hx hb hr (fun t ht hW => ⟨⟨[(h0, .inr (5, [.ref tl, .ref tr, .ref cu, .ref bk, .int 1])), (cu, .inr (0, [.ref tl, .ref tr, .ref he, .ref ma, .int hm, .int kd, .long 0])), (he, .inr (2, [.int 0, .int 0, .int 0, .int 0, .int (-1), .int (-1), .int 0]))], rfl, (by exact rfl), by rw [ht]; exact hP, hD⟩, hS.F ht⟩) hS.2.2 dX5_rewind_14
set_option maxHeartbeats 1000000 in
set_option maxRecDepth 100000 in
theorem gJ_count (l : Launch) (D : va_G) (cI cL cQ : ClassId) (h0 : Nat) (tl : Nat) (tr : Nat) (cu : Nat) (bk : Nat) (a : Nat) (n : Nat) (pl : Nat) (a2 : Nat) (n2 : Nat) (pl2 : Nat) (lk : Nat) (lv : Nat) (lo : Nat) (lp : Nat) (ll : Nat) (lf : Nat) (rk : Nat) (rv : Nat) (ro : Nat) (rp : Nat) (rl : Nat) (rf : Nat) (gp : Nat → Int32) (gl : Nat → Int32) (hl_ : Nat → Int32) (x : Int32) (ha : a ≤ 400) (hn : n ≤ a) (ha2 : a2 ≤ 400) (hn2 : n2 ≤ a2) (h1 : ¬ x < 0) (h2 : ¬ 4 ≤ x) : Met l yX5_count wsX5_count ({ frames := 2, cells := 0, slots := 0, locals := 46 }) (jr_P D vwCl (jT cI cL cQ) cL cQ [.ref h0, .int x] [(h0, .inr (5, [.ref tl, .ref tr, .ref cu, .ref bk, .int 1])), (tl, .inr (4, [.int (nI a), .ref lk, .ref lv, .ref lo, .ref lp, .ref ll, .ref lf, .int (nI n), .int (nI pl)])), (lp, .inl (cI, a + 1, .inl gp)), (ll, .inl (cI, a + 1, .inl gl)), (tr, .inr (4, [.int (nI a2), .ref rk, .ref rv, .ref ro, .ref rp, .ref rl, .ref rf, .int (nI n2), .int (nI pl2)])), (rl, .inl (cI, a2 + 1, .inl hl_))]) (vp_Sl (fun r : Int64 => r = (jpb n n2 gp gl hl_ (nI n) (nI n2) x).toInt64)) 0 0 (fun _ => False) := by
  refine Met.ofW (cc := cX5_count) (maxL := 2) (ret := (some .long)) (by decide) rfl ?_
  intro p e s m args below meth c s₁ B hml hv
  obtain ⟨rfl, hP, hK, hN⟩ := hv
  have hx := B.exec
  have hb := B.bytes
  have hr := B.returns
  have hts := atoms_spec (ws := wsX5_count) B.pre
  have hown : s.vm.findClass RX5 = some m.cls := findClass_of_methodNamed B.named
  have hlocks := B.notSynchronized
  have hl := lv_entry ([.ref h0, .int x]) (n := 2) (Nat.le_of_ble_eq_true rfl)
  rw [lg_entry_eq]
  generalize (lg_sl ([.ref h0, .int x]) ++ List.replicate (2 - (lg_sl ([.ref h0, .int x])).length) Slot.unset).toArray = ls at hl ⊢
  have hl : lv_has ls 2 [(0, .ref h0), (1, .int x)] := hl
  refine lv_iload_n hx hb dX5_count_0 rfl (lv_at hl 1 rfl) ?_
  refine lv_iconst (v := 4) hx hb dX5_count_1 (by decide) ?_
  refine vp_callSi (va_Run.run (va_runS (As := [.int x, .int 4]) (rest := []) ⟨hx, hb, hml, hown, hts⟩ (gJ_isBelow l D cI cL cQ x 4) (va_cwS 2 hts gX5_count_X5_isBelow rfl rfl rfl (by decide +kernel) ⟨Nat.le_of_ble_eq_true rfl, Nat.le_of_ble_eq_true rfl⟩) (jr_S hK hN hP [] rfl) rfl rfl hl.1 rfl (lv_room (Nat.le_of_ble_eq_true rfl)) dX5_count_2 ⟨Nat.le_of_ble_eq_true rfl, Nat.le_of_ble_eq_true rfl⟩)) (fun r f_1 => ?_)
  rcases f_1 with ⟨rfl, f_2, f_3⟩ | ⟨rfl, f_4⟩
  · refine va_csv (va_Run.run (va_runS (As := [.int 1]) (rest := []) ⟨hx, hb, hml, hown, hts⟩ (gJ_requireArgument_ok l D cI cL cQ) (va_cwS 1 hts gX5_count_X5_requireArgument rfl rfl rfl (by decide +kernel) ⟨Nat.le_of_ble_eq_true rfl, Nat.le_of_ble_eq_true rfl⟩) (jr_S hK hN hP [] rfl) rfl rfl hl.1 rfl (lv_room (Nat.le_of_ble_eq_true rfl)) dX5_count_5 ⟨Nat.le_of_ble_eq_true rfl, Nat.le_of_ble_eq_true rfl⟩)) (fun f_5 => ?_)
    refine lv_aload_n hx hb dX5_count_8 rfl (lv_at hl 0 rfl) ?_
    refine va_get (D := D) (ci := 5) (v := .int 1) (C := RX5) (T := TX5) (N := 5) hx hb hts (by decide +kernel) hown hK hP 0 rfl rfl 4 (by decide) (hts (.fieldLink RX5 41 "JoinDesk" "prepared" "Z") (by decide +kernel)) (fun _ h9 => h9) rfl dX5_count_9 ?_
    refine va_csv (va_Run.run (va_runS (As := [.int 1]) (rest := []) ⟨hx, hb, hml, hown, hts⟩ (gJ_requireState_ok l D cI cL cQ) (va_cwS 1 hts gX5_count_X5_requireState rfl rfl rfl (by decide +kernel) ⟨Nat.le_of_ble_eq_true rfl, Nat.le_of_ble_eq_true rfl⟩) (jr_S hK hN hP [] rfl) rfl rfl hl.1 rfl (lv_room (Nat.le_of_ble_eq_true rfl)) dX5_count_12 ⟨Nat.le_of_ble_eq_true rfl, Nat.le_of_ble_eq_true rfl⟩)) (fun f_6 => ?_)
    refine lv_aload_n hx hb dX5_count_15 rfl (lv_at hl 0 rfl) ?_
    refine va_get (D := D) (ci := 5) (v := .ref tl) (C := RX5) (T := TX5) (N := 5) hx hb hts (by decide +kernel) hown hK hP 0 rfl rfl 0 (by decide) (hts (.fieldLink RX5 18 "JoinDesk" "left" "LJoinDesk$Table;") (by decide +kernel)) (fun _ h9 => h9) rfl dX5_count_16 ?_
    refine lv_aload_n hx hb dX5_count_19 rfl (lv_at hl 0 rfl) ?_
    refine va_get (D := D) (ci := 5) (v := .ref tr) (C := RX5) (T := TX5) (N := 5) hx hb hts (by decide +kernel) hown hK hP 0 rfl rfl 1 (by decide) (hts (.fieldLink RX5 22 "JoinDesk" "right" "LJoinDesk$Table;") (by decide +kernel)) (fun _ h9 => h9) rfl dX5_count_20 ?_
    refine lv_aload_n hx hb dX5_count_23 rfl (lv_at hl 0 rfl) ?_
    refine va_get (D := D) (ci := 5) (v := .ref tl) (C := RX5) (T := TX5) (N := 5) hx hb hts (by decide +kernel) hown hK hP 0 rfl rfl 0 (by decide) (hts (.fieldLink RX5 18 "JoinDesk" "left" "LJoinDesk$Table;") (by decide +kernel)) (fun _ h9 => h9) rfl dX5_count_24 ?_
    refine vp_callSi (va_Run.run (va_runV (As := []) (rest := [.ref tr, .ref tl]) ⟨hx, hb, hml, hown, hts⟩ (gT_size l D cI cL cQ tl a n pl lk lv lo lp ll lf) (cwV 0 hts gX5_count_X4_size rfl rfl rfl (by decide +kernel) ⟨Nat.le_of_ble_eq_true rfl, Nat.le_of_ble_eq_true rfl⟩) (jr_V hK hN hP [1] rfl 4 1 rfl rfl rfl) rfl rfl hl.1 rfl (lv_room (Nat.le_of_ble_eq_true rfl)) dX5_count_27 ⟨Nat.le_of_ble_eq_true rfl, Nat.le_of_ble_eq_true rfl⟩)) (fun r f_7 => ?_)
    obtain rfl := f_7
    refine lv_aload_n hx hb dX5_count_30 rfl (lv_at hl 0 rfl) ?_
    refine va_get (D := D) (ci := 5) (v := .ref tr) (C := RX5) (T := TX5) (N := 5) hx hb hts (by decide +kernel) hown hK hP 0 rfl rfl 1 (by decide) (hts (.fieldLink RX5 22 "JoinDesk" "right" "LJoinDesk$Table;") (by decide +kernel)) (fun _ h9 => h9) rfl dX5_count_31 ?_
    refine vp_callSi (va_Run.run (va_runV (As := []) (rest := [.int (nI n), .ref tr, .ref tl]) ⟨hx, hb, hml, hown, hts⟩ (gT_size l D cI cL cQ tr a2 n2 pl2 rk rv ro rp rl rf) (cwV 0 hts gX5_count_X4_size rfl rfl rfl (by decide +kernel) ⟨Nat.le_of_ble_eq_true rfl, Nat.le_of_ble_eq_true rfl⟩) (jr_V hK hN hP [4] rfl 4 4 rfl rfl rfl) rfl rfl hl.1 rfl (lv_room (Nat.le_of_ble_eq_true rfl)) dX5_count_34 ⟨Nat.le_of_ble_eq_true rfl, Nat.le_of_ble_eq_true rfl⟩)) (fun r f_8 => ?_)
    obtain rfl := f_8
    refine lv_iload_n hx hb dX5_count_37 rfl (lv_at hl 1 rfl) ?_
    refine vp_callSi (va_Run.run (va_runS (As := [.ref tl, .ref tr, .int (nI n), .int (nI n2), .int x]) (rest := []) ⟨hx, hb, hml, hown, hts⟩ (gJ_pairsBefore l D cI cL cQ tl a n pl tr a2 n2 pl2 lk lv lo lp ll lf rk rv ro rp rl rf gp gl hl_ (nI n) (nI n2) x (by first | assumption | decide | omega) (by first | assumption | decide | omega) (by first | assumption | decide | omega) (by first | assumption | decide | omega)) (va_cwS 5 hts gX5_count_X5_pairsBefore rfl rfl rfl (by decide +kernel) ⟨Nat.le_of_ble_eq_true rfl, Nat.le_of_ble_eq_true rfl⟩) (jr_S hK hN hP [1, 2, 3, 4, 5] rfl) rfl rfl hl.1 rfl (lv_room (Nat.le_of_ble_eq_true rfl)) dX5_count_38 ⟨Nat.le_of_ble_eq_true rfl, Nat.le_of_ble_eq_true rfl⟩)) (fun r f_9 => ?_)
    obtain rfl := f_9
    refine lv_i2l (v := (jpb n n2 gp gl hl_ (nI n) (nI n2) x).toInt64) hx hb dX5_count_41 (by first | rfl | decide) ?_
    exact W.lret (v := (jpb n n2 gp gl hl_ (nI n) (nI n2) x).toInt64) hx hb hr (fun t ht hW => ⟨((jpb n n2 gp gl hl_ (nI n) (nI n2) x).toInt64), rfl, rfl, ht⟩) (fun _ h => nomatch h) dX5_count_42
  · exact False.elim (f_4.elim h1 h2)
set_option maxHeartbeats 1000000 in
set_option maxRecDepth 100000 in
theorem gJ_count_a (l : Launch) (hnt : l.stackTraces = false) (D : va_G) (cI cL cQ : ClassId) (h0 : Nat) (tl : Nat) (tr : Nat) (cu : Nat) (bk : Nat) (pr : Int32) (x : Int32) (h1 : x < 0 ∨ 4 ≤ x) : vx_Met l yX5_count wsX5_count ({ frames := 7, cells := 1, slots := 6, locals := 102 }) (jt_P D vwCl (jT cI cL cQ) cL cQ [.ref h0, .int x] [(h0, .inr (5, [.ref tl, .ref tr, .ref cu, .ref bk, .int pr]))]) (fun _ _ _ _ => False) (jx_X "java/lang/IllegalArgumentException") 1 6 (fun _ => False) := by
  refine vx_ofW (cc := cX5_count) (maxL := 2) (ret := (some .long)) (by decide) rfl ?_
  intro p e s m args below meth c s₁ B hml hxt hv
  obtain ⟨rfl, hP, hK, hN, hZ⟩ := hv
  have hx := B.exec
  have hb := B.bytes
  have hr := B.returns
  have hts := atoms_spec (ws := wsX5_count) B.pre
  have hown : s.vm.findClass RX5 = some m.cls := findClass_of_methodNamed B.named
  have hlocks := B.notSynchronized
  have hl := lv_entry ([.ref h0, .int x]) (n := 2) (Nat.le_of_ble_eq_true rfl)
  rw [lg_entry_eq]
  generalize (lg_sl ([.ref h0, .int x]) ++ List.replicate (2 - (lg_sl ([.ref h0, .int x])).length) Slot.unset).toArray = ls at hl ⊢
  have hl : lv_has ls 2 [(0, .ref h0), (1, .int x)] := hl
  refine lv_iload_n hx hb dX5_count_0 rfl (lv_at hl 1 rfl) ?_
  refine lv_iconst (v := 4) hx hb dX5_count_1 (by decide) ?_
  refine vp_callSi (va_Run.run (va_runS (As := [.int x, .int 4]) (rest := []) ⟨hx, hb, hml, hown, hts⟩ (gJ_isBelow l D cI cL cQ x 4) (va_cwS 2 hts gX5_count_X5_isBelow rfl rfl rfl (by decide +kernel) ⟨Nat.le_of_ble_eq_true rfl, Nat.le_of_ble_eq_true rfl⟩) (jr_S hK hN hP [] rfl) rfl rfl hl.1 rfl (lv_room (Nat.le_of_ble_eq_true rfl)) dX5_count_2 ⟨Nat.le_of_ble_eq_true rfl, Nat.le_of_ble_eq_true rfl⟩)) (fun r f_1 => ?_)
  rcases f_1 with ⟨rfl, f_2, f_3⟩ | ⟨rfl, f_4⟩
  · exact False.elim (h1.elim f_2 f_3)
  · refine jx_thr (vx_runS (As := [.int 0]) (rest := []) ⟨hx, hb, hml, hown, hts⟩ (cJ_requireArgument_t l hnt D cI cL cQ) (va_cwS 1 hts gX5_count_X5_requireArgument rfl rfl rfl (by decide +kernel) ⟨Nat.le_of_ble_eq_true rfl, Nat.le_of_ble_eq_true rfl⟩) (jt_S hK hN hZ hP [] rfl) rfl rfl hl.1 rfl (lv_room (Nat.le_of_ble_eq_true rfl)) dX5_count_5 ⟨Nat.le_of_ble_eq_true rfl, Nat.le_of_ble_eq_true rfl⟩) (fun ce q9 H1 hz hk hce hcv hcl => ?_)
    exact jx_out hxt hlocks hz hk hce hcv hcl (Nat.le_of_ble_eq_true rfl) (Nat.le_of_ble_eq_true rfl)
set_option maxHeartbeats 1000000 in
set_option maxRecDepth 100000 in
theorem gJ_count_s (l : Launch) (hnt : l.stackTraces = false) (D : va_G) (cI cL cQ : ClassId) (h0 : Nat) (tl : Nat) (tr : Nat) (cu : Nat) (bk : Nat) (x : Int32) (h1 : ¬ x < 0) (h2 : ¬ 4 ≤ x) : vx_Met l yX5_count wsX5_count ({ frames := 7, cells := 1, slots := 6, locals := 102 }) (jt_P D vwCl (jT cI cL cQ) cL cQ [.ref h0, .int x] [(h0, .inr (5, [.ref tl, .ref tr, .ref cu, .ref bk, .int 0]))]) (fun _ _ _ _ => False) (jx_X "java/lang/IllegalStateException") 1 6 (fun _ => False) := by
  refine vx_ofW (cc := cX5_count) (maxL := 2) (ret := (some .long)) (by decide) rfl ?_
  intro p e s m args below meth c s₁ B hml hxt hv
  obtain ⟨rfl, hP, hK, hN, hZ⟩ := hv
  have hx := B.exec
  have hb := B.bytes
  have hr := B.returns
  have hts := atoms_spec (ws := wsX5_count) B.pre
  have hown : s.vm.findClass RX5 = some m.cls := findClass_of_methodNamed B.named
  have hlocks := B.notSynchronized
  have hl := lv_entry ([.ref h0, .int x]) (n := 2) (Nat.le_of_ble_eq_true rfl)
  rw [lg_entry_eq]
  generalize (lg_sl ([.ref h0, .int x]) ++ List.replicate (2 - (lg_sl ([.ref h0, .int x])).length) Slot.unset).toArray = ls at hl ⊢
  have hl : lv_has ls 2 [(0, .ref h0), (1, .int x)] := hl
  refine lv_iload_n hx hb dX5_count_0 rfl (lv_at hl 1 rfl) ?_
  refine lv_iconst (v := 4) hx hb dX5_count_1 (by decide) ?_
  refine vp_callSi (va_Run.run (va_runS (As := [.int x, .int 4]) (rest := []) ⟨hx, hb, hml, hown, hts⟩ (gJ_isBelow l D cI cL cQ x 4) (va_cwS 2 hts gX5_count_X5_isBelow rfl rfl rfl (by decide +kernel) ⟨Nat.le_of_ble_eq_true rfl, Nat.le_of_ble_eq_true rfl⟩) (jr_S hK hN hP [] rfl) rfl rfl hl.1 rfl (lv_room (Nat.le_of_ble_eq_true rfl)) dX5_count_2 ⟨Nat.le_of_ble_eq_true rfl, Nat.le_of_ble_eq_true rfl⟩)) (fun r f_1 => ?_)
  rcases f_1 with ⟨rfl, f_2, f_3⟩ | ⟨rfl, f_4⟩
  · refine va_csv (va_Run.run (va_runS (As := [.int 1]) (rest := []) ⟨hx, hb, hml, hown, hts⟩ (gJ_requireArgument_ok l D cI cL cQ) (va_cwS 1 hts gX5_count_X5_requireArgument rfl rfl rfl (by decide +kernel) ⟨Nat.le_of_ble_eq_true rfl, Nat.le_of_ble_eq_true rfl⟩) (jr_S hK hN hP [] rfl) rfl rfl hl.1 rfl (lv_room (Nat.le_of_ble_eq_true rfl)) dX5_count_5 ⟨Nat.le_of_ble_eq_true rfl, Nat.le_of_ble_eq_true rfl⟩)) (fun f_5 => ?_)
    refine lv_aload_n hx hb dX5_count_8 rfl (lv_at hl 0 rfl) ?_
    refine va_get (D := D) (ci := 5) (v := .int 0) (C := RX5) (T := TX5) (N := 5) hx hb hts (by decide +kernel) hown hK hP 0 rfl rfl 4 (by decide) (hts (.fieldLink RX5 41 "JoinDesk" "prepared" "Z") (by decide +kernel)) (fun _ h9 => h9) rfl dX5_count_9 ?_
    refine jx_thr (vx_runS (As := [.int 0]) (rest := []) ⟨hx, hb, hml, hown, hts⟩ (cJ_requireState_t l hnt D cI cL cQ) (va_cwS 1 hts gX5_count_X5_requireState rfl rfl rfl (by decide +kernel) ⟨Nat.le_of_ble_eq_true rfl, Nat.le_of_ble_eq_true rfl⟩) (jt_S hK hN hZ hP [] rfl) rfl rfl hl.1 rfl (lv_room (Nat.le_of_ble_eq_true rfl)) dX5_count_12 ⟨Nat.le_of_ble_eq_true rfl, Nat.le_of_ble_eq_true rfl⟩) (fun ce q9 H1 hz hk hce hcv hcl => ?_)
    exact jx_out hxt hlocks hz hk hce hcv hcl (Nat.le_of_ble_eq_true rfl) (Nat.le_of_ble_eq_true rfl)
  · exact False.elim (f_4.elim h1 h2)
set_option maxHeartbeats 1000000 in
set_option maxRecDepth 100000 in
theorem gJ_rows_11 (l : Launch) (D : va_G) (cI cL cQ : ClassId) (h0 : Nat) (tl : Nat) (tr : Nat) (cu : Nat) (bk : Nat) (a : Nat) (n : Nat) (pl : Nat) (lk : Nat) (lv : Nat) (lo : Nat) (lp : Nat) (ll : Nat) (lf : Nat) (gl : Nat → Int32) (ha : a ≤ 400) (hn : n ≤ a) : Met l yX5_rows wsX5_rows ({ frames := 1, cells := 0, slots := 0, locals := 21 }) (jr_P D vwCl (jT cI cL cQ) cL cQ [.ref h0, .int 1, .int 1] [(h0, .inr (5, [.ref tl, .ref tr, .ref cu, .ref bk, .int 1])), (tl, .inr (4, [.int (nI a), .ref lk, .ref lv, .ref lo, .ref lp, .ref ll, .ref lf, .int (nI n), .int (nI pl)])), (ll, .inl (cI, a + 1, .inl gl))]) (vp_Si (fun r : Int32 => r = nI n - jsum n gl (nI n))) 0 0 (fun _ => False) := by
  refine Met.ofW (cc := cX5_rows) (maxL := 5) (ret := (some .int)) (by decide) rfl ?_
  intro p e s m args below meth c s₁ B hml hv
  obtain ⟨rfl, hP, hK, hN⟩ := hv
  have hx := B.exec
  have hb := B.bytes
  have hr := B.returns
  have hts := atoms_spec (ws := wsX5_rows) B.pre
  have hown : s.vm.findClass RX5 = some m.cls := findClass_of_methodNamed B.named
  have hlocks := B.notSynchronized
  have hl := lv_entry ([.ref h0, .int 1, .int 1]) (n := 5) (Nat.le_of_ble_eq_true rfl)
  rw [lg_entry_eq]
  generalize (lg_sl ([.ref h0, .int 1, .int 1]) ++ List.replicate (5 - (lg_sl ([.ref h0, .int 1, .int 1])).length) Slot.unset).toArray = ls at hl ⊢
  have hl : lv_has ls 5 [(0, .ref h0), (1, .int 1), (2, .int 1)] := hl
  refine lv_aload_n hx hb dX5_rows_0 rfl (lv_at hl 0 rfl) ?_
  refine va_get (D := D) (ci := 5) (v := .int 1) (C := RX5) (T := TX5) (N := 5) hx hb hts (by decide +kernel) hown hK hP 0 rfl rfl 4 (by decide) (hts (.fieldLink RX5 41 "JoinDesk" "prepared" "Z") (by decide +kernel)) (fun _ h9 => h9) rfl dX5_rows_1 ?_
  refine va_csv (va_Run.run (va_runS (As := [.int 1]) (rest := []) ⟨hx, hb, hml, hown, hts⟩ (gJ_requireState_ok l D cI cL cQ) (va_cwS 1 hts gX5_rows_X5_requireState rfl rfl rfl (by decide +kernel) ⟨Nat.le_of_ble_eq_true rfl, Nat.le_of_ble_eq_true rfl⟩) (jr_S hK hN hP [] rfl) rfl rfl hl.1 rfl (lv_room (Nat.le_of_ble_eq_true rfl)) dX5_rows_4 ⟨Nat.le_of_ble_eq_true rfl, Nat.le_of_ble_eq_true rfl⟩)) (fun f_1 => ?_)
  refine lv_aload_n hx hb dX5_rows_7 rfl (lv_at hl 0 rfl) ?_
  refine lv_iload_n hx hb dX5_rows_8 rfl (lv_at hl 1 rfl) ?_
  refine jr_callr (va_Run.run (va_runV (As := [.int 1]) (rest := []) ⟨hx, hb, hml, hown, hts⟩ (gJ_tableOf_1 l D cI cL cQ h0 tl tr cu bk 1) (cwV 1 hts gX5_rows_X5_tableOf rfl rfl rfl (by decide +kernel) ⟨Nat.le_of_ble_eq_true rfl, Nat.le_of_ble_eq_true rfl⟩) (jr_V hK hN hP [0] rfl 5 0 rfl rfl rfl) rfl rfl hl.1 rfl (lv_room (Nat.le_of_ble_eq_true rfl)) dX5_rows_9 ⟨Nat.le_of_ble_eq_true rfl, Nat.le_of_ble_eq_true rfl⟩)) (fun r f_2 => ?_)
  obtain er_3 := f_2
  subst r
  refine lv_astore_n (lv' := [(3, .ref tl), (0, .ref h0), (1, .int 1), (2, .int 1)]) hx hb dX5_rows_12 rfl hl (by decide) rfl (fun ls hl => ?_)
  refine lv_aload_n hx hb dX5_rows_13 rfl (lv_at hl 0 rfl) ?_
  refine lv_aload_n hx hb dX5_rows_14 rfl (lv_at hl 0 rfl) ?_
  refine vp_callSi (va_Run.run (va_runV (As := []) (rest := [.ref tl]) ⟨hx, hb, hml, hown, hts⟩ (gT_size l D cI cL cQ tl a n pl lk lv lo lp ll lf) (cwV 0 hts gX5_rows_X4_size rfl rfl rfl (by decide +kernel) ⟨Nat.le_of_ble_eq_true rfl, Nat.le_of_ble_eq_true rfl⟩) (jr_V hK hN hP [1] rfl 4 1 rfl rfl rfl) rfl rfl hl.1 rfl (lv_room (Nat.le_of_ble_eq_true rfl)) dX5_rows_15 ⟨Nat.le_of_ble_eq_true rfl, Nat.le_of_ble_eq_true rfl⟩)) (fun r f_4 => ?_)
  obtain rfl := f_4
  refine vp_callSi (va_Run.run (va_runV (As := [.int (nI n)]) (rest := []) ⟨hx, hb, hml, hown, hts⟩ (gT_loneBefore l D cI cL cQ tl a n pl lk lv lo lp ll lf gl (nI n) (by first | assumption | decide | omega) (by first | assumption | decide | omega)) (cwV 1 hts gX5_rows_X4_loneBefore rfl rfl rfl (by decide +kernel) ⟨Nat.le_of_ble_eq_true rfl, Nat.le_of_ble_eq_true rfl⟩) (jr_V hK hN hP [1, 2] rfl 4 1 rfl rfl rfl) rfl rfl hl.1 rfl (lv_room (Nat.le_of_ble_eq_true rfl)) dX5_rows_18 ⟨Nat.le_of_ble_eq_true rfl, Nat.le_of_ble_eq_true rfl⟩)) (fun r f_5 => ?_)
  obtain rfl := f_5
  refine lv_istore (lv' := [(4, .int (jsum n gl (nI n))), (3, .ref tl), (0, .ref h0), (1, .int 1), (2, .int 1)]) hx hb dX5_rows_21 hl (by decide) rfl (fun ls hl => ?_)
  refine lv_iload_n hx hb dX5_rows_23 rfl (lv_at hl 4 rfl) ?_
  refine lv_if_eq (tgt := 37) hx hb dX5_rows_24 (by decide) (fun c_6 => absurd c_6 (by decide)) (fun c_6 => ?_)
  refine lv_aload_n hx hb dX5_rows_27 rfl (lv_at hl 1 rfl) ?_
  refine vp_callSi (va_Run.run (va_runV (As := []) (rest := []) ⟨hx, hb, hml, hown, hts⟩ (gT_size l D cI cL cQ tl a n pl lk lv lo lp ll lf) (cwV 0 hts gX5_rows_X4_size rfl rfl rfl (by decide +kernel) ⟨Nat.le_of_ble_eq_true rfl, Nat.le_of_ble_eq_true rfl⟩) (jr_V hK hN hP [1] rfl 4 1 rfl rfl rfl) rfl rfl hl.1 rfl (lv_room (Nat.le_of_ble_eq_true rfl)) dX5_rows_28 ⟨Nat.le_of_ble_eq_true rfl, Nat.le_of_ble_eq_true rfl⟩)) (fun r f_7 => ?_)
  obtain rfl := f_7
  refine lv_iload hx hb dX5_rows_31 (lv_at hl 0 rfl) ?_
  refine lv_isub hx hb dX5_rows_33 ?_
  refine lv_goto (tgt := 39) hx hb dX5_rows_34 (by decide) ?_
  exact W.iret (v := (nI n) - (jsum n gl (nI n))) hx hb hr (fun t ht hW => ⟨((nI n) - (jsum n gl (nI n))), rfl, (by exact rfl), ht⟩) (fun _ h => nomatch h) dX5_rows_39
set_option maxHeartbeats 1000000 in
set_option maxRecDepth 100000 in
theorem gJ_rows_10 (l : Launch) (D : va_G) (cI cL cQ : ClassId) (h0 : Nat) (tl : Nat) (tr : Nat) (cu : Nat) (bk : Nat) (a : Nat) (n : Nat) (pl : Nat) (lk : Nat) (lv : Nat) (lo : Nat) (lp : Nat) (ll : Nat) (lf : Nat) (gl : Nat → Int32) (ha : a ≤ 400) (hn : n ≤ a) : Met l yX5_rows wsX5_rows ({ frames := 1, cells := 0, slots := 0, locals := 21 }) (jr_P D vwCl (jT cI cL cQ) cL cQ [.ref h0, .int 1, .int 0] [(h0, .inr (5, [.ref tl, .ref tr, .ref cu, .ref bk, .int 1])), (tl, .inr (4, [.int (nI a), .ref lk, .ref lv, .ref lo, .ref lp, .ref ll, .ref lf, .int (nI n), .int (nI pl)])), (ll, .inl (cI, a + 1, .inl gl))]) (vp_Si (fun r : Int32 => r = jsum n gl (nI n))) 0 0 (fun _ => False) := by
  refine Met.ofW (cc := cX5_rows) (maxL := 5) (ret := (some .int)) (by decide) rfl ?_
  intro p e s m args below meth c s₁ B hml hv
  obtain ⟨rfl, hP, hK, hN⟩ := hv
  have hx := B.exec
  have hb := B.bytes
  have hr := B.returns
  have hts := atoms_spec (ws := wsX5_rows) B.pre
  have hown : s.vm.findClass RX5 = some m.cls := findClass_of_methodNamed B.named
  have hlocks := B.notSynchronized
  have hl := lv_entry ([.ref h0, .int 1, .int 0]) (n := 5) (Nat.le_of_ble_eq_true rfl)
  rw [lg_entry_eq]
  generalize (lg_sl ([.ref h0, .int 1, .int 0]) ++ List.replicate (5 - (lg_sl ([.ref h0, .int 1, .int 0])).length) Slot.unset).toArray = ls at hl ⊢
  have hl : lv_has ls 5 [(0, .ref h0), (1, .int 1), (2, .int 0)] := hl
  refine lv_aload_n hx hb dX5_rows_0 rfl (lv_at hl 0 rfl) ?_
  refine va_get (D := D) (ci := 5) (v := .int 1) (C := RX5) (T := TX5) (N := 5) hx hb hts (by decide +kernel) hown hK hP 0 rfl rfl 4 (by decide) (hts (.fieldLink RX5 41 "JoinDesk" "prepared" "Z") (by decide +kernel)) (fun _ h9 => h9) rfl dX5_rows_1 ?_
  refine va_csv (va_Run.run (va_runS (As := [.int 1]) (rest := []) ⟨hx, hb, hml, hown, hts⟩ (gJ_requireState_ok l D cI cL cQ) (va_cwS 1 hts gX5_rows_X5_requireState rfl rfl rfl (by decide +kernel) ⟨Nat.le_of_ble_eq_true rfl, Nat.le_of_ble_eq_true rfl⟩) (jr_S hK hN hP [] rfl) rfl rfl hl.1 rfl (lv_room (Nat.le_of_ble_eq_true rfl)) dX5_rows_4 ⟨Nat.le_of_ble_eq_true rfl, Nat.le_of_ble_eq_true rfl⟩)) (fun f_1 => ?_)
  refine lv_aload_n hx hb dX5_rows_7 rfl (lv_at hl 0 rfl) ?_
  refine lv_iload_n hx hb dX5_rows_8 rfl (lv_at hl 1 rfl) ?_
  refine jr_callr (va_Run.run (va_runV (As := [.int 1]) (rest := []) ⟨hx, hb, hml, hown, hts⟩ (gJ_tableOf_1 l D cI cL cQ h0 tl tr cu bk 1) (cwV 1 hts gX5_rows_X5_tableOf rfl rfl rfl (by decide +kernel) ⟨Nat.le_of_ble_eq_true rfl, Nat.le_of_ble_eq_true rfl⟩) (jr_V hK hN hP [0] rfl 5 0 rfl rfl rfl) rfl rfl hl.1 rfl (lv_room (Nat.le_of_ble_eq_true rfl)) dX5_rows_9 ⟨Nat.le_of_ble_eq_true rfl, Nat.le_of_ble_eq_true rfl⟩)) (fun r f_2 => ?_)
  obtain er_3 := f_2
  subst r
  refine lv_astore_n (lv' := [(3, .ref tl), (0, .ref h0), (1, .int 1), (2, .int 0)]) hx hb dX5_rows_12 rfl hl (by decide) rfl (fun ls hl => ?_)
  refine lv_aload_n hx hb dX5_rows_13 rfl (lv_at hl 0 rfl) ?_
  refine lv_aload_n hx hb dX5_rows_14 rfl (lv_at hl 0 rfl) ?_
  refine vp_callSi (va_Run.run (va_runV (As := []) (rest := [.ref tl]) ⟨hx, hb, hml, hown, hts⟩ (gT_size l D cI cL cQ tl a n pl lk lv lo lp ll lf) (cwV 0 hts gX5_rows_X4_size rfl rfl rfl (by decide +kernel) ⟨Nat.le_of_ble_eq_true rfl, Nat.le_of_ble_eq_true rfl⟩) (jr_V hK hN hP [1] rfl 4 1 rfl rfl rfl) rfl rfl hl.1 rfl (lv_room (Nat.le_of_ble_eq_true rfl)) dX5_rows_15 ⟨Nat.le_of_ble_eq_true rfl, Nat.le_of_ble_eq_true rfl⟩)) (fun r f_4 => ?_)
  obtain rfl := f_4
  refine vp_callSi (va_Run.run (va_runV (As := [.int (nI n)]) (rest := []) ⟨hx, hb, hml, hown, hts⟩ (gT_loneBefore l D cI cL cQ tl a n pl lk lv lo lp ll lf gl (nI n) (by first | assumption | decide | omega) (by first | assumption | decide | omega)) (cwV 1 hts gX5_rows_X4_loneBefore rfl rfl rfl (by decide +kernel) ⟨Nat.le_of_ble_eq_true rfl, Nat.le_of_ble_eq_true rfl⟩) (jr_V hK hN hP [1, 2] rfl 4 1 rfl rfl rfl) rfl rfl hl.1 rfl (lv_room (Nat.le_of_ble_eq_true rfl)) dX5_rows_18 ⟨Nat.le_of_ble_eq_true rfl, Nat.le_of_ble_eq_true rfl⟩)) (fun r f_5 => ?_)
  obtain rfl := f_5
  refine lv_istore (lv' := [(4, .int (jsum n gl (nI n))), (3, .ref tl), (0, .ref h0), (1, .int 1), (2, .int 0)]) hx hb dX5_rows_21 hl (by decide) rfl (fun ls hl => ?_)
  refine lv_iload_n hx hb dX5_rows_23 rfl (lv_at hl 4 rfl) ?_
  refine lv_if_eq (tgt := 37) hx hb dX5_rows_24 (by decide) (fun c_6 => ?_) (fun c_6 => absurd c_6 (by decide))
  refine lv_iload hx hb dX5_rows_37 (lv_at hl 0 rfl) ?_
  exact W.iret (v := jsum n gl (nI n)) hx hb hr (fun t ht hW => ⟨(jsum n gl (nI n)), rfl, (by exact rfl), ht⟩) (fun _ h => nomatch h) dX5_rows_39
set_option maxHeartbeats 1000000 in
set_option maxRecDepth 100000 in
theorem gJ_sorted_10 (l : Launch) (D : va_G) (cI cL cQ : ClassId) (h0 : Nat) (tl : Nat) (tr : Nat) (cu : Nat) (bk : Nat) (a : Nat) (n : Nat) (pl : Nat) (lk : Nat) (lv : Nat) (lo : Nat) (lp : Nat) (ll : Nat) (lf : Nat) (gk : Nat → Int32) (gv : Nat → Int32) (go : Nat → Int32) (x : Int32) (ha : a ≤ 400) (hn : n ≤ a) (ho : jord a go) (h1 : ¬ x < 0) (h2 : ¬ nI n ≤ x) : Met l yX5_sorted wsX5_sorted ({ frames := 2, cells := 0, slots := 0, locals := 42 }) (jr_P D vwCl (jT cI cL cQ) cL cQ [.ref h0, .int 1, .int x, .int 0] [(h0, .inr (5, [.ref tl, .ref tr, .ref cu, .ref bk, .int 1])), (tl, .inr (4, [.int (nI a), .ref lk, .ref lv, .ref lo, .ref lp, .ref ll, .ref lf, .int (nI n), .int (nI pl)])), (lk, .inl (cI, a, .inl gk)), (lv, .inl (cI, a, .inl gv)), (lo, .inl (cI, a, .inl go))]) (vp_Si (fun r : Int32 => r = jat n gk go x)) 0 0 (fun _ => False) := by
  refine Met.ofW (cc := cX5_sorted) (maxL := 5) (ret := (some .int)) (by decide) rfl ?_
  intro p e s m args below meth c s₁ B hml hv
  obtain ⟨rfl, hP, hK, hN⟩ := hv
  have hx := B.exec
  have hb := B.bytes
  have hr := B.returns
  have hts := atoms_spec (ws := wsX5_sorted) B.pre
  have hown : s.vm.findClass RX5 = some m.cls := findClass_of_methodNamed B.named
  have hlocks := B.notSynchronized
  have hl := lv_entry ([.ref h0, .int 1, .int x, .int 0]) (n := 5) (Nat.le_of_ble_eq_true rfl)
  rw [lg_entry_eq]
  generalize (lg_sl ([.ref h0, .int 1, .int x, .int 0]) ++ List.replicate (5 - (lg_sl ([.ref h0, .int 1, .int x, .int 0])).length) Slot.unset).toArray = ls at hl ⊢
  have hl : lv_has ls 5 [(0, .ref h0), (1, .int 1), (2, .int x), (3, .int 0)] := hl
  refine lv_aload_n hx hb dX5_sorted_0 rfl (lv_at hl 0 rfl) ?_
  refine lv_iload_n hx hb dX5_sorted_1 rfl (lv_at hl 1 rfl) ?_
  refine jr_callr (va_Run.run (va_runV (As := [.int 1]) (rest := []) ⟨hx, hb, hml, hown, hts⟩ (gJ_tableOf_1 l D cI cL cQ h0 tl tr cu bk 1) (cwV 1 hts gX5_sorted_X5_tableOf rfl rfl rfl (by decide +kernel) ⟨Nat.le_of_ble_eq_true rfl, Nat.le_of_ble_eq_true rfl⟩) (jr_V hK hN hP [0] rfl 5 0 rfl rfl rfl) rfl rfl hl.1 rfl (lv_room (Nat.le_of_ble_eq_true rfl)) dX5_sorted_2 ⟨Nat.le_of_ble_eq_true rfl, Nat.le_of_ble_eq_true rfl⟩)) (fun r f_1 => ?_)
  obtain er_2 := f_1
  subst r
  refine lv_astore (lv' := [(4, .ref tl), (0, .ref h0), (1, .int 1), (2, .int x), (3, .int 0)]) hx hb dX5_sorted_5 hl (by decide) rfl (fun ls hl => ?_)
  refine lv_aload hx hb dX5_sorted_7 (lv_at hl 0 rfl) ?_
  refine lv_iload_n hx hb dX5_sorted_9 rfl (lv_at hl 3 rfl) ?_
  refine vp_callSi (va_Run.run (va_runV (As := [.int x]) (rest := []) ⟨hx, hb, hml, hown, hts⟩ (gT_has l D cI cL cQ tl a n pl lk lv lo lp ll lf x) (cwV 1 hts gX5_sorted_X4_has rfl rfl rfl (by decide +kernel) ⟨Nat.le_of_ble_eq_true rfl, Nat.le_of_ble_eq_true rfl⟩) (jr_V hK hN hP [1] rfl 4 1 rfl rfl rfl) rfl rfl hl.1 rfl (lv_room (Nat.le_of_ble_eq_true rfl)) dX5_sorted_10 ⟨Nat.le_of_ble_eq_true rfl, Nat.le_of_ble_eq_true rfl⟩)) (fun r f_3 => ?_)
  rcases f_3 with ⟨rfl, f_4, f_5⟩ | ⟨rfl, f_6⟩
  · refine lv_if_eq (tgt := 28) hx hb dX5_sorted_13 (by decide) (fun c_7 => absurd c_7 (by decide)) (fun c_7 => ?_)
    refine lv_iload_n hx hb dX5_sorted_16 rfl (lv_at hl 4 rfl) ?_
    refine lv_iconst (v := 3) hx hb dX5_sorted_17 (by decide) ?_
    refine vp_callSi (va_Run.run (va_runS (As := [.int 0, .int 3]) (rest := []) ⟨hx, hb, hml, hown, hts⟩ (gJ_isBelow l D cI cL cQ 0 3) (va_cwS 2 hts gX5_sorted_X5_isBelow rfl rfl rfl (by decide +kernel) ⟨Nat.le_of_ble_eq_true rfl, Nat.le_of_ble_eq_true rfl⟩) (jr_S hK hN hP [] rfl) rfl rfl hl.1 rfl (lv_room (Nat.le_of_ble_eq_true rfl)) dX5_sorted_18 ⟨Nat.le_of_ble_eq_true rfl, Nat.le_of_ble_eq_true rfl⟩)) (fun r f_8 => ?_)
    rcases f_8 with ⟨rfl, f_9, f_10⟩ | ⟨rfl, f_11⟩
    · refine lv_if_eq (tgt := 28) hx hb dX5_sorted_21 (by decide) (fun c_12 => absurd c_12 (by decide)) (fun c_12 => ?_)
      refine lv_iconst (v := 1) hx hb dX5_sorted_24 (by decide) ?_
      refine lv_goto (tgt := 29) hx hb dX5_sorted_25 (by decide) ?_
      refine va_csv (va_Run.run (va_runS (As := [.int 1]) (rest := []) ⟨hx, hb, hml, hown, hts⟩ (gJ_requireArgument_ok l D cI cL cQ) (va_cwS 1 hts gX5_sorted_X5_requireArgument rfl rfl rfl (by decide +kernel) ⟨Nat.le_of_ble_eq_true rfl, Nat.le_of_ble_eq_true rfl⟩) (jr_S hK hN hP [] rfl) rfl rfl hl.1 rfl (lv_room (Nat.le_of_ble_eq_true rfl)) dX5_sorted_29 ⟨Nat.le_of_ble_eq_true rfl, Nat.le_of_ble_eq_true rfl⟩)) (fun f_13 => ?_)
      refine lv_aload_n hx hb dX5_sorted_32 rfl (lv_at hl 1 rfl) ?_
      refine va_get (D := D) (ci := 5) (v := .int 1) (C := RX5) (T := TX5) (N := 5) hx hb hts (by decide +kernel) hown hK hP 0 rfl rfl 4 (by decide) (hts (.fieldLink RX5 41 "JoinDesk" "prepared" "Z") (by decide +kernel)) (fun _ h9 => h9) rfl dX5_sorted_33 ?_
      refine va_csv (va_Run.run (va_runS (As := [.int 1]) (rest := []) ⟨hx, hb, hml, hown, hts⟩ (gJ_requireState_ok l D cI cL cQ) (va_cwS 1 hts gX5_sorted_X5_requireState rfl rfl rfl (by decide +kernel) ⟨Nat.le_of_ble_eq_true rfl, Nat.le_of_ble_eq_true rfl⟩) (jr_S hK hN hP [] rfl) rfl rfl hl.1 rfl (lv_room (Nat.le_of_ble_eq_true rfl)) dX5_sorted_36 ⟨Nat.le_of_ble_eq_true rfl, Nat.le_of_ble_eq_true rfl⟩)) (fun f_14 => ?_)
      refine lv_iload_n hx hb dX5_sorted_39 rfl (lv_at hl 4 rfl) ?_
      refine lv_lookup (off := 28) (tgt := 68) hx hb dX5_sorted_40 (by decide) (by decide) (by decide) ?_
      refine lv_aload hx hb dX5_sorted_68 (lv_at hl 0 rfl) ?_
      refine lv_iload_n hx hb dX5_sorted_70 rfl (lv_at hl 3 rfl) ?_
      refine vp_callSi (va_Run.run (va_runV (As := [.int x]) (rest := []) ⟨hx, hb, hml, hown, hts⟩ (gT_keyAt l D cI cL cQ tl a n pl lk lv lo lp ll lf gk go x (by first | assumption | decide | omega) (by first | assumption | decide | omega) (by first | assumption | decide | omega)) (cwV 1 hts gX5_sorted_X4_keyAt rfl rfl rfl (by decide +kernel) ⟨Nat.le_of_ble_eq_true rfl, Nat.le_of_ble_eq_true rfl⟩) (jr_V hK hN hP [1, 2, 4] rfl 4 1 rfl rfl rfl) rfl rfl hl.1 rfl (lv_room (Nat.le_of_ble_eq_true rfl)) dX5_sorted_71 ⟨Nat.le_of_ble_eq_true rfl, Nat.le_of_ble_eq_true rfl⟩)) (fun r f_15 => ?_)
      obtain rfl := f_15
      exact W.iret (v := jat n gk go x) hx hb hr (fun t ht hW => ⟨(jat n gk go x), rfl, (by exact rfl), ht⟩) (fun _ h => nomatch h) dX5_sorted_74
    · exact False.elim (by revert f_11; decide)
  · exact False.elim (f_6.elim h1 h2)
set_option maxHeartbeats 1000000 in
set_option maxRecDepth 100000 in
theorem gJ_sorted_11 (l : Launch) (D : va_G) (cI cL cQ : ClassId) (h0 : Nat) (tl : Nat) (tr : Nat) (cu : Nat) (bk : Nat) (a : Nat) (n : Nat) (pl : Nat) (lk : Nat) (lv : Nat) (lo : Nat) (lp : Nat) (ll : Nat) (lf : Nat) (gk : Nat → Int32) (gv : Nat → Int32) (go : Nat → Int32) (x : Int32) (ha : a ≤ 400) (hn : n ≤ a) (ho : jord a go) (h1 : ¬ x < 0) (h2 : ¬ nI n ≤ x) : Met l yX5_sorted wsX5_sorted ({ frames := 2, cells := 0, slots := 0, locals := 42 }) (jr_P D vwCl (jT cI cL cQ) cL cQ [.ref h0, .int 1, .int x, .int 1] [(h0, .inr (5, [.ref tl, .ref tr, .ref cu, .ref bk, .int 1])), (tl, .inr (4, [.int (nI a), .ref lk, .ref lv, .ref lo, .ref lp, .ref ll, .ref lf, .int (nI n), .int (nI pl)])), (lk, .inl (cI, a, .inl gk)), (lv, .inl (cI, a, .inl gv)), (lo, .inl (cI, a, .inl go))]) (vp_Si (fun r : Int32 => r = jat n gv go x)) 0 0 (fun _ => False) := by
  refine Met.ofW (cc := cX5_sorted) (maxL := 5) (ret := (some .int)) (by decide) rfl ?_
  intro p e s m args below meth c s₁ B hml hv
  obtain ⟨rfl, hP, hK, hN⟩ := hv
  have hx := B.exec
  have hb := B.bytes
  have hr := B.returns
  have hts := atoms_spec (ws := wsX5_sorted) B.pre
  have hown : s.vm.findClass RX5 = some m.cls := findClass_of_methodNamed B.named
  have hlocks := B.notSynchronized
  have hl := lv_entry ([.ref h0, .int 1, .int x, .int 1]) (n := 5) (Nat.le_of_ble_eq_true rfl)
  rw [lg_entry_eq]
  generalize (lg_sl ([.ref h0, .int 1, .int x, .int 1]) ++ List.replicate (5 - (lg_sl ([.ref h0, .int 1, .int x, .int 1])).length) Slot.unset).toArray = ls at hl ⊢
  have hl : lv_has ls 5 [(0, .ref h0), (1, .int 1), (2, .int x), (3, .int 1)] := hl
  refine lv_aload_n hx hb dX5_sorted_0 rfl (lv_at hl 0 rfl) ?_
  refine lv_iload_n hx hb dX5_sorted_1 rfl (lv_at hl 1 rfl) ?_
  refine jr_callr (va_Run.run (va_runV (As := [.int 1]) (rest := []) ⟨hx, hb, hml, hown, hts⟩ (gJ_tableOf_1 l D cI cL cQ h0 tl tr cu bk 1) (cwV 1 hts gX5_sorted_X5_tableOf rfl rfl rfl (by decide +kernel) ⟨Nat.le_of_ble_eq_true rfl, Nat.le_of_ble_eq_true rfl⟩) (jr_V hK hN hP [0] rfl 5 0 rfl rfl rfl) rfl rfl hl.1 rfl (lv_room (Nat.le_of_ble_eq_true rfl)) dX5_sorted_2 ⟨Nat.le_of_ble_eq_true rfl, Nat.le_of_ble_eq_true rfl⟩)) (fun r f_1 => ?_)
  obtain er_2 := f_1
  subst r
  refine lv_astore (lv' := [(4, .ref tl), (0, .ref h0), (1, .int 1), (2, .int x), (3, .int 1)]) hx hb dX5_sorted_5 hl (by decide) rfl (fun ls hl => ?_)
  refine lv_aload hx hb dX5_sorted_7 (lv_at hl 0 rfl) ?_
  refine lv_iload_n hx hb dX5_sorted_9 rfl (lv_at hl 3 rfl) ?_
  refine vp_callSi (va_Run.run (va_runV (As := [.int x]) (rest := []) ⟨hx, hb, hml, hown, hts⟩ (gT_has l D cI cL cQ tl a n pl lk lv lo lp ll lf x) (cwV 1 hts gX5_sorted_X4_has rfl rfl rfl (by decide +kernel) ⟨Nat.le_of_ble_eq_true rfl, Nat.le_of_ble_eq_true rfl⟩) (jr_V hK hN hP [1] rfl 4 1 rfl rfl rfl) rfl rfl hl.1 rfl (lv_room (Nat.le_of_ble_eq_true rfl)) dX5_sorted_10 ⟨Nat.le_of_ble_eq_true rfl, Nat.le_of_ble_eq_true rfl⟩)) (fun r f_3 => ?_)
  rcases f_3 with ⟨rfl, f_4, f_5⟩ | ⟨rfl, f_6⟩
  · refine lv_if_eq (tgt := 28) hx hb dX5_sorted_13 (by decide) (fun c_7 => absurd c_7 (by decide)) (fun c_7 => ?_)
    refine lv_iload_n hx hb dX5_sorted_16 rfl (lv_at hl 4 rfl) ?_
    refine lv_iconst (v := 3) hx hb dX5_sorted_17 (by decide) ?_
    refine vp_callSi (va_Run.run (va_runS (As := [.int 1, .int 3]) (rest := []) ⟨hx, hb, hml, hown, hts⟩ (gJ_isBelow l D cI cL cQ 1 3) (va_cwS 2 hts gX5_sorted_X5_isBelow rfl rfl rfl (by decide +kernel) ⟨Nat.le_of_ble_eq_true rfl, Nat.le_of_ble_eq_true rfl⟩) (jr_S hK hN hP [] rfl) rfl rfl hl.1 rfl (lv_room (Nat.le_of_ble_eq_true rfl)) dX5_sorted_18 ⟨Nat.le_of_ble_eq_true rfl, Nat.le_of_ble_eq_true rfl⟩)) (fun r f_8 => ?_)
    rcases f_8 with ⟨rfl, f_9, f_10⟩ | ⟨rfl, f_11⟩
    · refine lv_if_eq (tgt := 28) hx hb dX5_sorted_21 (by decide) (fun c_12 => absurd c_12 (by decide)) (fun c_12 => ?_)
      refine lv_iconst (v := 1) hx hb dX5_sorted_24 (by decide) ?_
      refine lv_goto (tgt := 29) hx hb dX5_sorted_25 (by decide) ?_
      refine va_csv (va_Run.run (va_runS (As := [.int 1]) (rest := []) ⟨hx, hb, hml, hown, hts⟩ (gJ_requireArgument_ok l D cI cL cQ) (va_cwS 1 hts gX5_sorted_X5_requireArgument rfl rfl rfl (by decide +kernel) ⟨Nat.le_of_ble_eq_true rfl, Nat.le_of_ble_eq_true rfl⟩) (jr_S hK hN hP [] rfl) rfl rfl hl.1 rfl (lv_room (Nat.le_of_ble_eq_true rfl)) dX5_sorted_29 ⟨Nat.le_of_ble_eq_true rfl, Nat.le_of_ble_eq_true rfl⟩)) (fun f_13 => ?_)
      refine lv_aload_n hx hb dX5_sorted_32 rfl (lv_at hl 1 rfl) ?_
      refine va_get (D := D) (ci := 5) (v := .int 1) (C := RX5) (T := TX5) (N := 5) hx hb hts (by decide +kernel) hown hK hP 0 rfl rfl 4 (by decide) (hts (.fieldLink RX5 41 "JoinDesk" "prepared" "Z") (by decide +kernel)) (fun _ h9 => h9) rfl dX5_sorted_33 ?_
      refine va_csv (va_Run.run (va_runS (As := [.int 1]) (rest := []) ⟨hx, hb, hml, hown, hts⟩ (gJ_requireState_ok l D cI cL cQ) (va_cwS 1 hts gX5_sorted_X5_requireState rfl rfl rfl (by decide +kernel) ⟨Nat.le_of_ble_eq_true rfl, Nat.le_of_ble_eq_true rfl⟩) (jr_S hK hN hP [] rfl) rfl rfl hl.1 rfl (lv_room (Nat.le_of_ble_eq_true rfl)) dX5_sorted_36 ⟨Nat.le_of_ble_eq_true rfl, Nat.le_of_ble_eq_true rfl⟩)) (fun f_14 => ?_)
      refine lv_iload_n hx hb dX5_sorted_39 rfl (lv_at hl 4 rfl) ?_
      refine lv_lookup (off := 35) (tgt := 75) hx hb dX5_sorted_40 (by decide) (by decide) (by decide) ?_
      refine lv_aload hx hb dX5_sorted_75 (lv_at hl 0 rfl) ?_
      refine lv_iload_n hx hb dX5_sorted_77 rfl (lv_at hl 3 rfl) ?_
      refine vp_callSi (va_Run.run (va_runV (As := [.int x]) (rest := []) ⟨hx, hb, hml, hown, hts⟩ (gT_valueAt l D cI cL cQ tl a n pl lk lv lo lp ll lf gv go x (by first | assumption | decide | omega) (by first | assumption | decide | omega) (by first | assumption | decide | omega)) (cwV 1 hts gX5_sorted_X4_valueAt rfl rfl rfl (by decide +kernel) ⟨Nat.le_of_ble_eq_true rfl, Nat.le_of_ble_eq_true rfl⟩) (jr_V hK hN hP [1, 3, 4] rfl 4 1 rfl rfl rfl) rfl rfl hl.1 rfl (lv_room (Nat.le_of_ble_eq_true rfl)) dX5_sorted_78 ⟨Nat.le_of_ble_eq_true rfl, Nat.le_of_ble_eq_true rfl⟩)) (fun r f_15 => ?_)
      obtain rfl := f_15
      exact W.iret (v := jat n gv go x) hx hb hr (fun t ht hW => ⟨(jat n gv go x), rfl, (by exact rfl), ht⟩) (fun _ h => nomatch h) dX5_sorted_81
    · exact False.elim (by revert f_11; decide)
  · exact False.elim (f_6.elim h1 h2)
set_option maxHeartbeats 1000000 in
set_option maxRecDepth 100000 in
theorem gJ_sorted_12 (l : Launch) (D : va_G) (cI cL cQ : ClassId) (h0 : Nat) (tl : Nat) (tr : Nat) (cu : Nat) (bk : Nat) (a : Nat) (n : Nat) (pl : Nat) (lk : Nat) (lv : Nat) (lo : Nat) (lp : Nat) (ll : Nat) (lf : Nat) (gk : Nat → Int32) (gv : Nat → Int32) (go : Nat → Int32) (x : Int32) (ha : a ≤ 400) (hn : n ≤ a) (ho : jord a go) (h1 : ¬ x < 0) (h2 : ¬ nI n ≤ x) : Met l yX5_sorted wsX5_sorted ({ frames := 2, cells := 0, slots := 0, locals := 42 }) (jr_P D vwCl (jT cI cL cQ) cL cQ [.ref h0, .int 1, .int x, .int 2] [(h0, .inr (5, [.ref tl, .ref tr, .ref cu, .ref bk, .int 1])), (tl, .inr (4, [.int (nI a), .ref lk, .ref lv, .ref lo, .ref lp, .ref ll, .ref lf, .int (nI n), .int (nI pl)])), (lk, .inl (cI, a, .inl gk)), (lv, .inl (cI, a, .inl gv)), (lo, .inl (cI, a, .inl go))]) (vp_Si (fun r : Int32 => r = jnum n go x)) 0 0 (fun _ => False) := by
  refine Met.ofW (cc := cX5_sorted) (maxL := 5) (ret := (some .int)) (by decide) rfl ?_
  intro p e s m args below meth c s₁ B hml hv
  obtain ⟨rfl, hP, hK, hN⟩ := hv
  have hx := B.exec
  have hb := B.bytes
  have hr := B.returns
  have hts := atoms_spec (ws := wsX5_sorted) B.pre
  have hown : s.vm.findClass RX5 = some m.cls := findClass_of_methodNamed B.named
  have hlocks := B.notSynchronized
  have hl := lv_entry ([.ref h0, .int 1, .int x, .int 2]) (n := 5) (Nat.le_of_ble_eq_true rfl)
  rw [lg_entry_eq]
  generalize (lg_sl ([.ref h0, .int 1, .int x, .int 2]) ++ List.replicate (5 - (lg_sl ([.ref h0, .int 1, .int x, .int 2])).length) Slot.unset).toArray = ls at hl ⊢
  have hl : lv_has ls 5 [(0, .ref h0), (1, .int 1), (2, .int x), (3, .int 2)] := hl
  refine lv_aload_n hx hb dX5_sorted_0 rfl (lv_at hl 0 rfl) ?_
  refine lv_iload_n hx hb dX5_sorted_1 rfl (lv_at hl 1 rfl) ?_
  refine jr_callr (va_Run.run (va_runV (As := [.int 1]) (rest := []) ⟨hx, hb, hml, hown, hts⟩ (gJ_tableOf_1 l D cI cL cQ h0 tl tr cu bk 1) (cwV 1 hts gX5_sorted_X5_tableOf rfl rfl rfl (by decide +kernel) ⟨Nat.le_of_ble_eq_true rfl, Nat.le_of_ble_eq_true rfl⟩) (jr_V hK hN hP [0] rfl 5 0 rfl rfl rfl) rfl rfl hl.1 rfl (lv_room (Nat.le_of_ble_eq_true rfl)) dX5_sorted_2 ⟨Nat.le_of_ble_eq_true rfl, Nat.le_of_ble_eq_true rfl⟩)) (fun r f_1 => ?_)
  obtain er_2 := f_1
  subst r
  refine lv_astore (lv' := [(4, .ref tl), (0, .ref h0), (1, .int 1), (2, .int x), (3, .int 2)]) hx hb dX5_sorted_5 hl (by decide) rfl (fun ls hl => ?_)
  refine lv_aload hx hb dX5_sorted_7 (lv_at hl 0 rfl) ?_
  refine lv_iload_n hx hb dX5_sorted_9 rfl (lv_at hl 3 rfl) ?_
  refine vp_callSi (va_Run.run (va_runV (As := [.int x]) (rest := []) ⟨hx, hb, hml, hown, hts⟩ (gT_has l D cI cL cQ tl a n pl lk lv lo lp ll lf x) (cwV 1 hts gX5_sorted_X4_has rfl rfl rfl (by decide +kernel) ⟨Nat.le_of_ble_eq_true rfl, Nat.le_of_ble_eq_true rfl⟩) (jr_V hK hN hP [1] rfl 4 1 rfl rfl rfl) rfl rfl hl.1 rfl (lv_room (Nat.le_of_ble_eq_true rfl)) dX5_sorted_10 ⟨Nat.le_of_ble_eq_true rfl, Nat.le_of_ble_eq_true rfl⟩)) (fun r f_3 => ?_)
  rcases f_3 with ⟨rfl, f_4, f_5⟩ | ⟨rfl, f_6⟩
  · refine lv_if_eq (tgt := 28) hx hb dX5_sorted_13 (by decide) (fun c_7 => absurd c_7 (by decide)) (fun c_7 => ?_)
    refine lv_iload_n hx hb dX5_sorted_16 rfl (lv_at hl 4 rfl) ?_
    refine lv_iconst (v := 3) hx hb dX5_sorted_17 (by decide) ?_
    refine vp_callSi (va_Run.run (va_runS (As := [.int 2, .int 3]) (rest := []) ⟨hx, hb, hml, hown, hts⟩ (gJ_isBelow l D cI cL cQ 2 3) (va_cwS 2 hts gX5_sorted_X5_isBelow rfl rfl rfl (by decide +kernel) ⟨Nat.le_of_ble_eq_true rfl, Nat.le_of_ble_eq_true rfl⟩) (jr_S hK hN hP [] rfl) rfl rfl hl.1 rfl (lv_room (Nat.le_of_ble_eq_true rfl)) dX5_sorted_18 ⟨Nat.le_of_ble_eq_true rfl, Nat.le_of_ble_eq_true rfl⟩)) (fun r f_8 => ?_)
    rcases f_8 with ⟨rfl, f_9, f_10⟩ | ⟨rfl, f_11⟩
    · refine lv_if_eq (tgt := 28) hx hb dX5_sorted_21 (by decide) (fun c_12 => absurd c_12 (by decide)) (fun c_12 => ?_)
      refine lv_iconst (v := 1) hx hb dX5_sorted_24 (by decide) ?_
      refine lv_goto (tgt := 29) hx hb dX5_sorted_25 (by decide) ?_
      refine va_csv (va_Run.run (va_runS (As := [.int 1]) (rest := []) ⟨hx, hb, hml, hown, hts⟩ (gJ_requireArgument_ok l D cI cL cQ) (va_cwS 1 hts gX5_sorted_X5_requireArgument rfl rfl rfl (by decide +kernel) ⟨Nat.le_of_ble_eq_true rfl, Nat.le_of_ble_eq_true rfl⟩) (jr_S hK hN hP [] rfl) rfl rfl hl.1 rfl (lv_room (Nat.le_of_ble_eq_true rfl)) dX5_sorted_29 ⟨Nat.le_of_ble_eq_true rfl, Nat.le_of_ble_eq_true rfl⟩)) (fun f_13 => ?_)
      refine lv_aload_n hx hb dX5_sorted_32 rfl (lv_at hl 1 rfl) ?_
      refine va_get (D := D) (ci := 5) (v := .int 1) (C := RX5) (T := TX5) (N := 5) hx hb hts (by decide +kernel) hown hK hP 0 rfl rfl 4 (by decide) (hts (.fieldLink RX5 41 "JoinDesk" "prepared" "Z") (by decide +kernel)) (fun _ h9 => h9) rfl dX5_sorted_33 ?_
      refine va_csv (va_Run.run (va_runS (As := [.int 1]) (rest := []) ⟨hx, hb, hml, hown, hts⟩ (gJ_requireState_ok l D cI cL cQ) (va_cwS 1 hts gX5_sorted_X5_requireState rfl rfl rfl (by decide +kernel) ⟨Nat.le_of_ble_eq_true rfl, Nat.le_of_ble_eq_true rfl⟩) (jr_S hK hN hP [] rfl) rfl rfl hl.1 rfl (lv_room (Nat.le_of_ble_eq_true rfl)) dX5_sorted_36 ⟨Nat.le_of_ble_eq_true rfl, Nat.le_of_ble_eq_true rfl⟩)) (fun f_14 => ?_)
      refine lv_iload_n hx hb dX5_sorted_39 rfl (lv_at hl 4 rfl) ?_
      refine lv_lookup (off := 42) (tgt := 82) hx hb dX5_sorted_40 (by decide) (by decide) (by decide) ?_
      refine lv_aload hx hb dX5_sorted_82 (lv_at hl 0 rfl) ?_
      refine lv_iload_n hx hb dX5_sorted_84 rfl (lv_at hl 3 rfl) ?_
      refine vp_callSi (va_Run.run (va_runV (As := [.int x]) (rest := []) ⟨hx, hb, hml, hown, hts⟩ (gT_numberAt l D cI cL cQ tl a n pl lk lv lo lp ll lf go x (by first | assumption | decide | omega) (by first | assumption | decide | omega)) (cwV 1 hts gX5_sorted_X4_numberAt rfl rfl rfl (by decide +kernel) ⟨Nat.le_of_ble_eq_true rfl, Nat.le_of_ble_eq_true rfl⟩) (jr_V hK hN hP [1, 4] rfl 4 1 rfl rfl rfl) rfl rfl hl.1 rfl (lv_room (Nat.le_of_ble_eq_true rfl)) dX5_sorted_85 ⟨Nat.le_of_ble_eq_true rfl, Nat.le_of_ble_eq_true rfl⟩)) (fun r f_15 => ?_)
      obtain rfl := f_15
      exact W.iret (v := jnum n go x) hx hb hr (fun t ht hW => ⟨(jnum n go x), rfl, (by exact rfl), ht⟩) (fun _ h => nomatch h) dX5_sorted_88
    · exact False.elim (by revert f_11; decide)
  · exact False.elim (f_6.elim h1 h2)
set_option maxHeartbeats 1000000 in
set_option maxRecDepth 100000 in
theorem gJ_sorted_1a (l : Launch) (hnt : l.stackTraces = false) (D : va_G) (cI cL cQ : ClassId) (h0 : Nat) (tl : Nat) (tr : Nat) (cu : Nat) (bk : Nat) (a : Nat) (n : Nat) (pl : Nat) (lk : Nat) (lv : Nat) (lo : Nat) (lp : Nat) (ll : Nat) (lf : Nat) (pr : Int32) (x : Int32) (y : Int32) (h1 : (x < 0 ∨ nI n ≤ x) ∨ (y < 0 ∨ 3 ≤ y)) : vx_Met l yX5_sorted wsX5_sorted ({ frames := 7, cells := 1, slots := 6, locals := 102 }) (jt_P D vwCl (jT cI cL cQ) cL cQ [.ref h0, .int 1, .int x, .int y] [(h0, .inr (5, [.ref tl, .ref tr, .ref cu, .ref bk, .int pr])), (tl, .inr (4, [.int (nI a), .ref lk, .ref lv, .ref lo, .ref lp, .ref ll, .ref lf, .int (nI n), .int (nI pl)]))]) (fun _ _ _ _ => False) (jx_X "java/lang/IllegalArgumentException") 1 6 (fun _ => False) := by
  refine vx_ofW (cc := cX5_sorted) (maxL := 5) (ret := (some .int)) (by decide) rfl ?_
  intro p e s m args below meth c s₁ B hml hxt hv
  obtain ⟨rfl, hP, hK, hN, hZ⟩ := hv
  have hx := B.exec
  have hb := B.bytes
  have hr := B.returns
  have hts := atoms_spec (ws := wsX5_sorted) B.pre
  have hown : s.vm.findClass RX5 = some m.cls := findClass_of_methodNamed B.named
  have hlocks := B.notSynchronized
  have hl := lv_entry ([.ref h0, .int 1, .int x, .int y]) (n := 5) (Nat.le_of_ble_eq_true rfl)
  rw [lg_entry_eq]
  generalize (lg_sl ([.ref h0, .int 1, .int x, .int y]) ++ List.replicate (5 - (lg_sl ([.ref h0, .int 1, .int x, .int y])).length) Slot.unset).toArray = ls at hl ⊢
  have hl : lv_has ls 5 [(0, .ref h0), (1, .int 1), (2, .int x), (3, .int y)] := hl
  refine lv_aload_n hx hb dX5_sorted_0 rfl (lv_at hl 0 rfl) ?_
  refine lv_iload_n hx hb dX5_sorted_1 rfl (lv_at hl 1 rfl) ?_
  refine jr_callr (va_Run.run (va_runV (As := [.int 1]) (rest := []) ⟨hx, hb, hml, hown, hts⟩ (gJ_tableOf_1 l D cI cL cQ h0 tl tr cu bk pr) (cwV 1 hts gX5_sorted_X5_tableOf rfl rfl rfl (by decide +kernel) ⟨Nat.le_of_ble_eq_true rfl, Nat.le_of_ble_eq_true rfl⟩) (jr_V hK hN hP [0] rfl 5 0 rfl rfl rfl) rfl rfl hl.1 rfl (lv_room (Nat.le_of_ble_eq_true rfl)) dX5_sorted_2 ⟨Nat.le_of_ble_eq_true rfl, Nat.le_of_ble_eq_true rfl⟩)) (fun r f_1 => ?_)
  obtain er_2 := f_1
  subst r
  refine lv_astore (lv' := [(4, .ref tl), (0, .ref h0), (1, .int 1), (2, .int x), (3, .int y)]) hx hb dX5_sorted_5 hl (by decide) rfl (fun ls hl => ?_)
  refine lv_aload hx hb dX5_sorted_7 (lv_at hl 0 rfl) ?_
  refine lv_iload_n hx hb dX5_sorted_9 rfl (lv_at hl 3 rfl) ?_
  refine vp_callSi (va_Run.run (va_runV (As := [.int x]) (rest := []) ⟨hx, hb, hml, hown, hts⟩ (gT_has l D cI cL cQ tl a n pl lk lv lo lp ll lf x) (cwV 1 hts gX5_sorted_X4_has rfl rfl rfl (by decide +kernel) ⟨Nat.le_of_ble_eq_true rfl, Nat.le_of_ble_eq_true rfl⟩) (jr_V hK hN hP [1] rfl 4 1 rfl rfl rfl) rfl rfl hl.1 rfl (lv_room (Nat.le_of_ble_eq_true rfl)) dX5_sorted_10 ⟨Nat.le_of_ble_eq_true rfl, Nat.le_of_ble_eq_true rfl⟩)) (fun r f_3 => ?_)
  rcases f_3 with ⟨rfl, f_4, f_5⟩ | ⟨rfl, f_6⟩
  · refine lv_if_eq (tgt := 28) hx hb dX5_sorted_13 (by decide) (fun c_7 => absurd c_7 (by decide)) (fun c_7 => ?_)
    refine lv_iload_n hx hb dX5_sorted_16 rfl (lv_at hl 4 rfl) ?_
    refine lv_iconst (v := 3) hx hb dX5_sorted_17 (by decide) ?_
    refine vp_callSi (va_Run.run (va_runS (As := [.int y, .int 3]) (rest := []) ⟨hx, hb, hml, hown, hts⟩ (gJ_isBelow l D cI cL cQ y 3) (va_cwS 2 hts gX5_sorted_X5_isBelow rfl rfl rfl (by decide +kernel) ⟨Nat.le_of_ble_eq_true rfl, Nat.le_of_ble_eq_true rfl⟩) (jr_S hK hN hP [] rfl) rfl rfl hl.1 rfl (lv_room (Nat.le_of_ble_eq_true rfl)) dX5_sorted_18 ⟨Nat.le_of_ble_eq_true rfl, Nat.le_of_ble_eq_true rfl⟩)) (fun r f_8 => ?_)
    rcases f_8 with ⟨rfl, f_9, f_10⟩ | ⟨rfl, f_11⟩
    · exact False.elim (h1.elim (fun h => h.elim (by assumption) (by assumption)) (fun h => h.elim f_9 f_10))
    · refine lv_if_eq (tgt := 28) hx hb dX5_sorted_21 (by decide) (fun c_12 => ?_) (fun c_12 => absurd c_12 (by decide))
      refine lv_iconst (v := 0) hx hb dX5_sorted_28 (by decide) ?_
      refine jx_thr (vx_runS (As := [.int 0]) (rest := []) ⟨hx, hb, hml, hown, hts⟩ (cJ_requireArgument_t l hnt D cI cL cQ) (va_cwS 1 hts gX5_sorted_X5_requireArgument rfl rfl rfl (by decide +kernel) ⟨Nat.le_of_ble_eq_true rfl, Nat.le_of_ble_eq_true rfl⟩) (jt_S hK hN hZ hP [] rfl) rfl rfl hl.1 rfl (lv_room (Nat.le_of_ble_eq_true rfl)) dX5_sorted_29 ⟨Nat.le_of_ble_eq_true rfl, Nat.le_of_ble_eq_true rfl⟩) (fun ce q9 H1 hz hk hce hcv hcl => ?_)
      exact jx_out hxt hlocks hz hk hce hcv hcl (Nat.le_of_ble_eq_true rfl) (Nat.le_of_ble_eq_true rfl)
  · refine lv_if_eq (tgt := 28) hx hb dX5_sorted_13 (by decide) (fun c_13 => ?_) (fun c_13 => absurd c_13 (by decide))
    refine lv_iconst (v := 0) hx hb dX5_sorted_28 (by decide) ?_
    refine jx_thr (vx_runS (As := [.int 0]) (rest := []) ⟨hx, hb, hml, hown, hts⟩ (cJ_requireArgument_t l hnt D cI cL cQ) (va_cwS 1 hts gX5_sorted_X5_requireArgument rfl rfl rfl (by decide +kernel) ⟨Nat.le_of_ble_eq_true rfl, Nat.le_of_ble_eq_true rfl⟩) (jt_S hK hN hZ hP [] rfl) rfl rfl hl.1 rfl (lv_room (Nat.le_of_ble_eq_true rfl)) dX5_sorted_29 ⟨Nat.le_of_ble_eq_true rfl, Nat.le_of_ble_eq_true rfl⟩) (fun ce q9 H1 hz hk hce hcv hcl => ?_)
    exact jx_out hxt hlocks hz hk hce hcv hcl (Nat.le_of_ble_eq_true rfl) (Nat.le_of_ble_eq_true rfl)
set_option maxHeartbeats 1000000 in
set_option maxRecDepth 100000 in
theorem gJ_sorted_1s (l : Launch) (hnt : l.stackTraces = false) (D : va_G) (cI cL cQ : ClassId) (h0 : Nat) (tl : Nat) (tr : Nat) (cu : Nat) (bk : Nat) (a : Nat) (n : Nat) (pl : Nat) (lk : Nat) (lv : Nat) (lo : Nat) (lp : Nat) (ll : Nat) (lf : Nat) (x : Int32) (y : Int32) (h1 : ¬ x < 0) (h2 : ¬ nI n ≤ x) (h3 : ¬ y < 0) (h4 : ¬ 3 ≤ y) : vx_Met l yX5_sorted wsX5_sorted ({ frames := 7, cells := 1, slots := 6, locals := 102 }) (jt_P D vwCl (jT cI cL cQ) cL cQ [.ref h0, .int 1, .int x, .int y] [(h0, .inr (5, [.ref tl, .ref tr, .ref cu, .ref bk, .int 0])), (tl, .inr (4, [.int (nI a), .ref lk, .ref lv, .ref lo, .ref lp, .ref ll, .ref lf, .int (nI n), .int (nI pl)]))]) (fun _ _ _ _ => False) (jx_X "java/lang/IllegalStateException") 1 6 (fun _ => False) := by
  refine vx_ofW (cc := cX5_sorted) (maxL := 5) (ret := (some .int)) (by decide) rfl ?_
  intro p e s m args below meth c s₁ B hml hxt hv
  obtain ⟨rfl, hP, hK, hN, hZ⟩ := hv
  have hx := B.exec
  have hb := B.bytes
  have hr := B.returns
  have hts := atoms_spec (ws := wsX5_sorted) B.pre
  have hown : s.vm.findClass RX5 = some m.cls := findClass_of_methodNamed B.named
  have hlocks := B.notSynchronized
  have hl := lv_entry ([.ref h0, .int 1, .int x, .int y]) (n := 5) (Nat.le_of_ble_eq_true rfl)
  rw [lg_entry_eq]
  generalize (lg_sl ([.ref h0, .int 1, .int x, .int y]) ++ List.replicate (5 - (lg_sl ([.ref h0, .int 1, .int x, .int y])).length) Slot.unset).toArray = ls at hl ⊢
  have hl : lv_has ls 5 [(0, .ref h0), (1, .int 1), (2, .int x), (3, .int y)] := hl
  refine lv_aload_n hx hb dX5_sorted_0 rfl (lv_at hl 0 rfl) ?_
  refine lv_iload_n hx hb dX5_sorted_1 rfl (lv_at hl 1 rfl) ?_
  refine jr_callr (va_Run.run (va_runV (As := [.int 1]) (rest := []) ⟨hx, hb, hml, hown, hts⟩ (gJ_tableOf_1 l D cI cL cQ h0 tl tr cu bk 0) (cwV 1 hts gX5_sorted_X5_tableOf rfl rfl rfl (by decide +kernel) ⟨Nat.le_of_ble_eq_true rfl, Nat.le_of_ble_eq_true rfl⟩) (jr_V hK hN hP [0] rfl 5 0 rfl rfl rfl) rfl rfl hl.1 rfl (lv_room (Nat.le_of_ble_eq_true rfl)) dX5_sorted_2 ⟨Nat.le_of_ble_eq_true rfl, Nat.le_of_ble_eq_true rfl⟩)) (fun r f_1 => ?_)
  obtain er_2 := f_1
  subst r
  refine lv_astore (lv' := [(4, .ref tl), (0, .ref h0), (1, .int 1), (2, .int x), (3, .int y)]) hx hb dX5_sorted_5 hl (by decide) rfl (fun ls hl => ?_)
  refine lv_aload hx hb dX5_sorted_7 (lv_at hl 0 rfl) ?_
  refine lv_iload_n hx hb dX5_sorted_9 rfl (lv_at hl 3 rfl) ?_
  refine vp_callSi (va_Run.run (va_runV (As := [.int x]) (rest := []) ⟨hx, hb, hml, hown, hts⟩ (gT_has l D cI cL cQ tl a n pl lk lv lo lp ll lf x) (cwV 1 hts gX5_sorted_X4_has rfl rfl rfl (by decide +kernel) ⟨Nat.le_of_ble_eq_true rfl, Nat.le_of_ble_eq_true rfl⟩) (jr_V hK hN hP [1] rfl 4 1 rfl rfl rfl) rfl rfl hl.1 rfl (lv_room (Nat.le_of_ble_eq_true rfl)) dX5_sorted_10 ⟨Nat.le_of_ble_eq_true rfl, Nat.le_of_ble_eq_true rfl⟩)) (fun r f_3 => ?_)
  rcases f_3 with ⟨rfl, f_4, f_5⟩ | ⟨rfl, f_6⟩
  · refine lv_if_eq (tgt := 28) hx hb dX5_sorted_13 (by decide) (fun c_7 => absurd c_7 (by decide)) (fun c_7 => ?_)
    refine lv_iload_n hx hb dX5_sorted_16 rfl (lv_at hl 4 rfl) ?_
    refine lv_iconst (v := 3) hx hb dX5_sorted_17 (by decide) ?_
    refine vp_callSi (va_Run.run (va_runS (As := [.int y, .int 3]) (rest := []) ⟨hx, hb, hml, hown, hts⟩ (gJ_isBelow l D cI cL cQ y 3) (va_cwS 2 hts gX5_sorted_X5_isBelow rfl rfl rfl (by decide +kernel) ⟨Nat.le_of_ble_eq_true rfl, Nat.le_of_ble_eq_true rfl⟩) (jr_S hK hN hP [] rfl) rfl rfl hl.1 rfl (lv_room (Nat.le_of_ble_eq_true rfl)) dX5_sorted_18 ⟨Nat.le_of_ble_eq_true rfl, Nat.le_of_ble_eq_true rfl⟩)) (fun r f_8 => ?_)
    rcases f_8 with ⟨rfl, f_9, f_10⟩ | ⟨rfl, f_11⟩
    · refine lv_if_eq (tgt := 28) hx hb dX5_sorted_21 (by decide) (fun c_12 => absurd c_12 (by decide)) (fun c_12 => ?_)
      refine lv_iconst (v := 1) hx hb dX5_sorted_24 (by decide) ?_
      refine lv_goto (tgt := 29) hx hb dX5_sorted_25 (by decide) ?_
      refine va_csv (va_Run.run (va_runS (As := [.int 1]) (rest := []) ⟨hx, hb, hml, hown, hts⟩ (gJ_requireArgument_ok l D cI cL cQ) (va_cwS 1 hts gX5_sorted_X5_requireArgument rfl rfl rfl (by decide +kernel) ⟨Nat.le_of_ble_eq_true rfl, Nat.le_of_ble_eq_true rfl⟩) (jr_S hK hN hP [] rfl) rfl rfl hl.1 rfl (lv_room (Nat.le_of_ble_eq_true rfl)) dX5_sorted_29 ⟨Nat.le_of_ble_eq_true rfl, Nat.le_of_ble_eq_true rfl⟩)) (fun f_13 => ?_)
      refine lv_aload_n hx hb dX5_sorted_32 rfl (lv_at hl 1 rfl) ?_
      refine va_get (D := D) (ci := 5) (v := .int 0) (C := RX5) (T := TX5) (N := 5) hx hb hts (by decide +kernel) hown hK hP 0 rfl rfl 4 (by decide) (hts (.fieldLink RX5 41 "JoinDesk" "prepared" "Z") (by decide +kernel)) (fun _ h9 => h9) rfl dX5_sorted_33 ?_
      refine jx_thr (vx_runS (As := [.int 0]) (rest := []) ⟨hx, hb, hml, hown, hts⟩ (cJ_requireState_t l hnt D cI cL cQ) (va_cwS 1 hts gX5_sorted_X5_requireState rfl rfl rfl (by decide +kernel) ⟨Nat.le_of_ble_eq_true rfl, Nat.le_of_ble_eq_true rfl⟩) (jt_S hK hN hZ hP [] rfl) rfl rfl hl.1 rfl (lv_room (Nat.le_of_ble_eq_true rfl)) dX5_sorted_36 ⟨Nat.le_of_ble_eq_true rfl, Nat.le_of_ble_eq_true rfl⟩) (fun ce q9 H1 hz hk hce hcv hcl => ?_)
      exact jx_out hxt hlocks hz hk hce hcv hcl (Nat.le_of_ble_eq_true rfl) (Nat.le_of_ble_eq_true rfl)
    · exact False.elim (f_11.elim h3 h4)
  · exact False.elim (f_6.elim h1 h2)
set_option maxHeartbeats 1000000 in
set_option maxRecDepth 100000 in
theorem gJ_rows_01 (l : Launch) (D : va_G) (cI cL cQ : ClassId) (h0 : Nat) (tl : Nat) (tr : Nat) (cu : Nat) (bk : Nat) (a2 : Nat) (n2 : Nat) (pl2 : Nat) (rk : Nat) (rv : Nat) (ro : Nat) (rp : Nat) (rl : Nat) (rf : Nat) (hl_ : Nat → Int32) (ha2 : a2 ≤ 400) (hn2 : n2 ≤ a2) : Met l yX5_rows wsX5_rows ({ frames := 1, cells := 0, slots := 0, locals := 21 }) (jr_P D vwCl (jT cI cL cQ) cL cQ [.ref h0, .int 0, .int 1] [(h0, .inr (5, [.ref tl, .ref tr, .ref cu, .ref bk, .int 1])), (tr, .inr (4, [.int (nI a2), .ref rk, .ref rv, .ref ro, .ref rp, .ref rl, .ref rf, .int (nI n2), .int (nI pl2)])), (rl, .inl (cI, a2 + 1, .inl hl_))]) (vp_Si (fun r : Int32 => r = nI n2 - jsum n2 hl_ (nI n2))) 0 0 (fun _ => False) := by
  refine Met.ofW (cc := cX5_rows) (maxL := 5) (ret := (some .int)) (by decide) rfl ?_
  intro p e s m args below meth c s₁ B hml hv
  obtain ⟨rfl, hP, hK, hN⟩ := hv
  have hx := B.exec
  have hb := B.bytes
  have hr := B.returns
  have hts := atoms_spec (ws := wsX5_rows) B.pre
  have hown : s.vm.findClass RX5 = some m.cls := findClass_of_methodNamed B.named
  have hlocks := B.notSynchronized
  have hl := lv_entry ([.ref h0, .int 0, .int 1]) (n := 5) (Nat.le_of_ble_eq_true rfl)
  rw [lg_entry_eq]
  generalize (lg_sl ([.ref h0, .int 0, .int 1]) ++ List.replicate (5 - (lg_sl ([.ref h0, .int 0, .int 1])).length) Slot.unset).toArray = ls at hl ⊢
  have hl : lv_has ls 5 [(0, .ref h0), (1, .int 0), (2, .int 1)] := hl
  refine lv_aload_n hx hb dX5_rows_0 rfl (lv_at hl 0 rfl) ?_
  refine va_get (D := D) (ci := 5) (v := .int 1) (C := RX5) (T := TX5) (N := 5) hx hb hts (by decide +kernel) hown hK hP 0 rfl rfl 4 (by decide) (hts (.fieldLink RX5 41 "JoinDesk" "prepared" "Z") (by decide +kernel)) (fun _ h9 => h9) rfl dX5_rows_1 ?_
  refine va_csv (va_Run.run (va_runS (As := [.int 1]) (rest := []) ⟨hx, hb, hml, hown, hts⟩ (gJ_requireState_ok l D cI cL cQ) (va_cwS 1 hts gX5_rows_X5_requireState rfl rfl rfl (by decide +kernel) ⟨Nat.le_of_ble_eq_true rfl, Nat.le_of_ble_eq_true rfl⟩) (jr_S hK hN hP [] rfl) rfl rfl hl.1 rfl (lv_room (Nat.le_of_ble_eq_true rfl)) dX5_rows_4 ⟨Nat.le_of_ble_eq_true rfl, Nat.le_of_ble_eq_true rfl⟩)) (fun f_1 => ?_)
  refine lv_aload_n hx hb dX5_rows_7 rfl (lv_at hl 0 rfl) ?_
  refine lv_iload_n hx hb dX5_rows_8 rfl (lv_at hl 1 rfl) ?_
  refine jr_callr (va_Run.run (va_runV (As := [.int 0]) (rest := []) ⟨hx, hb, hml, hown, hts⟩ (gJ_tableOf_0 l D cI cL cQ h0 tl tr cu bk 1) (cwV 1 hts gX5_rows_X5_tableOf rfl rfl rfl (by decide +kernel) ⟨Nat.le_of_ble_eq_true rfl, Nat.le_of_ble_eq_true rfl⟩) (jr_V hK hN hP [0] rfl 5 0 rfl rfl rfl) rfl rfl hl.1 rfl (lv_room (Nat.le_of_ble_eq_true rfl)) dX5_rows_9 ⟨Nat.le_of_ble_eq_true rfl, Nat.le_of_ble_eq_true rfl⟩)) (fun r f_2 => ?_)
  obtain er_3 := f_2
  subst r
  refine lv_astore_n (lv' := [(3, .ref tr), (0, .ref h0), (1, .int 0), (2, .int 1)]) hx hb dX5_rows_12 rfl hl (by decide) rfl (fun ls hl => ?_)
  refine lv_aload_n hx hb dX5_rows_13 rfl (lv_at hl 0 rfl) ?_
  refine lv_aload_n hx hb dX5_rows_14 rfl (lv_at hl 0 rfl) ?_
  refine vp_callSi (va_Run.run (va_runV (As := []) (rest := [.ref tr]) ⟨hx, hb, hml, hown, hts⟩ (gT_size l D cI cL cQ tr a2 n2 pl2 rk rv ro rp rl rf) (cwV 0 hts gX5_rows_X4_size rfl rfl rfl (by decide +kernel) ⟨Nat.le_of_ble_eq_true rfl, Nat.le_of_ble_eq_true rfl⟩) (jr_V hK hN hP [1] rfl 4 1 rfl rfl rfl) rfl rfl hl.1 rfl (lv_room (Nat.le_of_ble_eq_true rfl)) dX5_rows_15 ⟨Nat.le_of_ble_eq_true rfl, Nat.le_of_ble_eq_true rfl⟩)) (fun r f_4 => ?_)
  obtain rfl := f_4
  refine vp_callSi (va_Run.run (va_runV (As := [.int (nI n2)]) (rest := []) ⟨hx, hb, hml, hown, hts⟩ (gT_loneBefore l D cI cL cQ tr a2 n2 pl2 rk rv ro rp rl rf hl_ (nI n2) (by first | assumption | decide | omega) (by first | assumption | decide | omega)) (cwV 1 hts gX5_rows_X4_loneBefore rfl rfl rfl (by decide +kernel) ⟨Nat.le_of_ble_eq_true rfl, Nat.le_of_ble_eq_true rfl⟩) (jr_V hK hN hP [1, 2] rfl 4 1 rfl rfl rfl) rfl rfl hl.1 rfl (lv_room (Nat.le_of_ble_eq_true rfl)) dX5_rows_18 ⟨Nat.le_of_ble_eq_true rfl, Nat.le_of_ble_eq_true rfl⟩)) (fun r f_5 => ?_)
  obtain rfl := f_5
  refine lv_istore (lv' := [(4, .int (jsum n2 hl_ (nI n2))), (3, .ref tr), (0, .ref h0), (1, .int 0), (2, .int 1)]) hx hb dX5_rows_21 hl (by decide) rfl (fun ls hl => ?_)
  refine lv_iload_n hx hb dX5_rows_23 rfl (lv_at hl 4 rfl) ?_
  refine lv_if_eq (tgt := 37) hx hb dX5_rows_24 (by decide) (fun c_6 => absurd c_6 (by decide)) (fun c_6 => ?_)
  refine lv_aload_n hx hb dX5_rows_27 rfl (lv_at hl 1 rfl) ?_
  refine vp_callSi (va_Run.run (va_runV (As := []) (rest := []) ⟨hx, hb, hml, hown, hts⟩ (gT_size l D cI cL cQ tr a2 n2 pl2 rk rv ro rp rl rf) (cwV 0 hts gX5_rows_X4_size rfl rfl rfl (by decide +kernel) ⟨Nat.le_of_ble_eq_true rfl, Nat.le_of_ble_eq_true rfl⟩) (jr_V hK hN hP [1] rfl 4 1 rfl rfl rfl) rfl rfl hl.1 rfl (lv_room (Nat.le_of_ble_eq_true rfl)) dX5_rows_28 ⟨Nat.le_of_ble_eq_true rfl, Nat.le_of_ble_eq_true rfl⟩)) (fun r f_7 => ?_)
  obtain rfl := f_7
  refine lv_iload hx hb dX5_rows_31 (lv_at hl 0 rfl) ?_
  refine lv_isub hx hb dX5_rows_33 ?_
  refine lv_goto (tgt := 39) hx hb dX5_rows_34 (by decide) ?_
  exact W.iret (v := (nI n2) - (jsum n2 hl_ (nI n2))) hx hb hr (fun t ht hW => ⟨((nI n2) - (jsum n2 hl_ (nI n2))), rfl, (by exact rfl), ht⟩) (fun _ h => nomatch h) dX5_rows_39
set_option maxHeartbeats 1000000 in
set_option maxRecDepth 100000 in
theorem gJ_rows_00 (l : Launch) (D : va_G) (cI cL cQ : ClassId) (h0 : Nat) (tl : Nat) (tr : Nat) (cu : Nat) (bk : Nat) (a2 : Nat) (n2 : Nat) (pl2 : Nat) (rk : Nat) (rv : Nat) (ro : Nat) (rp : Nat) (rl : Nat) (rf : Nat) (hl_ : Nat → Int32) (ha2 : a2 ≤ 400) (hn2 : n2 ≤ a2) : Met l yX5_rows wsX5_rows ({ frames := 1, cells := 0, slots := 0, locals := 21 }) (jr_P D vwCl (jT cI cL cQ) cL cQ [.ref h0, .int 0, .int 0] [(h0, .inr (5, [.ref tl, .ref tr, .ref cu, .ref bk, .int 1])), (tr, .inr (4, [.int (nI a2), .ref rk, .ref rv, .ref ro, .ref rp, .ref rl, .ref rf, .int (nI n2), .int (nI pl2)])), (rl, .inl (cI, a2 + 1, .inl hl_))]) (vp_Si (fun r : Int32 => r = jsum n2 hl_ (nI n2))) 0 0 (fun _ => False) := by
  refine Met.ofW (cc := cX5_rows) (maxL := 5) (ret := (some .int)) (by decide) rfl ?_
  intro p e s m args below meth c s₁ B hml hv
  obtain ⟨rfl, hP, hK, hN⟩ := hv
  have hx := B.exec
  have hb := B.bytes
  have hr := B.returns
  have hts := atoms_spec (ws := wsX5_rows) B.pre
  have hown : s.vm.findClass RX5 = some m.cls := findClass_of_methodNamed B.named
  have hlocks := B.notSynchronized
  have hl := lv_entry ([.ref h0, .int 0, .int 0]) (n := 5) (Nat.le_of_ble_eq_true rfl)
  rw [lg_entry_eq]
  generalize (lg_sl ([.ref h0, .int 0, .int 0]) ++ List.replicate (5 - (lg_sl ([.ref h0, .int 0, .int 0])).length) Slot.unset).toArray = ls at hl ⊢
  have hl : lv_has ls 5 [(0, .ref h0), (1, .int 0), (2, .int 0)] := hl
  refine lv_aload_n hx hb dX5_rows_0 rfl (lv_at hl 0 rfl) ?_
  refine va_get (D := D) (ci := 5) (v := .int 1) (C := RX5) (T := TX5) (N := 5) hx hb hts (by decide +kernel) hown hK hP 0 rfl rfl 4 (by decide) (hts (.fieldLink RX5 41 "JoinDesk" "prepared" "Z") (by decide +kernel)) (fun _ h9 => h9) rfl dX5_rows_1 ?_
  refine va_csv (va_Run.run (va_runS (As := [.int 1]) (rest := []) ⟨hx, hb, hml, hown, hts⟩ (gJ_requireState_ok l D cI cL cQ) (va_cwS 1 hts gX5_rows_X5_requireState rfl rfl rfl (by decide +kernel) ⟨Nat.le_of_ble_eq_true rfl, Nat.le_of_ble_eq_true rfl⟩) (jr_S hK hN hP [] rfl) rfl rfl hl.1 rfl (lv_room (Nat.le_of_ble_eq_true rfl)) dX5_rows_4 ⟨Nat.le_of_ble_eq_true rfl, Nat.le_of_ble_eq_true rfl⟩)) (fun f_1 => ?_)
  refine lv_aload_n hx hb dX5_rows_7 rfl (lv_at hl 0 rfl) ?_
  refine lv_iload_n hx hb dX5_rows_8 rfl (lv_at hl 1 rfl) ?_
  refine jr_callr (va_Run.run (va_runV (As := [.int 0]) (rest := []) ⟨hx, hb, hml, hown, hts⟩ (gJ_tableOf_0 l D cI cL cQ h0 tl tr cu bk 1) (cwV 1 hts gX5_rows_X5_tableOf rfl rfl rfl (by decide +kernel) ⟨Nat.le_of_ble_eq_true rfl, Nat.le_of_ble_eq_true rfl⟩) (jr_V hK hN hP [0] rfl 5 0 rfl rfl rfl) rfl rfl hl.1 rfl (lv_room (Nat.le_of_ble_eq_true rfl)) dX5_rows_9 ⟨Nat.le_of_ble_eq_true rfl, Nat.le_of_ble_eq_true rfl⟩)) (fun r f_2 => ?_)
  obtain er_3 := f_2
  subst r
  refine lv_astore_n (lv' := [(3, .ref tr), (0, .ref h0), (1, .int 0), (2, .int 0)]) hx hb dX5_rows_12 rfl hl (by decide) rfl (fun ls hl => ?_)
  refine lv_aload_n hx hb dX5_rows_13 rfl (lv_at hl 0 rfl) ?_
  refine lv_aload_n hx hb dX5_rows_14 rfl (lv_at hl 0 rfl) ?_
  refine vp_callSi (va_Run.run (va_runV (As := []) (rest := [.ref tr]) ⟨hx, hb, hml, hown, hts⟩ (gT_size l D cI cL cQ tr a2 n2 pl2 rk rv ro rp rl rf) (cwV 0 hts gX5_rows_X4_size rfl rfl rfl (by decide +kernel) ⟨Nat.le_of_ble_eq_true rfl, Nat.le_of_ble_eq_true rfl⟩) (jr_V hK hN hP [1] rfl 4 1 rfl rfl rfl) rfl rfl hl.1 rfl (lv_room (Nat.le_of_ble_eq_true rfl)) dX5_rows_15 ⟨Nat.le_of_ble_eq_true rfl, Nat.le_of_ble_eq_true rfl⟩)) (fun r f_4 => ?_)
  obtain rfl := f_4
  refine vp_callSi (va_Run.run (va_runV (As := [.int (nI n2)]) (rest := []) ⟨hx, hb, hml, hown, hts⟩ (gT_loneBefore l D cI cL cQ tr a2 n2 pl2 rk rv ro rp rl rf hl_ (nI n2) (by first | assumption | decide | omega) (by first | assumption | decide | omega)) (cwV 1 hts gX5_rows_X4_loneBefore rfl rfl rfl (by decide +kernel) ⟨Nat.le_of_ble_eq_true rfl, Nat.le_of_ble_eq_true rfl⟩) (jr_V hK hN hP [1, 2] rfl 4 1 rfl rfl rfl) rfl rfl hl.1 rfl (lv_room (Nat.le_of_ble_eq_true rfl)) dX5_rows_18 ⟨Nat.le_of_ble_eq_true rfl, Nat.le_of_ble_eq_true rfl⟩)) (fun r f_5 => ?_)
  obtain rfl := f_5
  refine lv_istore (lv' := [(4, .int (jsum n2 hl_ (nI n2))), (3, .ref tr), (0, .ref h0), (1, .int 0), (2, .int 0)]) hx hb dX5_rows_21 hl (by decide) rfl (fun ls hl => ?_)
  refine lv_iload_n hx hb dX5_rows_23 rfl (lv_at hl 4 rfl) ?_
  refine lv_if_eq (tgt := 37) hx hb dX5_rows_24 (by decide) (fun c_6 => ?_) (fun c_6 => absurd c_6 (by decide))
  refine lv_iload hx hb dX5_rows_37 (lv_at hl 0 rfl) ?_
  exact W.iret (v := jsum n2 hl_ (nI n2)) hx hb hr (fun t ht hW => ⟨(jsum n2 hl_ (nI n2)), rfl, (by exact rfl), ht⟩) (fun _ h => nomatch h) dX5_rows_39
set_option maxHeartbeats 1000000 in
set_option maxRecDepth 100000 in
theorem gJ_sorted_00 (l : Launch) (D : va_G) (cI cL cQ : ClassId) (h0 : Nat) (tl : Nat) (tr : Nat) (cu : Nat) (bk : Nat) (a2 : Nat) (n2 : Nat) (pl2 : Nat) (rk : Nat) (rv : Nat) (ro : Nat) (rp : Nat) (rl : Nat) (rf : Nat) (hk : Nat → Int32) (hv : Nat → Int32) (ho_ : Nat → Int32) (x : Int32) (ha2 : a2 ≤ 400) (hn2 : n2 ≤ a2) (ho : jord a2 ho_) (h1 : ¬ x < 0) (h2 : ¬ nI n2 ≤ x) : Met l yX5_sorted wsX5_sorted ({ frames := 2, cells := 0, slots := 0, locals := 42 }) (jr_P D vwCl (jT cI cL cQ) cL cQ [.ref h0, .int 0, .int x, .int 0] [(h0, .inr (5, [.ref tl, .ref tr, .ref cu, .ref bk, .int 1])), (tr, .inr (4, [.int (nI a2), .ref rk, .ref rv, .ref ro, .ref rp, .ref rl, .ref rf, .int (nI n2), .int (nI pl2)])), (rk, .inl (cI, a2, .inl hk)), (rv, .inl (cI, a2, .inl hv)), (ro, .inl (cI, a2, .inl ho_))]) (vp_Si (fun r : Int32 => r = jat n2 hk ho_ x)) 0 0 (fun _ => False) := by
  refine Met.ofW (cc := cX5_sorted) (maxL := 5) (ret := (some .int)) (by decide) rfl ?_
  intro p e s m args below meth c s₁ B hml hv
  obtain ⟨rfl, hP, hK, hN⟩ := hv
  have hx := B.exec
  have hb := B.bytes
  have hr := B.returns
  have hts := atoms_spec (ws := wsX5_sorted) B.pre
  have hown : s.vm.findClass RX5 = some m.cls := findClass_of_methodNamed B.named
  have hlocks := B.notSynchronized
  have hl := lv_entry ([.ref h0, .int 0, .int x, .int 0]) (n := 5) (Nat.le_of_ble_eq_true rfl)
  rw [lg_entry_eq]
  generalize (lg_sl ([.ref h0, .int 0, .int x, .int 0]) ++ List.replicate (5 - (lg_sl ([.ref h0, .int 0, .int x, .int 0])).length) Slot.unset).toArray = ls at hl ⊢
  have hl : lv_has ls 5 [(0, .ref h0), (1, .int 0), (2, .int x), (3, .int 0)] := hl
  refine lv_aload_n hx hb dX5_sorted_0 rfl (lv_at hl 0 rfl) ?_
  refine lv_iload_n hx hb dX5_sorted_1 rfl (lv_at hl 1 rfl) ?_
  refine jr_callr (va_Run.run (va_runV (As := [.int 0]) (rest := []) ⟨hx, hb, hml, hown, hts⟩ (gJ_tableOf_0 l D cI cL cQ h0 tl tr cu bk 1) (cwV 1 hts gX5_sorted_X5_tableOf rfl rfl rfl (by decide +kernel) ⟨Nat.le_of_ble_eq_true rfl, Nat.le_of_ble_eq_true rfl⟩) (jr_V hK hN hP [0] rfl 5 0 rfl rfl rfl) rfl rfl hl.1 rfl (lv_room (Nat.le_of_ble_eq_true rfl)) dX5_sorted_2 ⟨Nat.le_of_ble_eq_true rfl, Nat.le_of_ble_eq_true rfl⟩)) (fun r f_1 => ?_)
  obtain er_2 := f_1
  subst r
  refine lv_astore (lv' := [(4, .ref tr), (0, .ref h0), (1, .int 0), (2, .int x), (3, .int 0)]) hx hb dX5_sorted_5 hl (by decide) rfl (fun ls hl => ?_)
  refine lv_aload hx hb dX5_sorted_7 (lv_at hl 0 rfl) ?_
  refine lv_iload_n hx hb dX5_sorted_9 rfl (lv_at hl 3 rfl) ?_
  refine vp_callSi (va_Run.run (va_runV (As := [.int x]) (rest := []) ⟨hx, hb, hml, hown, hts⟩ (gT_has l D cI cL cQ tr a2 n2 pl2 rk rv ro rp rl rf x) (cwV 1 hts gX5_sorted_X4_has rfl rfl rfl (by decide +kernel) ⟨Nat.le_of_ble_eq_true rfl, Nat.le_of_ble_eq_true rfl⟩) (jr_V hK hN hP [1] rfl 4 1 rfl rfl rfl) rfl rfl hl.1 rfl (lv_room (Nat.le_of_ble_eq_true rfl)) dX5_sorted_10 ⟨Nat.le_of_ble_eq_true rfl, Nat.le_of_ble_eq_true rfl⟩)) (fun r f_3 => ?_)
  rcases f_3 with ⟨rfl, f_4, f_5⟩ | ⟨rfl, f_6⟩
  · refine lv_if_eq (tgt := 28) hx hb dX5_sorted_13 (by decide) (fun c_7 => absurd c_7 (by decide)) (fun c_7 => ?_)
    refine lv_iload_n hx hb dX5_sorted_16 rfl (lv_at hl 4 rfl) ?_
    refine lv_iconst (v := 3) hx hb dX5_sorted_17 (by decide) ?_
    refine vp_callSi (va_Run.run (va_runS (As := [.int 0, .int 3]) (rest := []) ⟨hx, hb, hml, hown, hts⟩ (gJ_isBelow l D cI cL cQ 0 3) (va_cwS 2 hts gX5_sorted_X5_isBelow rfl rfl rfl (by decide +kernel) ⟨Nat.le_of_ble_eq_true rfl, Nat.le_of_ble_eq_true rfl⟩) (jr_S hK hN hP [] rfl) rfl rfl hl.1 rfl (lv_room (Nat.le_of_ble_eq_true rfl)) dX5_sorted_18 ⟨Nat.le_of_ble_eq_true rfl, Nat.le_of_ble_eq_true rfl⟩)) (fun r f_8 => ?_)
    rcases f_8 with ⟨rfl, f_9, f_10⟩ | ⟨rfl, f_11⟩
    · refine lv_if_eq (tgt := 28) hx hb dX5_sorted_21 (by decide) (fun c_12 => absurd c_12 (by decide)) (fun c_12 => ?_)
      refine lv_iconst (v := 1) hx hb dX5_sorted_24 (by decide) ?_
      refine lv_goto (tgt := 29) hx hb dX5_sorted_25 (by decide) ?_
      refine va_csv (va_Run.run (va_runS (As := [.int 1]) (rest := []) ⟨hx, hb, hml, hown, hts⟩ (gJ_requireArgument_ok l D cI cL cQ) (va_cwS 1 hts gX5_sorted_X5_requireArgument rfl rfl rfl (by decide +kernel) ⟨Nat.le_of_ble_eq_true rfl, Nat.le_of_ble_eq_true rfl⟩) (jr_S hK hN hP [] rfl) rfl rfl hl.1 rfl (lv_room (Nat.le_of_ble_eq_true rfl)) dX5_sorted_29 ⟨Nat.le_of_ble_eq_true rfl, Nat.le_of_ble_eq_true rfl⟩)) (fun f_13 => ?_)
      refine lv_aload_n hx hb dX5_sorted_32 rfl (lv_at hl 1 rfl) ?_
      refine va_get (D := D) (ci := 5) (v := .int 1) (C := RX5) (T := TX5) (N := 5) hx hb hts (by decide +kernel) hown hK hP 0 rfl rfl 4 (by decide) (hts (.fieldLink RX5 41 "JoinDesk" "prepared" "Z") (by decide +kernel)) (fun _ h9 => h9) rfl dX5_sorted_33 ?_
      refine va_csv (va_Run.run (va_runS (As := [.int 1]) (rest := []) ⟨hx, hb, hml, hown, hts⟩ (gJ_requireState_ok l D cI cL cQ) (va_cwS 1 hts gX5_sorted_X5_requireState rfl rfl rfl (by decide +kernel) ⟨Nat.le_of_ble_eq_true rfl, Nat.le_of_ble_eq_true rfl⟩) (jr_S hK hN hP [] rfl) rfl rfl hl.1 rfl (lv_room (Nat.le_of_ble_eq_true rfl)) dX5_sorted_36 ⟨Nat.le_of_ble_eq_true rfl, Nat.le_of_ble_eq_true rfl⟩)) (fun f_14 => ?_)
      refine lv_iload_n hx hb dX5_sorted_39 rfl (lv_at hl 4 rfl) ?_
      refine lv_lookup (off := 28) (tgt := 68) hx hb dX5_sorted_40 (by decide) (by decide) (by decide) ?_
      refine lv_aload hx hb dX5_sorted_68 (lv_at hl 0 rfl) ?_
      refine lv_iload_n hx hb dX5_sorted_70 rfl (lv_at hl 3 rfl) ?_
      refine vp_callSi (va_Run.run (va_runV (As := [.int x]) (rest := []) ⟨hx, hb, hml, hown, hts⟩ (gT_keyAt l D cI cL cQ tr a2 n2 pl2 rk rv ro rp rl rf hk ho_ x (by first | assumption | decide | omega) (by first | assumption | decide | omega) (by first | assumption | decide | omega)) (cwV 1 hts gX5_sorted_X4_keyAt rfl rfl rfl (by decide +kernel) ⟨Nat.le_of_ble_eq_true rfl, Nat.le_of_ble_eq_true rfl⟩) (jr_V hK hN hP [1, 2, 4] rfl 4 1 rfl rfl rfl) rfl rfl hl.1 rfl (lv_room (Nat.le_of_ble_eq_true rfl)) dX5_sorted_71 ⟨Nat.le_of_ble_eq_true rfl, Nat.le_of_ble_eq_true rfl⟩)) (fun r f_15 => ?_)
      obtain rfl := f_15
      exact W.iret (v := jat n2 hk ho_ x) hx hb hr (fun t ht hW => ⟨(jat n2 hk ho_ x), rfl, (by exact rfl), ht⟩) (fun _ h => nomatch h) dX5_sorted_74
    · exact False.elim (by revert f_11; decide)
  · exact False.elim (f_6.elim h1 h2)
set_option maxHeartbeats 1000000 in
set_option maxRecDepth 100000 in
theorem gJ_sorted_01 (l : Launch) (D : va_G) (cI cL cQ : ClassId) (h0 : Nat) (tl : Nat) (tr : Nat) (cu : Nat) (bk : Nat) (a2 : Nat) (n2 : Nat) (pl2 : Nat) (rk : Nat) (rv : Nat) (ro : Nat) (rp : Nat) (rl : Nat) (rf : Nat) (hk : Nat → Int32) (hv : Nat → Int32) (ho_ : Nat → Int32) (x : Int32) (ha2 : a2 ≤ 400) (hn2 : n2 ≤ a2) (ho : jord a2 ho_) (h1 : ¬ x < 0) (h2 : ¬ nI n2 ≤ x) : Met l yX5_sorted wsX5_sorted ({ frames := 2, cells := 0, slots := 0, locals := 42 }) (jr_P D vwCl (jT cI cL cQ) cL cQ [.ref h0, .int 0, .int x, .int 1] [(h0, .inr (5, [.ref tl, .ref tr, .ref cu, .ref bk, .int 1])), (tr, .inr (4, [.int (nI a2), .ref rk, .ref rv, .ref ro, .ref rp, .ref rl, .ref rf, .int (nI n2), .int (nI pl2)])), (rk, .inl (cI, a2, .inl hk)), (rv, .inl (cI, a2, .inl hv)), (ro, .inl (cI, a2, .inl ho_))]) (vp_Si (fun r : Int32 => r = jat n2 hv ho_ x)) 0 0 (fun _ => False) := by
  refine Met.ofW (cc := cX5_sorted) (maxL := 5) (ret := (some .int)) (by decide) rfl ?_
  intro p e s m args below meth c s₁ B hml hv
  obtain ⟨rfl, hP, hK, hN⟩ := hv
  have hx := B.exec
  have hb := B.bytes
  have hr := B.returns
  have hts := atoms_spec (ws := wsX5_sorted) B.pre
  have hown : s.vm.findClass RX5 = some m.cls := findClass_of_methodNamed B.named
  have hlocks := B.notSynchronized
  have hl := lv_entry ([.ref h0, .int 0, .int x, .int 1]) (n := 5) (Nat.le_of_ble_eq_true rfl)
  rw [lg_entry_eq]
  generalize (lg_sl ([.ref h0, .int 0, .int x, .int 1]) ++ List.replicate (5 - (lg_sl ([.ref h0, .int 0, .int x, .int 1])).length) Slot.unset).toArray = ls at hl ⊢
  have hl : lv_has ls 5 [(0, .ref h0), (1, .int 0), (2, .int x), (3, .int 1)] := hl
  refine lv_aload_n hx hb dX5_sorted_0 rfl (lv_at hl 0 rfl) ?_
  refine lv_iload_n hx hb dX5_sorted_1 rfl (lv_at hl 1 rfl) ?_
  refine jr_callr (va_Run.run (va_runV (As := [.int 0]) (rest := []) ⟨hx, hb, hml, hown, hts⟩ (gJ_tableOf_0 l D cI cL cQ h0 tl tr cu bk 1) (cwV 1 hts gX5_sorted_X5_tableOf rfl rfl rfl (by decide +kernel) ⟨Nat.le_of_ble_eq_true rfl, Nat.le_of_ble_eq_true rfl⟩) (jr_V hK hN hP [0] rfl 5 0 rfl rfl rfl) rfl rfl hl.1 rfl (lv_room (Nat.le_of_ble_eq_true rfl)) dX5_sorted_2 ⟨Nat.le_of_ble_eq_true rfl, Nat.le_of_ble_eq_true rfl⟩)) (fun r f_1 => ?_)
  obtain er_2 := f_1
  subst r
  refine lv_astore (lv' := [(4, .ref tr), (0, .ref h0), (1, .int 0), (2, .int x), (3, .int 1)]) hx hb dX5_sorted_5 hl (by decide) rfl (fun ls hl => ?_)
  refine lv_aload hx hb dX5_sorted_7 (lv_at hl 0 rfl) ?_
  refine lv_iload_n hx hb dX5_sorted_9 rfl (lv_at hl 3 rfl) ?_
  refine vp_callSi (va_Run.run (va_runV (As := [.int x]) (rest := []) ⟨hx, hb, hml, hown, hts⟩ (gT_has l D cI cL cQ tr a2 n2 pl2 rk rv ro rp rl rf x) (cwV 1 hts gX5_sorted_X4_has rfl rfl rfl (by decide +kernel) ⟨Nat.le_of_ble_eq_true rfl, Nat.le_of_ble_eq_true rfl⟩) (jr_V hK hN hP [1] rfl 4 1 rfl rfl rfl) rfl rfl hl.1 rfl (lv_room (Nat.le_of_ble_eq_true rfl)) dX5_sorted_10 ⟨Nat.le_of_ble_eq_true rfl, Nat.le_of_ble_eq_true rfl⟩)) (fun r f_3 => ?_)
  rcases f_3 with ⟨rfl, f_4, f_5⟩ | ⟨rfl, f_6⟩
  · refine lv_if_eq (tgt := 28) hx hb dX5_sorted_13 (by decide) (fun c_7 => absurd c_7 (by decide)) (fun c_7 => ?_)
    refine lv_iload_n hx hb dX5_sorted_16 rfl (lv_at hl 4 rfl) ?_
    refine lv_iconst (v := 3) hx hb dX5_sorted_17 (by decide) ?_
    refine vp_callSi (va_Run.run (va_runS (As := [.int 1, .int 3]) (rest := []) ⟨hx, hb, hml, hown, hts⟩ (gJ_isBelow l D cI cL cQ 1 3) (va_cwS 2 hts gX5_sorted_X5_isBelow rfl rfl rfl (by decide +kernel) ⟨Nat.le_of_ble_eq_true rfl, Nat.le_of_ble_eq_true rfl⟩) (jr_S hK hN hP [] rfl) rfl rfl hl.1 rfl (lv_room (Nat.le_of_ble_eq_true rfl)) dX5_sorted_18 ⟨Nat.le_of_ble_eq_true rfl, Nat.le_of_ble_eq_true rfl⟩)) (fun r f_8 => ?_)
    rcases f_8 with ⟨rfl, f_9, f_10⟩ | ⟨rfl, f_11⟩
    · refine lv_if_eq (tgt := 28) hx hb dX5_sorted_21 (by decide) (fun c_12 => absurd c_12 (by decide)) (fun c_12 => ?_)
      refine lv_iconst (v := 1) hx hb dX5_sorted_24 (by decide) ?_
      refine lv_goto (tgt := 29) hx hb dX5_sorted_25 (by decide) ?_
      refine va_csv (va_Run.run (va_runS (As := [.int 1]) (rest := []) ⟨hx, hb, hml, hown, hts⟩ (gJ_requireArgument_ok l D cI cL cQ) (va_cwS 1 hts gX5_sorted_X5_requireArgument rfl rfl rfl (by decide +kernel) ⟨Nat.le_of_ble_eq_true rfl, Nat.le_of_ble_eq_true rfl⟩) (jr_S hK hN hP [] rfl) rfl rfl hl.1 rfl (lv_room (Nat.le_of_ble_eq_true rfl)) dX5_sorted_29 ⟨Nat.le_of_ble_eq_true rfl, Nat.le_of_ble_eq_true rfl⟩)) (fun f_13 => ?_)
      refine lv_aload_n hx hb dX5_sorted_32 rfl (lv_at hl 1 rfl) ?_
      refine va_get (D := D) (ci := 5) (v := .int 1) (C := RX5) (T := TX5) (N := 5) hx hb hts (by decide +kernel) hown hK hP 0 rfl rfl 4 (by decide) (hts (.fieldLink RX5 41 "JoinDesk" "prepared" "Z") (by decide +kernel)) (fun _ h9 => h9) rfl dX5_sorted_33 ?_
      refine va_csv (va_Run.run (va_runS (As := [.int 1]) (rest := []) ⟨hx, hb, hml, hown, hts⟩ (gJ_requireState_ok l D cI cL cQ) (va_cwS 1 hts gX5_sorted_X5_requireState rfl rfl rfl (by decide +kernel) ⟨Nat.le_of_ble_eq_true rfl, Nat.le_of_ble_eq_true rfl⟩) (jr_S hK hN hP [] rfl) rfl rfl hl.1 rfl (lv_room (Nat.le_of_ble_eq_true rfl)) dX5_sorted_36 ⟨Nat.le_of_ble_eq_true rfl, Nat.le_of_ble_eq_true rfl⟩)) (fun f_14 => ?_)
      refine lv_iload_n hx hb dX5_sorted_39 rfl (lv_at hl 4 rfl) ?_
      refine lv_lookup (off := 35) (tgt := 75) hx hb dX5_sorted_40 (by decide) (by decide) (by decide) ?_
      refine lv_aload hx hb dX5_sorted_75 (lv_at hl 0 rfl) ?_
      refine lv_iload_n hx hb dX5_sorted_77 rfl (lv_at hl 3 rfl) ?_
      refine vp_callSi (va_Run.run (va_runV (As := [.int x]) (rest := []) ⟨hx, hb, hml, hown, hts⟩ (gT_valueAt l D cI cL cQ tr a2 n2 pl2 rk rv ro rp rl rf hv ho_ x (by first | assumption | decide | omega) (by first | assumption | decide | omega) (by first | assumption | decide | omega)) (cwV 1 hts gX5_sorted_X4_valueAt rfl rfl rfl (by decide +kernel) ⟨Nat.le_of_ble_eq_true rfl, Nat.le_of_ble_eq_true rfl⟩) (jr_V hK hN hP [1, 3, 4] rfl 4 1 rfl rfl rfl) rfl rfl hl.1 rfl (lv_room (Nat.le_of_ble_eq_true rfl)) dX5_sorted_78 ⟨Nat.le_of_ble_eq_true rfl, Nat.le_of_ble_eq_true rfl⟩)) (fun r f_15 => ?_)
      obtain rfl := f_15
      exact W.iret (v := jat n2 hv ho_ x) hx hb hr (fun t ht hW => ⟨(jat n2 hv ho_ x), rfl, (by exact rfl), ht⟩) (fun _ h => nomatch h) dX5_sorted_81
    · exact False.elim (by revert f_11; decide)
  · exact False.elim (f_6.elim h1 h2)
set_option maxHeartbeats 1000000 in
set_option maxRecDepth 100000 in
theorem gJ_sorted_02 (l : Launch) (D : va_G) (cI cL cQ : ClassId) (h0 : Nat) (tl : Nat) (tr : Nat) (cu : Nat) (bk : Nat) (a2 : Nat) (n2 : Nat) (pl2 : Nat) (rk : Nat) (rv : Nat) (ro : Nat) (rp : Nat) (rl : Nat) (rf : Nat) (hk : Nat → Int32) (hv : Nat → Int32) (ho_ : Nat → Int32) (x : Int32) (ha2 : a2 ≤ 400) (hn2 : n2 ≤ a2) (ho : jord a2 ho_) (h1 : ¬ x < 0) (h2 : ¬ nI n2 ≤ x) : Met l yX5_sorted wsX5_sorted ({ frames := 2, cells := 0, slots := 0, locals := 42 }) (jr_P D vwCl (jT cI cL cQ) cL cQ [.ref h0, .int 0, .int x, .int 2] [(h0, .inr (5, [.ref tl, .ref tr, .ref cu, .ref bk, .int 1])), (tr, .inr (4, [.int (nI a2), .ref rk, .ref rv, .ref ro, .ref rp, .ref rl, .ref rf, .int (nI n2), .int (nI pl2)])), (rk, .inl (cI, a2, .inl hk)), (rv, .inl (cI, a2, .inl hv)), (ro, .inl (cI, a2, .inl ho_))]) (vp_Si (fun r : Int32 => r = jnum n2 ho_ x)) 0 0 (fun _ => False) := by
  refine Met.ofW (cc := cX5_sorted) (maxL := 5) (ret := (some .int)) (by decide) rfl ?_
  intro p e s m args below meth c s₁ B hml hv
  obtain ⟨rfl, hP, hK, hN⟩ := hv
  have hx := B.exec
  have hb := B.bytes
  have hr := B.returns
  have hts := atoms_spec (ws := wsX5_sorted) B.pre
  have hown : s.vm.findClass RX5 = some m.cls := findClass_of_methodNamed B.named
  have hlocks := B.notSynchronized
  have hl := lv_entry ([.ref h0, .int 0, .int x, .int 2]) (n := 5) (Nat.le_of_ble_eq_true rfl)
  rw [lg_entry_eq]
  generalize (lg_sl ([.ref h0, .int 0, .int x, .int 2]) ++ List.replicate (5 - (lg_sl ([.ref h0, .int 0, .int x, .int 2])).length) Slot.unset).toArray = ls at hl ⊢
  have hl : lv_has ls 5 [(0, .ref h0), (1, .int 0), (2, .int x), (3, .int 2)] := hl
  refine lv_aload_n hx hb dX5_sorted_0 rfl (lv_at hl 0 rfl) ?_
  refine lv_iload_n hx hb dX5_sorted_1 rfl (lv_at hl 1 rfl) ?_
  refine jr_callr (va_Run.run (va_runV (As := [.int 0]) (rest := []) ⟨hx, hb, hml, hown, hts⟩ (gJ_tableOf_0 l D cI cL cQ h0 tl tr cu bk 1) (cwV 1 hts gX5_sorted_X5_tableOf rfl rfl rfl (by decide +kernel) ⟨Nat.le_of_ble_eq_true rfl, Nat.le_of_ble_eq_true rfl⟩) (jr_V hK hN hP [0] rfl 5 0 rfl rfl rfl) rfl rfl hl.1 rfl (lv_room (Nat.le_of_ble_eq_true rfl)) dX5_sorted_2 ⟨Nat.le_of_ble_eq_true rfl, Nat.le_of_ble_eq_true rfl⟩)) (fun r f_1 => ?_)
  obtain er_2 := f_1
  subst r
  refine lv_astore (lv' := [(4, .ref tr), (0, .ref h0), (1, .int 0), (2, .int x), (3, .int 2)]) hx hb dX5_sorted_5 hl (by decide) rfl (fun ls hl => ?_)
  refine lv_aload hx hb dX5_sorted_7 (lv_at hl 0 rfl) ?_
  refine lv_iload_n hx hb dX5_sorted_9 rfl (lv_at hl 3 rfl) ?_
  refine vp_callSi (va_Run.run (va_runV (As := [.int x]) (rest := []) ⟨hx, hb, hml, hown, hts⟩ (gT_has l D cI cL cQ tr a2 n2 pl2 rk rv ro rp rl rf x) (cwV 1 hts gX5_sorted_X4_has rfl rfl rfl (by decide +kernel) ⟨Nat.le_of_ble_eq_true rfl, Nat.le_of_ble_eq_true rfl⟩) (jr_V hK hN hP [1] rfl 4 1 rfl rfl rfl) rfl rfl hl.1 rfl (lv_room (Nat.le_of_ble_eq_true rfl)) dX5_sorted_10 ⟨Nat.le_of_ble_eq_true rfl, Nat.le_of_ble_eq_true rfl⟩)) (fun r f_3 => ?_)
  rcases f_3 with ⟨rfl, f_4, f_5⟩ | ⟨rfl, f_6⟩
  · refine lv_if_eq (tgt := 28) hx hb dX5_sorted_13 (by decide) (fun c_7 => absurd c_7 (by decide)) (fun c_7 => ?_)
    refine lv_iload_n hx hb dX5_sorted_16 rfl (lv_at hl 4 rfl) ?_
    refine lv_iconst (v := 3) hx hb dX5_sorted_17 (by decide) ?_
    refine vp_callSi (va_Run.run (va_runS (As := [.int 2, .int 3]) (rest := []) ⟨hx, hb, hml, hown, hts⟩ (gJ_isBelow l D cI cL cQ 2 3) (va_cwS 2 hts gX5_sorted_X5_isBelow rfl rfl rfl (by decide +kernel) ⟨Nat.le_of_ble_eq_true rfl, Nat.le_of_ble_eq_true rfl⟩) (jr_S hK hN hP [] rfl) rfl rfl hl.1 rfl (lv_room (Nat.le_of_ble_eq_true rfl)) dX5_sorted_18 ⟨Nat.le_of_ble_eq_true rfl, Nat.le_of_ble_eq_true rfl⟩)) (fun r f_8 => ?_)
    rcases f_8 with ⟨rfl, f_9, f_10⟩ | ⟨rfl, f_11⟩
    · refine lv_if_eq (tgt := 28) hx hb dX5_sorted_21 (by decide) (fun c_12 => absurd c_12 (by decide)) (fun c_12 => ?_)
      refine lv_iconst (v := 1) hx hb dX5_sorted_24 (by decide) ?_
      refine lv_goto (tgt := 29) hx hb dX5_sorted_25 (by decide) ?_
      refine va_csv (va_Run.run (va_runS (As := [.int 1]) (rest := []) ⟨hx, hb, hml, hown, hts⟩ (gJ_requireArgument_ok l D cI cL cQ) (va_cwS 1 hts gX5_sorted_X5_requireArgument rfl rfl rfl (by decide +kernel) ⟨Nat.le_of_ble_eq_true rfl, Nat.le_of_ble_eq_true rfl⟩) (jr_S hK hN hP [] rfl) rfl rfl hl.1 rfl (lv_room (Nat.le_of_ble_eq_true rfl)) dX5_sorted_29 ⟨Nat.le_of_ble_eq_true rfl, Nat.le_of_ble_eq_true rfl⟩)) (fun f_13 => ?_)
      refine lv_aload_n hx hb dX5_sorted_32 rfl (lv_at hl 1 rfl) ?_
      refine va_get (D := D) (ci := 5) (v := .int 1) (C := RX5) (T := TX5) (N := 5) hx hb hts (by decide +kernel) hown hK hP 0 rfl rfl 4 (by decide) (hts (.fieldLink RX5 41 "JoinDesk" "prepared" "Z") (by decide +kernel)) (fun _ h9 => h9) rfl dX5_sorted_33 ?_
      refine va_csv (va_Run.run (va_runS (As := [.int 1]) (rest := []) ⟨hx, hb, hml, hown, hts⟩ (gJ_requireState_ok l D cI cL cQ) (va_cwS 1 hts gX5_sorted_X5_requireState rfl rfl rfl (by decide +kernel) ⟨Nat.le_of_ble_eq_true rfl, Nat.le_of_ble_eq_true rfl⟩) (jr_S hK hN hP [] rfl) rfl rfl hl.1 rfl (lv_room (Nat.le_of_ble_eq_true rfl)) dX5_sorted_36 ⟨Nat.le_of_ble_eq_true rfl, Nat.le_of_ble_eq_true rfl⟩)) (fun f_14 => ?_)
      refine lv_iload_n hx hb dX5_sorted_39 rfl (lv_at hl 4 rfl) ?_
      refine lv_lookup (off := 42) (tgt := 82) hx hb dX5_sorted_40 (by decide) (by decide) (by decide) ?_
      refine lv_aload hx hb dX5_sorted_82 (lv_at hl 0 rfl) ?_
      refine lv_iload_n hx hb dX5_sorted_84 rfl (lv_at hl 3 rfl) ?_
      refine vp_callSi (va_Run.run (va_runV (As := [.int x]) (rest := []) ⟨hx, hb, hml, hown, hts⟩ (gT_numberAt l D cI cL cQ tr a2 n2 pl2 rk rv ro rp rl rf ho_ x (by first | assumption | decide | omega) (by first | assumption | decide | omega)) (cwV 1 hts gX5_sorted_X4_numberAt rfl rfl rfl (by decide +kernel) ⟨Nat.le_of_ble_eq_true rfl, Nat.le_of_ble_eq_true rfl⟩) (jr_V hK hN hP [1, 4] rfl 4 1 rfl rfl rfl) rfl rfl hl.1 rfl (lv_room (Nat.le_of_ble_eq_true rfl)) dX5_sorted_85 ⟨Nat.le_of_ble_eq_true rfl, Nat.le_of_ble_eq_true rfl⟩)) (fun r f_15 => ?_)
      obtain rfl := f_15
      exact W.iret (v := jnum n2 ho_ x) hx hb hr (fun t ht hW => ⟨(jnum n2 ho_ x), rfl, (by exact rfl), ht⟩) (fun _ h => nomatch h) dX5_sorted_88
    · exact False.elim (by revert f_11; decide)
  · exact False.elim (f_6.elim h1 h2)
set_option maxHeartbeats 1000000 in
set_option maxRecDepth 100000 in
theorem gJ_sorted_0a (l : Launch) (hnt : l.stackTraces = false) (D : va_G) (cI cL cQ : ClassId) (h0 : Nat) (tl : Nat) (tr : Nat) (cu : Nat) (bk : Nat) (a2 : Nat) (n2 : Nat) (pl2 : Nat) (rk : Nat) (rv : Nat) (ro : Nat) (rp : Nat) (rl : Nat) (rf : Nat) (pr : Int32) (x : Int32) (y : Int32) (h1 : (x < 0 ∨ nI n2 ≤ x) ∨ (y < 0 ∨ 3 ≤ y)) : vx_Met l yX5_sorted wsX5_sorted ({ frames := 7, cells := 1, slots := 6, locals := 102 }) (jt_P D vwCl (jT cI cL cQ) cL cQ [.ref h0, .int 0, .int x, .int y] [(h0, .inr (5, [.ref tl, .ref tr, .ref cu, .ref bk, .int pr])), (tr, .inr (4, [.int (nI a2), .ref rk, .ref rv, .ref ro, .ref rp, .ref rl, .ref rf, .int (nI n2), .int (nI pl2)]))]) (fun _ _ _ _ => False) (jx_X "java/lang/IllegalArgumentException") 1 6 (fun _ => False) := by
  refine vx_ofW (cc := cX5_sorted) (maxL := 5) (ret := (some .int)) (by decide) rfl ?_
  intro p e s m args below meth c s₁ B hml hxt hv
  obtain ⟨rfl, hP, hK, hN, hZ⟩ := hv
  have hx := B.exec
  have hb := B.bytes
  have hr := B.returns
  have hts := atoms_spec (ws := wsX5_sorted) B.pre
  have hown : s.vm.findClass RX5 = some m.cls := findClass_of_methodNamed B.named
  have hlocks := B.notSynchronized
  have hl := lv_entry ([.ref h0, .int 0, .int x, .int y]) (n := 5) (Nat.le_of_ble_eq_true rfl)
  rw [lg_entry_eq]
  generalize (lg_sl ([.ref h0, .int 0, .int x, .int y]) ++ List.replicate (5 - (lg_sl ([.ref h0, .int 0, .int x, .int y])).length) Slot.unset).toArray = ls at hl ⊢
  have hl : lv_has ls 5 [(0, .ref h0), (1, .int 0), (2, .int x), (3, .int y)] := hl
  refine lv_aload_n hx hb dX5_sorted_0 rfl (lv_at hl 0 rfl) ?_
  refine lv_iload_n hx hb dX5_sorted_1 rfl (lv_at hl 1 rfl) ?_
  refine jr_callr (va_Run.run (va_runV (As := [.int 0]) (rest := []) ⟨hx, hb, hml, hown, hts⟩ (gJ_tableOf_0 l D cI cL cQ h0 tl tr cu bk pr) (cwV 1 hts gX5_sorted_X5_tableOf rfl rfl rfl (by decide +kernel) ⟨Nat.le_of_ble_eq_true rfl, Nat.le_of_ble_eq_true rfl⟩) (jr_V hK hN hP [0] rfl 5 0 rfl rfl rfl) rfl rfl hl.1 rfl (lv_room (Nat.le_of_ble_eq_true rfl)) dX5_sorted_2 ⟨Nat.le_of_ble_eq_true rfl, Nat.le_of_ble_eq_true rfl⟩)) (fun r f_1 => ?_)
  obtain er_2 := f_1
  subst r
  refine lv_astore (lv' := [(4, .ref tr), (0, .ref h0), (1, .int 0), (2, .int x), (3, .int y)]) hx hb dX5_sorted_5 hl (by decide) rfl (fun ls hl => ?_)
  refine lv_aload hx hb dX5_sorted_7 (lv_at hl 0 rfl) ?_
  refine lv_iload_n hx hb dX5_sorted_9 rfl (lv_at hl 3 rfl) ?_
  refine vp_callSi (va_Run.run (va_runV (As := [.int x]) (rest := []) ⟨hx, hb, hml, hown, hts⟩ (gT_has l D cI cL cQ tr a2 n2 pl2 rk rv ro rp rl rf x) (cwV 1 hts gX5_sorted_X4_has rfl rfl rfl (by decide +kernel) ⟨Nat.le_of_ble_eq_true rfl, Nat.le_of_ble_eq_true rfl⟩) (jr_V hK hN hP [1] rfl 4 1 rfl rfl rfl) rfl rfl hl.1 rfl (lv_room (Nat.le_of_ble_eq_true rfl)) dX5_sorted_10 ⟨Nat.le_of_ble_eq_true rfl, Nat.le_of_ble_eq_true rfl⟩)) (fun r f_3 => ?_)
  rcases f_3 with ⟨rfl, f_4, f_5⟩ | ⟨rfl, f_6⟩
  · refine lv_if_eq (tgt := 28) hx hb dX5_sorted_13 (by decide) (fun c_7 => absurd c_7 (by decide)) (fun c_7 => ?_)
    refine lv_iload_n hx hb dX5_sorted_16 rfl (lv_at hl 4 rfl) ?_
    refine lv_iconst (v := 3) hx hb dX5_sorted_17 (by decide) ?_
    refine vp_callSi (va_Run.run (va_runS (As := [.int y, .int 3]) (rest := []) ⟨hx, hb, hml, hown, hts⟩ (gJ_isBelow l D cI cL cQ y 3) (va_cwS 2 hts gX5_sorted_X5_isBelow rfl rfl rfl (by decide +kernel) ⟨Nat.le_of_ble_eq_true rfl, Nat.le_of_ble_eq_true rfl⟩) (jr_S hK hN hP [] rfl) rfl rfl hl.1 rfl (lv_room (Nat.le_of_ble_eq_true rfl)) dX5_sorted_18 ⟨Nat.le_of_ble_eq_true rfl, Nat.le_of_ble_eq_true rfl⟩)) (fun r f_8 => ?_)
    rcases f_8 with ⟨rfl, f_9, f_10⟩ | ⟨rfl, f_11⟩
    · exact False.elim (h1.elim (fun h => h.elim (by assumption) (by assumption)) (fun h => h.elim f_9 f_10))
    · refine lv_if_eq (tgt := 28) hx hb dX5_sorted_21 (by decide) (fun c_12 => ?_) (fun c_12 => absurd c_12 (by decide))
      refine lv_iconst (v := 0) hx hb dX5_sorted_28 (by decide) ?_
      refine jx_thr (vx_runS (As := [.int 0]) (rest := []) ⟨hx, hb, hml, hown, hts⟩ (cJ_requireArgument_t l hnt D cI cL cQ) (va_cwS 1 hts gX5_sorted_X5_requireArgument rfl rfl rfl (by decide +kernel) ⟨Nat.le_of_ble_eq_true rfl, Nat.le_of_ble_eq_true rfl⟩) (jt_S hK hN hZ hP [] rfl) rfl rfl hl.1 rfl (lv_room (Nat.le_of_ble_eq_true rfl)) dX5_sorted_29 ⟨Nat.le_of_ble_eq_true rfl, Nat.le_of_ble_eq_true rfl⟩) (fun ce q9 H1 hz hk hce hcv hcl => ?_)
      exact jx_out hxt hlocks hz hk hce hcv hcl (Nat.le_of_ble_eq_true rfl) (Nat.le_of_ble_eq_true rfl)
  · refine lv_if_eq (tgt := 28) hx hb dX5_sorted_13 (by decide) (fun c_13 => ?_) (fun c_13 => absurd c_13 (by decide))
    refine lv_iconst (v := 0) hx hb dX5_sorted_28 (by decide) ?_
    refine jx_thr (vx_runS (As := [.int 0]) (rest := []) ⟨hx, hb, hml, hown, hts⟩ (cJ_requireArgument_t l hnt D cI cL cQ) (va_cwS 1 hts gX5_sorted_X5_requireArgument rfl rfl rfl (by decide +kernel) ⟨Nat.le_of_ble_eq_true rfl, Nat.le_of_ble_eq_true rfl⟩) (jt_S hK hN hZ hP [] rfl) rfl rfl hl.1 rfl (lv_room (Nat.le_of_ble_eq_true rfl)) dX5_sorted_29 ⟨Nat.le_of_ble_eq_true rfl, Nat.le_of_ble_eq_true rfl⟩) (fun ce q9 H1 hz hk hce hcv hcl => ?_)
    exact jx_out hxt hlocks hz hk hce hcv hcl (Nat.le_of_ble_eq_true rfl) (Nat.le_of_ble_eq_true rfl)
set_option maxHeartbeats 1000000 in
set_option maxRecDepth 100000 in
theorem gJ_sorted_0s (l : Launch) (hnt : l.stackTraces = false) (D : va_G) (cI cL cQ : ClassId) (h0 : Nat) (tl : Nat) (tr : Nat) (cu : Nat) (bk : Nat) (a2 : Nat) (n2 : Nat) (pl2 : Nat) (rk : Nat) (rv : Nat) (ro : Nat) (rp : Nat) (rl : Nat) (rf : Nat) (x : Int32) (y : Int32) (h1 : ¬ x < 0) (h2 : ¬ nI n2 ≤ x) (h3 : ¬ y < 0) (h4 : ¬ 3 ≤ y) : vx_Met l yX5_sorted wsX5_sorted ({ frames := 7, cells := 1, slots := 6, locals := 102 }) (jt_P D vwCl (jT cI cL cQ) cL cQ [.ref h0, .int 0, .int x, .int y] [(h0, .inr (5, [.ref tl, .ref tr, .ref cu, .ref bk, .int 0])), (tr, .inr (4, [.int (nI a2), .ref rk, .ref rv, .ref ro, .ref rp, .ref rl, .ref rf, .int (nI n2), .int (nI pl2)]))]) (fun _ _ _ _ => False) (jx_X "java/lang/IllegalStateException") 1 6 (fun _ => False) := by
  refine vx_ofW (cc := cX5_sorted) (maxL := 5) (ret := (some .int)) (by decide) rfl ?_
  intro p e s m args below meth c s₁ B hml hxt hv
  obtain ⟨rfl, hP, hK, hN, hZ⟩ := hv
  have hx := B.exec
  have hb := B.bytes
  have hr := B.returns
  have hts := atoms_spec (ws := wsX5_sorted) B.pre
  have hown : s.vm.findClass RX5 = some m.cls := findClass_of_methodNamed B.named
  have hlocks := B.notSynchronized
  have hl := lv_entry ([.ref h0, .int 0, .int x, .int y]) (n := 5) (Nat.le_of_ble_eq_true rfl)
  rw [lg_entry_eq]
  generalize (lg_sl ([.ref h0, .int 0, .int x, .int y]) ++ List.replicate (5 - (lg_sl ([.ref h0, .int 0, .int x, .int y])).length) Slot.unset).toArray = ls at hl ⊢
  have hl : lv_has ls 5 [(0, .ref h0), (1, .int 0), (2, .int x), (3, .int y)] := hl
  refine lv_aload_n hx hb dX5_sorted_0 rfl (lv_at hl 0 rfl) ?_
  refine lv_iload_n hx hb dX5_sorted_1 rfl (lv_at hl 1 rfl) ?_
  refine jr_callr (va_Run.run (va_runV (As := [.int 0]) (rest := []) ⟨hx, hb, hml, hown, hts⟩ (gJ_tableOf_0 l D cI cL cQ h0 tl tr cu bk 0) (cwV 1 hts gX5_sorted_X5_tableOf rfl rfl rfl (by decide +kernel) ⟨Nat.le_of_ble_eq_true rfl, Nat.le_of_ble_eq_true rfl⟩) (jr_V hK hN hP [0] rfl 5 0 rfl rfl rfl) rfl rfl hl.1 rfl (lv_room (Nat.le_of_ble_eq_true rfl)) dX5_sorted_2 ⟨Nat.le_of_ble_eq_true rfl, Nat.le_of_ble_eq_true rfl⟩)) (fun r f_1 => ?_)
  obtain er_2 := f_1
  subst r
  refine lv_astore (lv' := [(4, .ref tr), (0, .ref h0), (1, .int 0), (2, .int x), (3, .int y)]) hx hb dX5_sorted_5 hl (by decide) rfl (fun ls hl => ?_)
  refine lv_aload hx hb dX5_sorted_7 (lv_at hl 0 rfl) ?_
  refine lv_iload_n hx hb dX5_sorted_9 rfl (lv_at hl 3 rfl) ?_
  refine vp_callSi (va_Run.run (va_runV (As := [.int x]) (rest := []) ⟨hx, hb, hml, hown, hts⟩ (gT_has l D cI cL cQ tr a2 n2 pl2 rk rv ro rp rl rf x) (cwV 1 hts gX5_sorted_X4_has rfl rfl rfl (by decide +kernel) ⟨Nat.le_of_ble_eq_true rfl, Nat.le_of_ble_eq_true rfl⟩) (jr_V hK hN hP [1] rfl 4 1 rfl rfl rfl) rfl rfl hl.1 rfl (lv_room (Nat.le_of_ble_eq_true rfl)) dX5_sorted_10 ⟨Nat.le_of_ble_eq_true rfl, Nat.le_of_ble_eq_true rfl⟩)) (fun r f_3 => ?_)
  rcases f_3 with ⟨rfl, f_4, f_5⟩ | ⟨rfl, f_6⟩
  · refine lv_if_eq (tgt := 28) hx hb dX5_sorted_13 (by decide) (fun c_7 => absurd c_7 (by decide)) (fun c_7 => ?_)
    refine lv_iload_n hx hb dX5_sorted_16 rfl (lv_at hl 4 rfl) ?_
    refine lv_iconst (v := 3) hx hb dX5_sorted_17 (by decide) ?_
    refine vp_callSi (va_Run.run (va_runS (As := [.int y, .int 3]) (rest := []) ⟨hx, hb, hml, hown, hts⟩ (gJ_isBelow l D cI cL cQ y 3) (va_cwS 2 hts gX5_sorted_X5_isBelow rfl rfl rfl (by decide +kernel) ⟨Nat.le_of_ble_eq_true rfl, Nat.le_of_ble_eq_true rfl⟩) (jr_S hK hN hP [] rfl) rfl rfl hl.1 rfl (lv_room (Nat.le_of_ble_eq_true rfl)) dX5_sorted_18 ⟨Nat.le_of_ble_eq_true rfl, Nat.le_of_ble_eq_true rfl⟩)) (fun r f_8 => ?_)
    rcases f_8 with ⟨rfl, f_9, f_10⟩ | ⟨rfl, f_11⟩
    · refine lv_if_eq (tgt := 28) hx hb dX5_sorted_21 (by decide) (fun c_12 => absurd c_12 (by decide)) (fun c_12 => ?_)
      refine lv_iconst (v := 1) hx hb dX5_sorted_24 (by decide) ?_
      refine lv_goto (tgt := 29) hx hb dX5_sorted_25 (by decide) ?_
      refine va_csv (va_Run.run (va_runS (As := [.int 1]) (rest := []) ⟨hx, hb, hml, hown, hts⟩ (gJ_requireArgument_ok l D cI cL cQ) (va_cwS 1 hts gX5_sorted_X5_requireArgument rfl rfl rfl (by decide +kernel) ⟨Nat.le_of_ble_eq_true rfl, Nat.le_of_ble_eq_true rfl⟩) (jr_S hK hN hP [] rfl) rfl rfl hl.1 rfl (lv_room (Nat.le_of_ble_eq_true rfl)) dX5_sorted_29 ⟨Nat.le_of_ble_eq_true rfl, Nat.le_of_ble_eq_true rfl⟩)) (fun f_13 => ?_)
      refine lv_aload_n hx hb dX5_sorted_32 rfl (lv_at hl 1 rfl) ?_
      refine va_get (D := D) (ci := 5) (v := .int 0) (C := RX5) (T := TX5) (N := 5) hx hb hts (by decide +kernel) hown hK hP 0 rfl rfl 4 (by decide) (hts (.fieldLink RX5 41 "JoinDesk" "prepared" "Z") (by decide +kernel)) (fun _ h9 => h9) rfl dX5_sorted_33 ?_
      refine jx_thr (vx_runS (As := [.int 0]) (rest := []) ⟨hx, hb, hml, hown, hts⟩ (cJ_requireState_t l hnt D cI cL cQ) (va_cwS 1 hts gX5_sorted_X5_requireState rfl rfl rfl (by decide +kernel) ⟨Nat.le_of_ble_eq_true rfl, Nat.le_of_ble_eq_true rfl⟩) (jt_S hK hN hZ hP [] rfl) rfl rfl hl.1 rfl (lv_room (Nat.le_of_ble_eq_true rfl)) dX5_sorted_36 ⟨Nat.le_of_ble_eq_true rfl, Nat.le_of_ble_eq_true rfl⟩) (fun ce q9 H1 hz hk hce hcv hcl => ?_)
      exact jx_out hxt hlocks hz hk hce hcv hcl (Nat.le_of_ble_eq_true rfl) (Nat.le_of_ble_eq_true rfl)
    · exact False.elim (f_11.elim h3 h4)
  · exact False.elim (f_6.elim h1 h2)
set_option maxHeartbeats 1000000 in
set_option maxRecDepth 100000 in
theorem gJ_pair_t (l : Launch) (hnt : l.stackTraces = false) (D : va_G) (cI cL cQ : ClassId) (h0 : Nat) (tl : Nat) (tr : Nat) (cu : Nat) (bk : Nat) (pr : Int32) (x : Int32) (h1 : x < 0 ∨ 5 ≤ x) : vx_Met l yX5_pair wsX5_pair ({ frames := 7, cells := 1, slots := 6, locals := 102 }) (jt_P D vwCl (jT cI cL cQ) cL cQ [.ref h0, .int x] [(h0, .inr (5, [.ref tl, .ref tr, .ref cu, .ref bk, .int pr]))]) (fun _ _ _ _ => False) (jx_X "java/lang/IllegalArgumentException") 1 6 (fun _ => False) := by
  refine vx_ofW (cc := cX5_pair) (maxL := 4) (ret := (some .int)) (by decide) rfl ?_
  intro p e s m args below meth c s₁ B hml hxt hv
  obtain ⟨rfl, hP, hK, hN, hZ⟩ := hv
  have hx := B.exec
  have hb := B.bytes
  have hr := B.returns
  have hts := atoms_spec (ws := wsX5_pair) B.pre
  have hown : s.vm.findClass RX5 = some m.cls := findClass_of_methodNamed B.named
  have hlocks := B.notSynchronized
  have hl := lv_entry ([.ref h0, .int x]) (n := 4) (Nat.le_of_ble_eq_true rfl)
  rw [lg_entry_eq]
  generalize (lg_sl ([.ref h0, .int x]) ++ List.replicate (4 - (lg_sl ([.ref h0, .int x])).length) Slot.unset).toArray = ls at hl ⊢
  have hl : lv_has ls 4 [(0, .ref h0), (1, .int x)] := hl
  refine lv_iload_n hx hb dX5_pair_0 rfl (lv_at hl 1 rfl) ?_
  refine lv_iconst (v := 5) hx hb dX5_pair_1 (by decide) ?_
  refine vp_callSi (va_Run.run (va_runS (As := [.int x, .int 5]) (rest := []) ⟨hx, hb, hml, hown, hts⟩ (gJ_isBelow l D cI cL cQ x 5) (va_cwS 2 hts gX5_pair_X5_isBelow rfl rfl rfl (by decide +kernel) ⟨Nat.le_of_ble_eq_true rfl, Nat.le_of_ble_eq_true rfl⟩) (jr_S hK hN hP [] rfl) rfl rfl hl.1 rfl (lv_room (Nat.le_of_ble_eq_true rfl)) dX5_pair_2 ⟨Nat.le_of_ble_eq_true rfl, Nat.le_of_ble_eq_true rfl⟩)) (fun r f_1 => ?_)
  rcases f_1 with ⟨rfl, f_2, f_3⟩ | ⟨rfl, f_4⟩
  · exact False.elim (h1.elim f_2 f_3)
  · refine jx_thr (vx_runS (As := [.int 0]) (rest := []) ⟨hx, hb, hml, hown, hts⟩ (cJ_requireArgument_t l hnt D cI cL cQ) (va_cwS 1 hts gX5_pair_X5_requireArgument rfl rfl rfl (by decide +kernel) ⟨Nat.le_of_ble_eq_true rfl, Nat.le_of_ble_eq_true rfl⟩) (jt_S hK hN hZ hP [] rfl) rfl rfl hl.1 rfl (lv_room (Nat.le_of_ble_eq_true rfl)) dX5_pair_5 ⟨Nat.le_of_ble_eq_true rfl, Nat.le_of_ble_eq_true rfl⟩) (fun ce q9 H1 hz hk hce hcv hcl => ?_)
    exact jx_out hxt hlocks hz hk hce hcv hcl (Nat.le_of_ble_eq_true rfl) (Nat.le_of_ble_eq_true rfl)
set_option maxHeartbeats 1000000 in
set_option maxRecDepth 100000 in
theorem gJ_pair_10 (l : Launch) (D : va_G) (cI cL cQ : ClassId) (h0 : Nat) (tl : Nat) (tr : Nat) (cu : Nat) (bk : Nat) (he : Nat) (ma : Nat) (hm : Int32) (kd : Int32) (cc0 : Int64) (p0 : Int32) (p1 : Int32) (p2 : Int32) (p3 : Int32) (p4 : Int32) (p5 : Int32) (p6 : Int32) (a : Nat) (n : Nat) (pl : Nat) (a2 : Nat) (n2 : Nat) (pl2 : Nat) (lk : Nat) (lv : Nat) (lo : Nat) (lp : Nat) (ll : Nat) (lf : Nat) (rk : Nat) (rv : Nat) (ro : Nat) (rp : Nat) (rl : Nat) (rf : Nat) (gk : Nat → Int32) (gv : Nat → Int32) (go : Nat → Int32) (hk : Nat → Int32) (hv : Nat → Int32) (ho_ : Nat → Int32) (ha : a ≤ 400) (hn : n ≤ a) (hol : jord a go) (ha2 : a2 ≤ 400) (hn2 : n2 ≤ a2) (hor : jord a2 ho_) : Met l yX5_pair wsX5_pair ({ frames := 2, cells := 0, slots := 0, locals := 42 }) (jr_P D vwCl (jT cI cL cQ) cL cQ [.ref h0, .int 0] [(h0, .inr (5, [.ref tl, .ref tr, .ref cu, .ref bk, .int 1])), (cu, .inr (0, [.ref tl, .ref tr, .ref he, .ref ma, .int hm, .int kd, .long cc0])), (he, .inr (2, [.int p0, .int p1, .int p2, .int p3, .int p4, .int p5, .int p6])), (tl, .inr (4, [.int (nI a), .ref lk, .ref lv, .ref lo, .ref lp, .ref ll, .ref lf, .int (nI n), .int (nI pl)])), (lk, .inl (cI, a, .inl gk)), (lv, .inl (cI, a, .inl gv)), (lo, .inl (cI, a, .inl go)), (tr, .inr (4, [.int (nI a2), .ref rk, .ref rv, .ref ro, .ref rp, .ref rl, .ref rf, .int (nI n2), .int (nI pl2)])), (rk, .inl (cI, a2, .inl hk)), (rv, .inl (cI, a2, .inl hv)), (ro, .inl (cI, a2, .inl ho_))]) (vp_Si (fun r : Int32 => ∃ (z9 : Int32), r = z9)) 0 0 (fun _ => False) := by
  refine Met.ofW (cc := cX5_pair) (maxL := 4) (ret := (some .int)) (by decide) rfl ?_
  intro p e s m args below meth c s₁ B hml hv
  obtain ⟨rfl, hP, hK, hN⟩ := hv
  have hx := B.exec
  have hb := B.bytes
  have hr := B.returns
  have hts := atoms_spec (ws := wsX5_pair) B.pre
  have hown : s.vm.findClass RX5 = some m.cls := findClass_of_methodNamed B.named
  have hlocks := B.notSynchronized
  have hl := lv_entry ([.ref h0, .int 0]) (n := 4) (Nat.le_of_ble_eq_true rfl)
  rw [lg_entry_eq]
  generalize (lg_sl ([.ref h0, .int 0]) ++ List.replicate (4 - (lg_sl ([.ref h0, .int 0])).length) Slot.unset).toArray = ls at hl ⊢
  have hl : lv_has ls 4 [(0, .ref h0), (1, .int 0)] := hl
  refine lv_iload_n hx hb dX5_pair_0 rfl (lv_at hl 1 rfl) ?_
  refine lv_iconst (v := 5) hx hb dX5_pair_1 (by decide) ?_
  refine vp_callSi (va_Run.run (va_runS (As := [.int 0, .int 5]) (rest := []) ⟨hx, hb, hml, hown, hts⟩ (gJ_isBelow l D cI cL cQ 0 5) (va_cwS 2 hts gX5_pair_X5_isBelow rfl rfl rfl (by decide +kernel) ⟨Nat.le_of_ble_eq_true rfl, Nat.le_of_ble_eq_true rfl⟩) (jr_S hK hN hP [] rfl) rfl rfl hl.1 rfl (lv_room (Nat.le_of_ble_eq_true rfl)) dX5_pair_2 ⟨Nat.le_of_ble_eq_true rfl, Nat.le_of_ble_eq_true rfl⟩)) (fun r f_1 => ?_)
  rcases f_1 with ⟨rfl, f_2, f_3⟩ | ⟨rfl, f_4⟩
  · refine va_csv (va_Run.run (va_runS (As := [.int 1]) (rest := []) ⟨hx, hb, hml, hown, hts⟩ (gJ_requireArgument_ok l D cI cL cQ) (va_cwS 1 hts gX5_pair_X5_requireArgument rfl rfl rfl (by decide +kernel) ⟨Nat.le_of_ble_eq_true rfl, Nat.le_of_ble_eq_true rfl⟩) (jr_S hK hN hP [] rfl) rfl rfl hl.1 rfl (lv_room (Nat.le_of_ble_eq_true rfl)) dX5_pair_5 ⟨Nat.le_of_ble_eq_true rfl, Nat.le_of_ble_eq_true rfl⟩)) (fun f_5 => ?_)
    refine lv_aload_n hx hb dX5_pair_8 rfl (lv_at hl 0 rfl) ?_
    refine va_get (D := D) (ci := 5) (v := .int 1) (C := RX5) (T := TX5) (N := 5) hx hb hts (by decide +kernel) hown hK hP 0 rfl rfl 4 (by decide) (hts (.fieldLink RX5 41 "JoinDesk" "prepared" "Z") (by decide +kernel)) (fun _ h9 => h9) rfl dX5_pair_9 ?_
    refine lv_if_eq (tgt := 25) hx hb dX5_pair_12 (by decide) (fun c_6 => absurd c_6 (by decide)) (fun c_6 => ?_)
    refine lv_aload_n hx hb dX5_pair_15 rfl (lv_at hl 0 rfl) ?_
    refine va_get (D := D) (ci := 5) (v := .ref cu) (C := RX5) (T := TX5) (N := 5) hx hb hts (by decide +kernel) hown hK hP 0 rfl rfl 2 (by decide) (hts (.fieldLink RX5 30 "JoinDesk" "cursor" "LJoinDesk$Cursor;") (by decide +kernel)) (fun _ h9 => h9) rfl dX5_pair_16 ?_
    refine vp_callSi (va_Run.run (va_runV (As := []) (rest := []) ⟨hx, hb, hml, hown, hts⟩ (gC_leftPlace l D cI cL cQ cu tl tr he ma hm kd cc0 p0 p1 p2 p3 p4 p5 p6) (cwV 0 hts gX5_pair_X0_leftPlace rfl rfl rfl (by decide +kernel) ⟨Nat.le_of_ble_eq_true rfl, Nat.le_of_ble_eq_true rfl⟩) (jr_V hK hN hP [1, 2] rfl 0 1 rfl rfl rfl) rfl rfl hl.1 rfl (lv_room (Nat.le_of_ble_eq_true rfl)) dX5_pair_19 ⟨Nat.le_of_ble_eq_true rfl, Nat.le_of_ble_eq_true rfl⟩)) (fun r f_7 => ?_)
    obtain er_8 := f_7
    subst r
    refine lv_goto (tgt := 26) hx hb dX5_pair_22 (by decide) ?_
    refine lv_istore_n (lv' := [(2, .int p4), (0, .ref h0), (1, .int 0)]) hx hb dX5_pair_26 rfl hl (by decide) rfl (fun ls hl => ?_)
    refine lv_aload_n hx hb dX5_pair_27 rfl (lv_at hl 1 rfl) ?_
    refine va_get (D := D) (ci := 5) (v := .int 1) (C := RX5) (T := TX5) (N := 5) hx hb hts (by decide +kernel) hown hK hP 0 rfl rfl 4 (by decide) (hts (.fieldLink RX5 41 "JoinDesk" "prepared" "Z") (by decide +kernel)) (fun _ h9 => h9) rfl dX5_pair_28 ?_
    refine lv_if_eq (tgt := 44) hx hb dX5_pair_31 (by decide) (fun c_9 => absurd c_9 (by decide)) (fun c_9 => ?_)
    refine lv_aload_n hx hb dX5_pair_34 rfl (lv_at hl 1 rfl) ?_
    refine va_get (D := D) (ci := 5) (v := .ref cu) (C := RX5) (T := TX5) (N := 5) hx hb hts (by decide +kernel) hown hK hP 0 rfl rfl 2 (by decide) (hts (.fieldLink RX5 30 "JoinDesk" "cursor" "LJoinDesk$Cursor;") (by decide +kernel)) (fun _ h9 => h9) rfl dX5_pair_35 ?_
    refine vp_callSi (va_Run.run (va_runV (As := []) (rest := []) ⟨hx, hb, hml, hown, hts⟩ (gC_rightPlace l D cI cL cQ cu tl tr he ma hm kd cc0 p0 p1 p2 p3 p4 p5 p6) (cwV 0 hts gX5_pair_X0_rightPlace rfl rfl rfl (by decide +kernel) ⟨Nat.le_of_ble_eq_true rfl, Nat.le_of_ble_eq_true rfl⟩) (jr_V hK hN hP [1, 2] rfl 0 1 rfl rfl rfl) rfl rfl hl.1 rfl (lv_room (Nat.le_of_ble_eq_true rfl)) dX5_pair_38 ⟨Nat.le_of_ble_eq_true rfl, Nat.le_of_ble_eq_true rfl⟩)) (fun r f_10 => ?_)
    obtain er_11 := f_10
    subst r
    refine lv_goto (tgt := 45) hx hb dX5_pair_41 (by decide) ?_
    refine lv_istore_n (lv' := [(3, .int p5), (2, .int p4), (0, .ref h0), (1, .int 0)]) hx hb dX5_pair_45 rfl hl (by decide) rfl (fun ls hl => ?_)
    refine lv_iload_n hx hb dX5_pair_46 rfl (lv_at hl 3 rfl) ?_
    refine lv_tableIn (tgt := 76) hx hb dX5_pair_47 (by decide) (by decide) rfl (by decide) ?_
    refine lv_aload_n hx hb dX5_pair_76 rfl (lv_at hl 2 rfl) ?_
    refine va_get (D := D) (ci := 5) (v := .ref tl) (C := RX5) (T := TX5) (N := 5) hx hb hts (by decide +kernel) hown hK hP 0 rfl rfl 0 (by decide) (hts (.fieldLink RX5 18 "JoinDesk" "left" "LJoinDesk$Table;") (by decide +kernel)) (fun _ h9 => h9) rfl dX5_pair_77 ?_
    refine lv_iload_n hx hb dX5_pair_80 rfl (lv_at hl 1 rfl) ?_
    refine vp_callSi (va_Run.run (va_runV (As := [.int p4]) (rest := []) ⟨hx, hb, hml, hown, hts⟩ (gT_has l D cI cL cQ tl a n pl lk lv lo lp ll lf p4) (cwV 1 hts gX5_pair_X4_has rfl rfl rfl (by decide +kernel) ⟨Nat.le_of_ble_eq_true rfl, Nat.le_of_ble_eq_true rfl⟩) (jr_V hK hN hP [3] rfl 4 3 rfl rfl rfl) rfl rfl hl.1 rfl (lv_room (Nat.le_of_ble_eq_true rfl)) dX5_pair_81 ⟨Nat.le_of_ble_eq_true rfl, Nat.le_of_ble_eq_true rfl⟩)) (fun r f_12 => ?_)
    rcases f_12 with ⟨rfl, f_13, f_14⟩ | ⟨rfl, f_15⟩
    · refine lv_if_eq (tgt := 98) hx hb dX5_pair_84 (by decide) (fun c_16 => absurd c_16 (by decide)) (fun c_16 => ?_)
      refine lv_aload_n hx hb dX5_pair_87 rfl (lv_at hl 2 rfl) ?_
      refine va_get (D := D) (ci := 5) (v := .ref tl) (C := RX5) (T := TX5) (N := 5) hx hb hts (by decide +kernel) hown hK hP 0 rfl rfl 0 (by decide) (hts (.fieldLink RX5 18 "JoinDesk" "left" "LJoinDesk$Table;") (by decide +kernel)) (fun _ h9 => h9) rfl dX5_pair_88 ?_
      refine lv_iload_n hx hb dX5_pair_91 rfl (lv_at hl 1 rfl) ?_
      refine vp_callSi (va_Run.run (va_runV (As := [.int p4]) (rest := []) ⟨hx, hb, hml, hown, hts⟩ (gT_keyAt l D cI cL cQ tl a n pl lk lv lo lp ll lf gk go p4 (by first | assumption | decide | omega) (by first | assumption | decide | omega) (by first | assumption | decide | omega)) (cwV 1 hts gX5_pair_X4_keyAt rfl rfl rfl (by decide +kernel) ⟨Nat.le_of_ble_eq_true rfl, Nat.le_of_ble_eq_true rfl⟩) (jr_V hK hN hP [3, 4, 6] rfl 4 3 rfl rfl rfl) rfl rfl hl.1 rfl (lv_room (Nat.le_of_ble_eq_true rfl)) dX5_pair_92 ⟨Nat.le_of_ble_eq_true rfl, Nat.le_of_ble_eq_true rfl⟩)) (fun r f_17 => ?_)
      obtain rfl := f_17
      refine lv_goto (tgt := 106) hx hb dX5_pair_95 (by decide) ?_
      exact W.iret (v := jat n gk go p4) hx hb hr (fun t ht hW => ⟨(jat n gk go p4), rfl, (by exact ⟨_, rfl⟩), ht⟩) (fun _ h => nomatch h) dX5_pair_106
    · refine lv_if_eq (tgt := 98) hx hb dX5_pair_84 (by decide) (fun c_18 => ?_) (fun c_18 => absurd c_18 (by decide))
      refine lv_aload_n hx hb dX5_pair_98 rfl (lv_at hl 2 rfl) ?_
      refine va_get (D := D) (ci := 5) (v := .ref tr) (C := RX5) (T := TX5) (N := 5) hx hb hts (by decide +kernel) hown hK hP 0 rfl rfl 1 (by decide) (hts (.fieldLink RX5 22 "JoinDesk" "right" "LJoinDesk$Table;") (by decide +kernel)) (fun _ h9 => h9) rfl dX5_pair_99 ?_
      refine lv_iload_n hx hb dX5_pair_102 rfl (lv_at hl 0 rfl) ?_
      refine vp_callSi (va_Run.run (va_runV (As := [.int p5]) (rest := []) ⟨hx, hb, hml, hown, hts⟩ (gT_keyAt l D cI cL cQ tr a2 n2 pl2 rk rv ro rp rl rf hk ho_ p5 (by first | assumption | decide | omega) (by first | assumption | decide | omega) (by first | assumption | decide | omega)) (cwV 1 hts gX5_pair_X4_keyAt rfl rfl rfl (by decide +kernel) ⟨Nat.le_of_ble_eq_true rfl, Nat.le_of_ble_eq_true rfl⟩) (jr_V hK hN hP [7, 8, 10] rfl 4 7 rfl rfl rfl) rfl rfl hl.1 rfl (lv_room (Nat.le_of_ble_eq_true rfl)) dX5_pair_103 ⟨Nat.le_of_ble_eq_true rfl, Nat.le_of_ble_eq_true rfl⟩)) (fun r f_19 => ?_)
      obtain rfl := f_19
      exact W.iret (v := jat n2 hk ho_ p5) hx hb hr (fun t ht hW => ⟨(jat n2 hk ho_ p5), rfl, (by exact ⟨_, rfl⟩), ht⟩) (fun _ h => nomatch h) dX5_pair_106
  · exact False.elim (by revert f_4; decide)
set_option maxHeartbeats 1000000 in
set_option maxRecDepth 100000 in
theorem gJ_pair_11 (l : Launch) (D : va_G) (cI cL cQ : ClassId) (h0 : Nat) (tl : Nat) (tr : Nat) (cu : Nat) (bk : Nat) (he : Nat) (ma : Nat) (hm : Int32) (kd : Int32) (cc0 : Int64) (p0 : Int32) (p1 : Int32) (p2 : Int32) (p3 : Int32) (p4 : Int32) (p5 : Int32) (p6 : Int32) (a : Nat) (n : Nat) (pl : Nat) (a2 : Nat) (n2 : Nat) (pl2 : Nat) (lk : Nat) (lv : Nat) (lo : Nat) (lp : Nat) (ll : Nat) (lf : Nat) (rk : Nat) (rv : Nat) (ro : Nat) (rp : Nat) (rl : Nat) (rf : Nat) (gk : Nat → Int32) (gv : Nat → Int32) (go : Nat → Int32) (hk : Nat → Int32) (hv : Nat → Int32) (ho_ : Nat → Int32) (ha : a ≤ 400) (hn : n ≤ a) (hol : jord a go) (ha2 : a2 ≤ 400) (hn2 : n2 ≤ a2) (hor : jord a2 ho_) : Met l yX5_pair wsX5_pair ({ frames := 2, cells := 0, slots := 0, locals := 42 }) (jr_P D vwCl (jT cI cL cQ) cL cQ [.ref h0, .int 1] [(h0, .inr (5, [.ref tl, .ref tr, .ref cu, .ref bk, .int 1])), (cu, .inr (0, [.ref tl, .ref tr, .ref he, .ref ma, .int hm, .int kd, .long cc0])), (he, .inr (2, [.int p0, .int p1, .int p2, .int p3, .int p4, .int p5, .int p6])), (tl, .inr (4, [.int (nI a), .ref lk, .ref lv, .ref lo, .ref lp, .ref ll, .ref lf, .int (nI n), .int (nI pl)])), (lk, .inl (cI, a, .inl gk)), (lv, .inl (cI, a, .inl gv)), (lo, .inl (cI, a, .inl go)), (tr, .inr (4, [.int (nI a2), .ref rk, .ref rv, .ref ro, .ref rp, .ref rl, .ref rf, .int (nI n2), .int (nI pl2)])), (rk, .inl (cI, a2, .inl hk)), (rv, .inl (cI, a2, .inl hv)), (ro, .inl (cI, a2, .inl ho_))]) (vp_Si (fun r : Int32 => ∃ (z9 : Int32), r = z9)) 0 0 (fun _ => False) := by
  refine Met.ofW (cc := cX5_pair) (maxL := 4) (ret := (some .int)) (by decide) rfl ?_
  intro p e s m args below meth c s₁ B hml hv
  obtain ⟨rfl, hP, hK, hN⟩ := hv
  have hx := B.exec
  have hb := B.bytes
  have hr := B.returns
  have hts := atoms_spec (ws := wsX5_pair) B.pre
  have hown : s.vm.findClass RX5 = some m.cls := findClass_of_methodNamed B.named
  have hlocks := B.notSynchronized
  have hl := lv_entry ([.ref h0, .int 1]) (n := 4) (Nat.le_of_ble_eq_true rfl)
  rw [lg_entry_eq]
  generalize (lg_sl ([.ref h0, .int 1]) ++ List.replicate (4 - (lg_sl ([.ref h0, .int 1])).length) Slot.unset).toArray = ls at hl ⊢
  have hl : lv_has ls 4 [(0, .ref h0), (1, .int 1)] := hl
  refine lv_iload_n hx hb dX5_pair_0 rfl (lv_at hl 1 rfl) ?_
  refine lv_iconst (v := 5) hx hb dX5_pair_1 (by decide) ?_
  refine vp_callSi (va_Run.run (va_runS (As := [.int 1, .int 5]) (rest := []) ⟨hx, hb, hml, hown, hts⟩ (gJ_isBelow l D cI cL cQ 1 5) (va_cwS 2 hts gX5_pair_X5_isBelow rfl rfl rfl (by decide +kernel) ⟨Nat.le_of_ble_eq_true rfl, Nat.le_of_ble_eq_true rfl⟩) (jr_S hK hN hP [] rfl) rfl rfl hl.1 rfl (lv_room (Nat.le_of_ble_eq_true rfl)) dX5_pair_2 ⟨Nat.le_of_ble_eq_true rfl, Nat.le_of_ble_eq_true rfl⟩)) (fun r f_1 => ?_)
  rcases f_1 with ⟨rfl, f_2, f_3⟩ | ⟨rfl, f_4⟩
  · refine va_csv (va_Run.run (va_runS (As := [.int 1]) (rest := []) ⟨hx, hb, hml, hown, hts⟩ (gJ_requireArgument_ok l D cI cL cQ) (va_cwS 1 hts gX5_pair_X5_requireArgument rfl rfl rfl (by decide +kernel) ⟨Nat.le_of_ble_eq_true rfl, Nat.le_of_ble_eq_true rfl⟩) (jr_S hK hN hP [] rfl) rfl rfl hl.1 rfl (lv_room (Nat.le_of_ble_eq_true rfl)) dX5_pair_5 ⟨Nat.le_of_ble_eq_true rfl, Nat.le_of_ble_eq_true rfl⟩)) (fun f_5 => ?_)
    refine lv_aload_n hx hb dX5_pair_8 rfl (lv_at hl 0 rfl) ?_
    refine va_get (D := D) (ci := 5) (v := .int 1) (C := RX5) (T := TX5) (N := 5) hx hb hts (by decide +kernel) hown hK hP 0 rfl rfl 4 (by decide) (hts (.fieldLink RX5 41 "JoinDesk" "prepared" "Z") (by decide +kernel)) (fun _ h9 => h9) rfl dX5_pair_9 ?_
    refine lv_if_eq (tgt := 25) hx hb dX5_pair_12 (by decide) (fun c_6 => absurd c_6 (by decide)) (fun c_6 => ?_)
    refine lv_aload_n hx hb dX5_pair_15 rfl (lv_at hl 0 rfl) ?_
    refine va_get (D := D) (ci := 5) (v := .ref cu) (C := RX5) (T := TX5) (N := 5) hx hb hts (by decide +kernel) hown hK hP 0 rfl rfl 2 (by decide) (hts (.fieldLink RX5 30 "JoinDesk" "cursor" "LJoinDesk$Cursor;") (by decide +kernel)) (fun _ h9 => h9) rfl dX5_pair_16 ?_
    refine vp_callSi (va_Run.run (va_runV (As := []) (rest := []) ⟨hx, hb, hml, hown, hts⟩ (gC_leftPlace l D cI cL cQ cu tl tr he ma hm kd cc0 p0 p1 p2 p3 p4 p5 p6) (cwV 0 hts gX5_pair_X0_leftPlace rfl rfl rfl (by decide +kernel) ⟨Nat.le_of_ble_eq_true rfl, Nat.le_of_ble_eq_true rfl⟩) (jr_V hK hN hP [1, 2] rfl 0 1 rfl rfl rfl) rfl rfl hl.1 rfl (lv_room (Nat.le_of_ble_eq_true rfl)) dX5_pair_19 ⟨Nat.le_of_ble_eq_true rfl, Nat.le_of_ble_eq_true rfl⟩)) (fun r f_7 => ?_)
    obtain er_8 := f_7
    subst r
    refine lv_goto (tgt := 26) hx hb dX5_pair_22 (by decide) ?_
    refine lv_istore_n (lv' := [(2, .int p4), (0, .ref h0), (1, .int 1)]) hx hb dX5_pair_26 rfl hl (by decide) rfl (fun ls hl => ?_)
    refine lv_aload_n hx hb dX5_pair_27 rfl (lv_at hl 1 rfl) ?_
    refine va_get (D := D) (ci := 5) (v := .int 1) (C := RX5) (T := TX5) (N := 5) hx hb hts (by decide +kernel) hown hK hP 0 rfl rfl 4 (by decide) (hts (.fieldLink RX5 41 "JoinDesk" "prepared" "Z") (by decide +kernel)) (fun _ h9 => h9) rfl dX5_pair_28 ?_
    refine lv_if_eq (tgt := 44) hx hb dX5_pair_31 (by decide) (fun c_9 => absurd c_9 (by decide)) (fun c_9 => ?_)
    refine lv_aload_n hx hb dX5_pair_34 rfl (lv_at hl 1 rfl) ?_
    refine va_get (D := D) (ci := 5) (v := .ref cu) (C := RX5) (T := TX5) (N := 5) hx hb hts (by decide +kernel) hown hK hP 0 rfl rfl 2 (by decide) (hts (.fieldLink RX5 30 "JoinDesk" "cursor" "LJoinDesk$Cursor;") (by decide +kernel)) (fun _ h9 => h9) rfl dX5_pair_35 ?_
    refine vp_callSi (va_Run.run (va_runV (As := []) (rest := []) ⟨hx, hb, hml, hown, hts⟩ (gC_rightPlace l D cI cL cQ cu tl tr he ma hm kd cc0 p0 p1 p2 p3 p4 p5 p6) (cwV 0 hts gX5_pair_X0_rightPlace rfl rfl rfl (by decide +kernel) ⟨Nat.le_of_ble_eq_true rfl, Nat.le_of_ble_eq_true rfl⟩) (jr_V hK hN hP [1, 2] rfl 0 1 rfl rfl rfl) rfl rfl hl.1 rfl (lv_room (Nat.le_of_ble_eq_true rfl)) dX5_pair_38 ⟨Nat.le_of_ble_eq_true rfl, Nat.le_of_ble_eq_true rfl⟩)) (fun r f_10 => ?_)
    obtain er_11 := f_10
    subst r
    refine lv_goto (tgt := 45) hx hb dX5_pair_41 (by decide) ?_
    refine lv_istore_n (lv' := [(3, .int p5), (2, .int p4), (0, .ref h0), (1, .int 1)]) hx hb dX5_pair_45 rfl hl (by decide) rfl (fun ls hl => ?_)
    refine lv_iload_n hx hb dX5_pair_46 rfl (lv_at hl 3 rfl) ?_
    refine lv_tableIn (tgt := 107) hx hb dX5_pair_47 (by decide) (by decide) rfl (by decide) ?_
    refine lv_aload_n hx hb dX5_pair_107 rfl (lv_at hl 2 rfl) ?_
    refine va_get (D := D) (ci := 5) (v := .ref tl) (C := RX5) (T := TX5) (N := 5) hx hb hts (by decide +kernel) hown hK hP 0 rfl rfl 0 (by decide) (hts (.fieldLink RX5 18 "JoinDesk" "left" "LJoinDesk$Table;") (by decide +kernel)) (fun _ h9 => h9) rfl dX5_pair_108 ?_
    refine lv_iload_n hx hb dX5_pair_111 rfl (lv_at hl 1 rfl) ?_
    refine vp_callSi (va_Run.run (va_runV (As := [.int p4]) (rest := []) ⟨hx, hb, hml, hown, hts⟩ (gT_valueAt l D cI cL cQ tl a n pl lk lv lo lp ll lf gv go p4 (by first | assumption | decide | omega) (by first | assumption | decide | omega) (by first | assumption | decide | omega)) (cwV 1 hts gX5_pair_X4_valueAt rfl rfl rfl (by decide +kernel) ⟨Nat.le_of_ble_eq_true rfl, Nat.le_of_ble_eq_true rfl⟩) (jr_V hK hN hP [3, 5, 6] rfl 4 3 rfl rfl rfl) rfl rfl hl.1 rfl (lv_room (Nat.le_of_ble_eq_true rfl)) dX5_pair_112 ⟨Nat.le_of_ble_eq_true rfl, Nat.le_of_ble_eq_true rfl⟩)) (fun r f_12 => ?_)
    obtain rfl := f_12
    exact W.iret (v := jat n gv go p4) hx hb hr (fun t ht hW => ⟨(jat n gv go p4), rfl, (by exact ⟨_, rfl⟩), ht⟩) (fun _ h => nomatch h) dX5_pair_115
  · exact False.elim (by revert f_4; decide)
set_option maxHeartbeats 1000000 in
set_option maxRecDepth 100000 in
theorem gJ_pair_12 (l : Launch) (D : va_G) (cI cL cQ : ClassId) (h0 : Nat) (tl : Nat) (tr : Nat) (cu : Nat) (bk : Nat) (he : Nat) (ma : Nat) (hm : Int32) (kd : Int32) (cc0 : Int64) (p0 : Int32) (p1 : Int32) (p2 : Int32) (p3 : Int32) (p4 : Int32) (p5 : Int32) (p6 : Int32) (a : Nat) (n : Nat) (pl : Nat) (a2 : Nat) (n2 : Nat) (pl2 : Nat) (lk : Nat) (lv : Nat) (lo : Nat) (lp : Nat) (ll : Nat) (lf : Nat) (rk : Nat) (rv : Nat) (ro : Nat) (rp : Nat) (rl : Nat) (rf : Nat) (gk : Nat → Int32) (gv : Nat → Int32) (go : Nat → Int32) (hk : Nat → Int32) (hv : Nat → Int32) (ho_ : Nat → Int32) (ha : a ≤ 400) (hn : n ≤ a) (hol : jord a go) (ha2 : a2 ≤ 400) (hn2 : n2 ≤ a2) (hor : jord a2 ho_) : Met l yX5_pair wsX5_pair ({ frames := 2, cells := 0, slots := 0, locals := 42 }) (jr_P D vwCl (jT cI cL cQ) cL cQ [.ref h0, .int 2] [(h0, .inr (5, [.ref tl, .ref tr, .ref cu, .ref bk, .int 1])), (cu, .inr (0, [.ref tl, .ref tr, .ref he, .ref ma, .int hm, .int kd, .long cc0])), (he, .inr (2, [.int p0, .int p1, .int p2, .int p3, .int p4, .int p5, .int p6])), (tl, .inr (4, [.int (nI a), .ref lk, .ref lv, .ref lo, .ref lp, .ref ll, .ref lf, .int (nI n), .int (nI pl)])), (lk, .inl (cI, a, .inl gk)), (lv, .inl (cI, a, .inl gv)), (lo, .inl (cI, a, .inl go)), (tr, .inr (4, [.int (nI a2), .ref rk, .ref rv, .ref ro, .ref rp, .ref rl, .ref rf, .int (nI n2), .int (nI pl2)])), (rk, .inl (cI, a2, .inl hk)), (rv, .inl (cI, a2, .inl hv)), (ro, .inl (cI, a2, .inl ho_))]) (vp_Si (fun r : Int32 => ∃ (z9 : Int32), r = z9)) 0 0 (fun _ => False) := by
  refine Met.ofW (cc := cX5_pair) (maxL := 4) (ret := (some .int)) (by decide) rfl ?_
  intro p e s m args below meth c s₁ B hml hv
  obtain ⟨rfl, hP, hK, hN⟩ := hv
  have hx := B.exec
  have hb := B.bytes
  have hr := B.returns
  have hts := atoms_spec (ws := wsX5_pair) B.pre
  have hown : s.vm.findClass RX5 = some m.cls := findClass_of_methodNamed B.named
  have hlocks := B.notSynchronized
  have hl := lv_entry ([.ref h0, .int 2]) (n := 4) (Nat.le_of_ble_eq_true rfl)
  rw [lg_entry_eq]
  generalize (lg_sl ([.ref h0, .int 2]) ++ List.replicate (4 - (lg_sl ([.ref h0, .int 2])).length) Slot.unset).toArray = ls at hl ⊢
  have hl : lv_has ls 4 [(0, .ref h0), (1, .int 2)] := hl
  refine lv_iload_n hx hb dX5_pair_0 rfl (lv_at hl 1 rfl) ?_
  refine lv_iconst (v := 5) hx hb dX5_pair_1 (by decide) ?_
  refine vp_callSi (va_Run.run (va_runS (As := [.int 2, .int 5]) (rest := []) ⟨hx, hb, hml, hown, hts⟩ (gJ_isBelow l D cI cL cQ 2 5) (va_cwS 2 hts gX5_pair_X5_isBelow rfl rfl rfl (by decide +kernel) ⟨Nat.le_of_ble_eq_true rfl, Nat.le_of_ble_eq_true rfl⟩) (jr_S hK hN hP [] rfl) rfl rfl hl.1 rfl (lv_room (Nat.le_of_ble_eq_true rfl)) dX5_pair_2 ⟨Nat.le_of_ble_eq_true rfl, Nat.le_of_ble_eq_true rfl⟩)) (fun r f_1 => ?_)
  rcases f_1 with ⟨rfl, f_2, f_3⟩ | ⟨rfl, f_4⟩
  · refine va_csv (va_Run.run (va_runS (As := [.int 1]) (rest := []) ⟨hx, hb, hml, hown, hts⟩ (gJ_requireArgument_ok l D cI cL cQ) (va_cwS 1 hts gX5_pair_X5_requireArgument rfl rfl rfl (by decide +kernel) ⟨Nat.le_of_ble_eq_true rfl, Nat.le_of_ble_eq_true rfl⟩) (jr_S hK hN hP [] rfl) rfl rfl hl.1 rfl (lv_room (Nat.le_of_ble_eq_true rfl)) dX5_pair_5 ⟨Nat.le_of_ble_eq_true rfl, Nat.le_of_ble_eq_true rfl⟩)) (fun f_5 => ?_)
    refine lv_aload_n hx hb dX5_pair_8 rfl (lv_at hl 0 rfl) ?_
    refine va_get (D := D) (ci := 5) (v := .int 1) (C := RX5) (T := TX5) (N := 5) hx hb hts (by decide +kernel) hown hK hP 0 rfl rfl 4 (by decide) (hts (.fieldLink RX5 41 "JoinDesk" "prepared" "Z") (by decide +kernel)) (fun _ h9 => h9) rfl dX5_pair_9 ?_
    refine lv_if_eq (tgt := 25) hx hb dX5_pair_12 (by decide) (fun c_6 => absurd c_6 (by decide)) (fun c_6 => ?_)
    refine lv_aload_n hx hb dX5_pair_15 rfl (lv_at hl 0 rfl) ?_
    refine va_get (D := D) (ci := 5) (v := .ref cu) (C := RX5) (T := TX5) (N := 5) hx hb hts (by decide +kernel) hown hK hP 0 rfl rfl 2 (by decide) (hts (.fieldLink RX5 30 "JoinDesk" "cursor" "LJoinDesk$Cursor;") (by decide +kernel)) (fun _ h9 => h9) rfl dX5_pair_16 ?_
    refine vp_callSi (va_Run.run (va_runV (As := []) (rest := []) ⟨hx, hb, hml, hown, hts⟩ (gC_leftPlace l D cI cL cQ cu tl tr he ma hm kd cc0 p0 p1 p2 p3 p4 p5 p6) (cwV 0 hts gX5_pair_X0_leftPlace rfl rfl rfl (by decide +kernel) ⟨Nat.le_of_ble_eq_true rfl, Nat.le_of_ble_eq_true rfl⟩) (jr_V hK hN hP [1, 2] rfl 0 1 rfl rfl rfl) rfl rfl hl.1 rfl (lv_room (Nat.le_of_ble_eq_true rfl)) dX5_pair_19 ⟨Nat.le_of_ble_eq_true rfl, Nat.le_of_ble_eq_true rfl⟩)) (fun r f_7 => ?_)
    obtain er_8 := f_7
    subst r
    refine lv_goto (tgt := 26) hx hb dX5_pair_22 (by decide) ?_
    refine lv_istore_n (lv' := [(2, .int p4), (0, .ref h0), (1, .int 2)]) hx hb dX5_pair_26 rfl hl (by decide) rfl (fun ls hl => ?_)
    refine lv_aload_n hx hb dX5_pair_27 rfl (lv_at hl 1 rfl) ?_
    refine va_get (D := D) (ci := 5) (v := .int 1) (C := RX5) (T := TX5) (N := 5) hx hb hts (by decide +kernel) hown hK hP 0 rfl rfl 4 (by decide) (hts (.fieldLink RX5 41 "JoinDesk" "prepared" "Z") (by decide +kernel)) (fun _ h9 => h9) rfl dX5_pair_28 ?_
    refine lv_if_eq (tgt := 44) hx hb dX5_pair_31 (by decide) (fun c_9 => absurd c_9 (by decide)) (fun c_9 => ?_)
    refine lv_aload_n hx hb dX5_pair_34 rfl (lv_at hl 1 rfl) ?_
    refine va_get (D := D) (ci := 5) (v := .ref cu) (C := RX5) (T := TX5) (N := 5) hx hb hts (by decide +kernel) hown hK hP 0 rfl rfl 2 (by decide) (hts (.fieldLink RX5 30 "JoinDesk" "cursor" "LJoinDesk$Cursor;") (by decide +kernel)) (fun _ h9 => h9) rfl dX5_pair_35 ?_
    refine vp_callSi (va_Run.run (va_runV (As := []) (rest := []) ⟨hx, hb, hml, hown, hts⟩ (gC_rightPlace l D cI cL cQ cu tl tr he ma hm kd cc0 p0 p1 p2 p3 p4 p5 p6) (cwV 0 hts gX5_pair_X0_rightPlace rfl rfl rfl (by decide +kernel) ⟨Nat.le_of_ble_eq_true rfl, Nat.le_of_ble_eq_true rfl⟩) (jr_V hK hN hP [1, 2] rfl 0 1 rfl rfl rfl) rfl rfl hl.1 rfl (lv_room (Nat.le_of_ble_eq_true rfl)) dX5_pair_38 ⟨Nat.le_of_ble_eq_true rfl, Nat.le_of_ble_eq_true rfl⟩)) (fun r f_10 => ?_)
    obtain er_11 := f_10
    subst r
    refine lv_goto (tgt := 45) hx hb dX5_pair_41 (by decide) ?_
    refine lv_istore_n (lv' := [(3, .int p5), (2, .int p4), (0, .ref h0), (1, .int 2)]) hx hb dX5_pair_45 rfl hl (by decide) rfl (fun ls hl => ?_)
    refine lv_iload_n hx hb dX5_pair_46 rfl (lv_at hl 3 rfl) ?_
    refine lv_tableIn (tgt := 116) hx hb dX5_pair_47 (by decide) (by decide) rfl (by decide) ?_
    refine lv_aload_n hx hb dX5_pair_116 rfl (lv_at hl 2 rfl) ?_
    refine va_get (D := D) (ci := 5) (v := .ref tr) (C := RX5) (T := TX5) (N := 5) hx hb hts (by decide +kernel) hown hK hP 0 rfl rfl 1 (by decide) (hts (.fieldLink RX5 22 "JoinDesk" "right" "LJoinDesk$Table;") (by decide +kernel)) (fun _ h9 => h9) rfl dX5_pair_117 ?_
    refine lv_iload_n hx hb dX5_pair_120 rfl (lv_at hl 0 rfl) ?_
    refine vp_callSi (va_Run.run (va_runV (As := [.int p5]) (rest := []) ⟨hx, hb, hml, hown, hts⟩ (gT_valueAt l D cI cL cQ tr a2 n2 pl2 rk rv ro rp rl rf hv ho_ p5 (by first | assumption | decide | omega) (by first | assumption | decide | omega) (by first | assumption | decide | omega)) (cwV 1 hts gX5_pair_X4_valueAt rfl rfl rfl (by decide +kernel) ⟨Nat.le_of_ble_eq_true rfl, Nat.le_of_ble_eq_true rfl⟩) (jr_V hK hN hP [7, 9, 10] rfl 4 7 rfl rfl rfl) rfl rfl hl.1 rfl (lv_room (Nat.le_of_ble_eq_true rfl)) dX5_pair_121 ⟨Nat.le_of_ble_eq_true rfl, Nat.le_of_ble_eq_true rfl⟩)) (fun r f_12 => ?_)
    obtain rfl := f_12
    exact W.iret (v := jat n2 hv ho_ p5) hx hb hr (fun t ht hW => ⟨(jat n2 hv ho_ p5), rfl, (by exact ⟨_, rfl⟩), ht⟩) (fun _ h => nomatch h) dX5_pair_124
  · exact False.elim (by revert f_4; decide)
set_option maxHeartbeats 1000000 in
set_option maxRecDepth 100000 in
theorem gJ_pair_13 (l : Launch) (D : va_G) (cI cL cQ : ClassId) (h0 : Nat) (tl : Nat) (tr : Nat) (cu : Nat) (bk : Nat) (he : Nat) (ma : Nat) (hm : Int32) (kd : Int32) (cc0 : Int64) (p0 : Int32) (p1 : Int32) (p2 : Int32) (p3 : Int32) (p4 : Int32) (p5 : Int32) (p6 : Int32) (a : Nat) (n : Nat) (pl : Nat) (a2 : Nat) (n2 : Nat) (pl2 : Nat) (lk : Nat) (lv : Nat) (lo : Nat) (lp : Nat) (ll : Nat) (lf : Nat) (rk : Nat) (rv : Nat) (ro : Nat) (rp : Nat) (rl : Nat) (rf : Nat) (gk : Nat → Int32) (gv : Nat → Int32) (go : Nat → Int32) (hk : Nat → Int32) (hv : Nat → Int32) (ho_ : Nat → Int32) (ha : a ≤ 400) (hn : n ≤ a) (hol : jord a go) (ha2 : a2 ≤ 400) (hn2 : n2 ≤ a2) (hor : jord a2 ho_) : Met l yX5_pair wsX5_pair ({ frames := 2, cells := 0, slots := 0, locals := 42 }) (jr_P D vwCl (jT cI cL cQ) cL cQ [.ref h0, .int 3] [(h0, .inr (5, [.ref tl, .ref tr, .ref cu, .ref bk, .int 1])), (cu, .inr (0, [.ref tl, .ref tr, .ref he, .ref ma, .int hm, .int kd, .long cc0])), (he, .inr (2, [.int p0, .int p1, .int p2, .int p3, .int p4, .int p5, .int p6])), (tl, .inr (4, [.int (nI a), .ref lk, .ref lv, .ref lo, .ref lp, .ref ll, .ref lf, .int (nI n), .int (nI pl)])), (lk, .inl (cI, a, .inl gk)), (lv, .inl (cI, a, .inl gv)), (lo, .inl (cI, a, .inl go)), (tr, .inr (4, [.int (nI a2), .ref rk, .ref rv, .ref ro, .ref rp, .ref rl, .ref rf, .int (nI n2), .int (nI pl2)])), (rk, .inl (cI, a2, .inl hk)), (rv, .inl (cI, a2, .inl hv)), (ro, .inl (cI, a2, .inl ho_))]) (vp_Si (fun r : Int32 => ∃ (z9 : Int32), r = z9)) 0 0 (fun _ => False) := by
  refine Met.ofW (cc := cX5_pair) (maxL := 4) (ret := (some .int)) (by decide) rfl ?_
  intro p e s m args below meth c s₁ B hml hv
  obtain ⟨rfl, hP, hK, hN⟩ := hv
  have hx := B.exec
  have hb := B.bytes
  have hr := B.returns
  have hts := atoms_spec (ws := wsX5_pair) B.pre
  have hown : s.vm.findClass RX5 = some m.cls := findClass_of_methodNamed B.named
  have hlocks := B.notSynchronized
  have hl := lv_entry ([.ref h0, .int 3]) (n := 4) (Nat.le_of_ble_eq_true rfl)
  rw [lg_entry_eq]
  generalize (lg_sl ([.ref h0, .int 3]) ++ List.replicate (4 - (lg_sl ([.ref h0, .int 3])).length) Slot.unset).toArray = ls at hl ⊢
  have hl : lv_has ls 4 [(0, .ref h0), (1, .int 3)] := hl
  refine lv_iload_n hx hb dX5_pair_0 rfl (lv_at hl 1 rfl) ?_
  refine lv_iconst (v := 5) hx hb dX5_pair_1 (by decide) ?_
  refine vp_callSi (va_Run.run (va_runS (As := [.int 3, .int 5]) (rest := []) ⟨hx, hb, hml, hown, hts⟩ (gJ_isBelow l D cI cL cQ 3 5) (va_cwS 2 hts gX5_pair_X5_isBelow rfl rfl rfl (by decide +kernel) ⟨Nat.le_of_ble_eq_true rfl, Nat.le_of_ble_eq_true rfl⟩) (jr_S hK hN hP [] rfl) rfl rfl hl.1 rfl (lv_room (Nat.le_of_ble_eq_true rfl)) dX5_pair_2 ⟨Nat.le_of_ble_eq_true rfl, Nat.le_of_ble_eq_true rfl⟩)) (fun r f_1 => ?_)
  rcases f_1 with ⟨rfl, f_2, f_3⟩ | ⟨rfl, f_4⟩
  · refine va_csv (va_Run.run (va_runS (As := [.int 1]) (rest := []) ⟨hx, hb, hml, hown, hts⟩ (gJ_requireArgument_ok l D cI cL cQ) (va_cwS 1 hts gX5_pair_X5_requireArgument rfl rfl rfl (by decide +kernel) ⟨Nat.le_of_ble_eq_true rfl, Nat.le_of_ble_eq_true rfl⟩) (jr_S hK hN hP [] rfl) rfl rfl hl.1 rfl (lv_room (Nat.le_of_ble_eq_true rfl)) dX5_pair_5 ⟨Nat.le_of_ble_eq_true rfl, Nat.le_of_ble_eq_true rfl⟩)) (fun f_5 => ?_)
    refine lv_aload_n hx hb dX5_pair_8 rfl (lv_at hl 0 rfl) ?_
    refine va_get (D := D) (ci := 5) (v := .int 1) (C := RX5) (T := TX5) (N := 5) hx hb hts (by decide +kernel) hown hK hP 0 rfl rfl 4 (by decide) (hts (.fieldLink RX5 41 "JoinDesk" "prepared" "Z") (by decide +kernel)) (fun _ h9 => h9) rfl dX5_pair_9 ?_
    refine lv_if_eq (tgt := 25) hx hb dX5_pair_12 (by decide) (fun c_6 => absurd c_6 (by decide)) (fun c_6 => ?_)
    refine lv_aload_n hx hb dX5_pair_15 rfl (lv_at hl 0 rfl) ?_
    refine va_get (D := D) (ci := 5) (v := .ref cu) (C := RX5) (T := TX5) (N := 5) hx hb hts (by decide +kernel) hown hK hP 0 rfl rfl 2 (by decide) (hts (.fieldLink RX5 30 "JoinDesk" "cursor" "LJoinDesk$Cursor;") (by decide +kernel)) (fun _ h9 => h9) rfl dX5_pair_16 ?_
    refine vp_callSi (va_Run.run (va_runV (As := []) (rest := []) ⟨hx, hb, hml, hown, hts⟩ (gC_leftPlace l D cI cL cQ cu tl tr he ma hm kd cc0 p0 p1 p2 p3 p4 p5 p6) (cwV 0 hts gX5_pair_X0_leftPlace rfl rfl rfl (by decide +kernel) ⟨Nat.le_of_ble_eq_true rfl, Nat.le_of_ble_eq_true rfl⟩) (jr_V hK hN hP [1, 2] rfl 0 1 rfl rfl rfl) rfl rfl hl.1 rfl (lv_room (Nat.le_of_ble_eq_true rfl)) dX5_pair_19 ⟨Nat.le_of_ble_eq_true rfl, Nat.le_of_ble_eq_true rfl⟩)) (fun r f_7 => ?_)
    obtain er_8 := f_7
    subst r
    refine lv_goto (tgt := 26) hx hb dX5_pair_22 (by decide) ?_
    refine lv_istore_n (lv' := [(2, .int p4), (0, .ref h0), (1, .int 3)]) hx hb dX5_pair_26 rfl hl (by decide) rfl (fun ls hl => ?_)
    refine lv_aload_n hx hb dX5_pair_27 rfl (lv_at hl 1 rfl) ?_
    refine va_get (D := D) (ci := 5) (v := .int 1) (C := RX5) (T := TX5) (N := 5) hx hb hts (by decide +kernel) hown hK hP 0 rfl rfl 4 (by decide) (hts (.fieldLink RX5 41 "JoinDesk" "prepared" "Z") (by decide +kernel)) (fun _ h9 => h9) rfl dX5_pair_28 ?_
    refine lv_if_eq (tgt := 44) hx hb dX5_pair_31 (by decide) (fun c_9 => absurd c_9 (by decide)) (fun c_9 => ?_)
    refine lv_aload_n hx hb dX5_pair_34 rfl (lv_at hl 1 rfl) ?_
    refine va_get (D := D) (ci := 5) (v := .ref cu) (C := RX5) (T := TX5) (N := 5) hx hb hts (by decide +kernel) hown hK hP 0 rfl rfl 2 (by decide) (hts (.fieldLink RX5 30 "JoinDesk" "cursor" "LJoinDesk$Cursor;") (by decide +kernel)) (fun _ h9 => h9) rfl dX5_pair_35 ?_
    refine vp_callSi (va_Run.run (va_runV (As := []) (rest := []) ⟨hx, hb, hml, hown, hts⟩ (gC_rightPlace l D cI cL cQ cu tl tr he ma hm kd cc0 p0 p1 p2 p3 p4 p5 p6) (cwV 0 hts gX5_pair_X0_rightPlace rfl rfl rfl (by decide +kernel) ⟨Nat.le_of_ble_eq_true rfl, Nat.le_of_ble_eq_true rfl⟩) (jr_V hK hN hP [1, 2] rfl 0 1 rfl rfl rfl) rfl rfl hl.1 rfl (lv_room (Nat.le_of_ble_eq_true rfl)) dX5_pair_38 ⟨Nat.le_of_ble_eq_true rfl, Nat.le_of_ble_eq_true rfl⟩)) (fun r f_10 => ?_)
    obtain er_11 := f_10
    subst r
    refine lv_goto (tgt := 45) hx hb dX5_pair_41 (by decide) ?_
    refine lv_istore_n (lv' := [(3, .int p5), (2, .int p4), (0, .ref h0), (1, .int 3)]) hx hb dX5_pair_45 rfl hl (by decide) rfl (fun ls hl => ?_)
    refine lv_iload_n hx hb dX5_pair_46 rfl (lv_at hl 3 rfl) ?_
    refine lv_tableIn (tgt := 125) hx hb dX5_pair_47 (by decide) (by decide) rfl (by decide) ?_
    refine lv_aload_n hx hb dX5_pair_125 rfl (lv_at hl 2 rfl) ?_
    refine va_get (D := D) (ci := 5) (v := .ref tl) (C := RX5) (T := TX5) (N := 5) hx hb hts (by decide +kernel) hown hK hP 0 rfl rfl 0 (by decide) (hts (.fieldLink RX5 18 "JoinDesk" "left" "LJoinDesk$Table;") (by decide +kernel)) (fun _ h9 => h9) rfl dX5_pair_126 ?_
    refine lv_iload_n hx hb dX5_pair_129 rfl (lv_at hl 1 rfl) ?_
    refine vp_callSi (va_Run.run (va_runV (As := [.int p4]) (rest := []) ⟨hx, hb, hml, hown, hts⟩ (gT_numberAt l D cI cL cQ tl a n pl lk lv lo lp ll lf go p4 (by first | assumption | decide | omega) (by first | assumption | decide | omega)) (cwV 1 hts gX5_pair_X4_numberAt rfl rfl rfl (by decide +kernel) ⟨Nat.le_of_ble_eq_true rfl, Nat.le_of_ble_eq_true rfl⟩) (jr_V hK hN hP [3, 6] rfl 4 3 rfl rfl rfl) rfl rfl hl.1 rfl (lv_room (Nat.le_of_ble_eq_true rfl)) dX5_pair_130 ⟨Nat.le_of_ble_eq_true rfl, Nat.le_of_ble_eq_true rfl⟩)) (fun r f_12 => ?_)
    obtain rfl := f_12
    exact W.iret (v := jnum n go p4) hx hb hr (fun t ht hW => ⟨(jnum n go p4), rfl, (by exact ⟨_, rfl⟩), ht⟩) (fun _ h => nomatch h) dX5_pair_133
  · exact False.elim (by revert f_4; decide)
set_option maxHeartbeats 1000000 in
set_option maxRecDepth 100000 in
theorem gJ_pair_14 (l : Launch) (D : va_G) (cI cL cQ : ClassId) (h0 : Nat) (tl : Nat) (tr : Nat) (cu : Nat) (bk : Nat) (he : Nat) (ma : Nat) (hm : Int32) (kd : Int32) (cc0 : Int64) (p0 : Int32) (p1 : Int32) (p2 : Int32) (p3 : Int32) (p4 : Int32) (p5 : Int32) (p6 : Int32) (a : Nat) (n : Nat) (pl : Nat) (a2 : Nat) (n2 : Nat) (pl2 : Nat) (lk : Nat) (lv : Nat) (lo : Nat) (lp : Nat) (ll : Nat) (lf : Nat) (rk : Nat) (rv : Nat) (ro : Nat) (rp : Nat) (rl : Nat) (rf : Nat) (gk : Nat → Int32) (gv : Nat → Int32) (go : Nat → Int32) (hk : Nat → Int32) (hv : Nat → Int32) (ho_ : Nat → Int32) (ha : a ≤ 400) (hn : n ≤ a) (hol : jord a go) (ha2 : a2 ≤ 400) (hn2 : n2 ≤ a2) (hor : jord a2 ho_) : Met l yX5_pair wsX5_pair ({ frames := 2, cells := 0, slots := 0, locals := 42 }) (jr_P D vwCl (jT cI cL cQ) cL cQ [.ref h0, .int 4] [(h0, .inr (5, [.ref tl, .ref tr, .ref cu, .ref bk, .int 1])), (cu, .inr (0, [.ref tl, .ref tr, .ref he, .ref ma, .int hm, .int kd, .long cc0])), (he, .inr (2, [.int p0, .int p1, .int p2, .int p3, .int p4, .int p5, .int p6])), (tl, .inr (4, [.int (nI a), .ref lk, .ref lv, .ref lo, .ref lp, .ref ll, .ref lf, .int (nI n), .int (nI pl)])), (lk, .inl (cI, a, .inl gk)), (lv, .inl (cI, a, .inl gv)), (lo, .inl (cI, a, .inl go)), (tr, .inr (4, [.int (nI a2), .ref rk, .ref rv, .ref ro, .ref rp, .ref rl, .ref rf, .int (nI n2), .int (nI pl2)])), (rk, .inl (cI, a2, .inl hk)), (rv, .inl (cI, a2, .inl hv)), (ro, .inl (cI, a2, .inl ho_))]) (vp_Si (fun r : Int32 => ∃ (z9 : Int32), r = z9)) 0 0 (fun _ => False) := by
  refine Met.ofW (cc := cX5_pair) (maxL := 4) (ret := (some .int)) (by decide) rfl ?_
  intro p e s m args below meth c s₁ B hml hv
  obtain ⟨rfl, hP, hK, hN⟩ := hv
  have hx := B.exec
  have hb := B.bytes
  have hr := B.returns
  have hts := atoms_spec (ws := wsX5_pair) B.pre
  have hown : s.vm.findClass RX5 = some m.cls := findClass_of_methodNamed B.named
  have hlocks := B.notSynchronized
  have hl := lv_entry ([.ref h0, .int 4]) (n := 4) (Nat.le_of_ble_eq_true rfl)
  rw [lg_entry_eq]
  generalize (lg_sl ([.ref h0, .int 4]) ++ List.replicate (4 - (lg_sl ([.ref h0, .int 4])).length) Slot.unset).toArray = ls at hl ⊢
  have hl : lv_has ls 4 [(0, .ref h0), (1, .int 4)] := hl
  refine lv_iload_n hx hb dX5_pair_0 rfl (lv_at hl 1 rfl) ?_
  refine lv_iconst (v := 5) hx hb dX5_pair_1 (by decide) ?_
  refine vp_callSi (va_Run.run (va_runS (As := [.int 4, .int 5]) (rest := []) ⟨hx, hb, hml, hown, hts⟩ (gJ_isBelow l D cI cL cQ 4 5) (va_cwS 2 hts gX5_pair_X5_isBelow rfl rfl rfl (by decide +kernel) ⟨Nat.le_of_ble_eq_true rfl, Nat.le_of_ble_eq_true rfl⟩) (jr_S hK hN hP [] rfl) rfl rfl hl.1 rfl (lv_room (Nat.le_of_ble_eq_true rfl)) dX5_pair_2 ⟨Nat.le_of_ble_eq_true rfl, Nat.le_of_ble_eq_true rfl⟩)) (fun r f_1 => ?_)
  rcases f_1 with ⟨rfl, f_2, f_3⟩ | ⟨rfl, f_4⟩
  · refine va_csv (va_Run.run (va_runS (As := [.int 1]) (rest := []) ⟨hx, hb, hml, hown, hts⟩ (gJ_requireArgument_ok l D cI cL cQ) (va_cwS 1 hts gX5_pair_X5_requireArgument rfl rfl rfl (by decide +kernel) ⟨Nat.le_of_ble_eq_true rfl, Nat.le_of_ble_eq_true rfl⟩) (jr_S hK hN hP [] rfl) rfl rfl hl.1 rfl (lv_room (Nat.le_of_ble_eq_true rfl)) dX5_pair_5 ⟨Nat.le_of_ble_eq_true rfl, Nat.le_of_ble_eq_true rfl⟩)) (fun f_5 => ?_)
    refine lv_aload_n hx hb dX5_pair_8 rfl (lv_at hl 0 rfl) ?_
    refine va_get (D := D) (ci := 5) (v := .int 1) (C := RX5) (T := TX5) (N := 5) hx hb hts (by decide +kernel) hown hK hP 0 rfl rfl 4 (by decide) (hts (.fieldLink RX5 41 "JoinDesk" "prepared" "Z") (by decide +kernel)) (fun _ h9 => h9) rfl dX5_pair_9 ?_
    refine lv_if_eq (tgt := 25) hx hb dX5_pair_12 (by decide) (fun c_6 => absurd c_6 (by decide)) (fun c_6 => ?_)
    refine lv_aload_n hx hb dX5_pair_15 rfl (lv_at hl 0 rfl) ?_
    refine va_get (D := D) (ci := 5) (v := .ref cu) (C := RX5) (T := TX5) (N := 5) hx hb hts (by decide +kernel) hown hK hP 0 rfl rfl 2 (by decide) (hts (.fieldLink RX5 30 "JoinDesk" "cursor" "LJoinDesk$Cursor;") (by decide +kernel)) (fun _ h9 => h9) rfl dX5_pair_16 ?_
    refine vp_callSi (va_Run.run (va_runV (As := []) (rest := []) ⟨hx, hb, hml, hown, hts⟩ (gC_leftPlace l D cI cL cQ cu tl tr he ma hm kd cc0 p0 p1 p2 p3 p4 p5 p6) (cwV 0 hts gX5_pair_X0_leftPlace rfl rfl rfl (by decide +kernel) ⟨Nat.le_of_ble_eq_true rfl, Nat.le_of_ble_eq_true rfl⟩) (jr_V hK hN hP [1, 2] rfl 0 1 rfl rfl rfl) rfl rfl hl.1 rfl (lv_room (Nat.le_of_ble_eq_true rfl)) dX5_pair_19 ⟨Nat.le_of_ble_eq_true rfl, Nat.le_of_ble_eq_true rfl⟩)) (fun r f_7 => ?_)
    obtain er_8 := f_7
    subst r
    refine lv_goto (tgt := 26) hx hb dX5_pair_22 (by decide) ?_
    refine lv_istore_n (lv' := [(2, .int p4), (0, .ref h0), (1, .int 4)]) hx hb dX5_pair_26 rfl hl (by decide) rfl (fun ls hl => ?_)
    refine lv_aload_n hx hb dX5_pair_27 rfl (lv_at hl 1 rfl) ?_
    refine va_get (D := D) (ci := 5) (v := .int 1) (C := RX5) (T := TX5) (N := 5) hx hb hts (by decide +kernel) hown hK hP 0 rfl rfl 4 (by decide) (hts (.fieldLink RX5 41 "JoinDesk" "prepared" "Z") (by decide +kernel)) (fun _ h9 => h9) rfl dX5_pair_28 ?_
    refine lv_if_eq (tgt := 44) hx hb dX5_pair_31 (by decide) (fun c_9 => absurd c_9 (by decide)) (fun c_9 => ?_)
    refine lv_aload_n hx hb dX5_pair_34 rfl (lv_at hl 1 rfl) ?_
    refine va_get (D := D) (ci := 5) (v := .ref cu) (C := RX5) (T := TX5) (N := 5) hx hb hts (by decide +kernel) hown hK hP 0 rfl rfl 2 (by decide) (hts (.fieldLink RX5 30 "JoinDesk" "cursor" "LJoinDesk$Cursor;") (by decide +kernel)) (fun _ h9 => h9) rfl dX5_pair_35 ?_
    refine vp_callSi (va_Run.run (va_runV (As := []) (rest := []) ⟨hx, hb, hml, hown, hts⟩ (gC_rightPlace l D cI cL cQ cu tl tr he ma hm kd cc0 p0 p1 p2 p3 p4 p5 p6) (cwV 0 hts gX5_pair_X0_rightPlace rfl rfl rfl (by decide +kernel) ⟨Nat.le_of_ble_eq_true rfl, Nat.le_of_ble_eq_true rfl⟩) (jr_V hK hN hP [1, 2] rfl 0 1 rfl rfl rfl) rfl rfl hl.1 rfl (lv_room (Nat.le_of_ble_eq_true rfl)) dX5_pair_38 ⟨Nat.le_of_ble_eq_true rfl, Nat.le_of_ble_eq_true rfl⟩)) (fun r f_10 => ?_)
    obtain er_11 := f_10
    subst r
    refine lv_goto (tgt := 45) hx hb dX5_pair_41 (by decide) ?_
    refine lv_istore_n (lv' := [(3, .int p5), (2, .int p4), (0, .ref h0), (1, .int 4)]) hx hb dX5_pair_45 rfl hl (by decide) rfl (fun ls hl => ?_)
    refine lv_iload_n hx hb dX5_pair_46 rfl (lv_at hl 3 rfl) ?_
    refine lv_tableOut (tgt := 134) hx hb dX5_pair_47 (by decide) (by decide) ?_
    refine lv_aload_n hx hb dX5_pair_134 rfl (lv_at hl 2 rfl) ?_
    refine va_get (D := D) (ci := 5) (v := .ref tr) (C := RX5) (T := TX5) (N := 5) hx hb hts (by decide +kernel) hown hK hP 0 rfl rfl 1 (by decide) (hts (.fieldLink RX5 22 "JoinDesk" "right" "LJoinDesk$Table;") (by decide +kernel)) (fun _ h9 => h9) rfl dX5_pair_135 ?_
    refine lv_iload_n hx hb dX5_pair_138 rfl (lv_at hl 0 rfl) ?_
    refine vp_callSi (va_Run.run (va_runV (As := [.int p5]) (rest := []) ⟨hx, hb, hml, hown, hts⟩ (gT_numberAt l D cI cL cQ tr a2 n2 pl2 rk rv ro rp rl rf ho_ p5 (by first | assumption | decide | omega) (by first | assumption | decide | omega)) (cwV 1 hts gX5_pair_X4_numberAt rfl rfl rfl (by decide +kernel) ⟨Nat.le_of_ble_eq_true rfl, Nat.le_of_ble_eq_true rfl⟩) (jr_V hK hN hP [7, 10] rfl 4 7 rfl rfl rfl) rfl rfl hl.1 rfl (lv_room (Nat.le_of_ble_eq_true rfl)) dX5_pair_139 ⟨Nat.le_of_ble_eq_true rfl, Nat.le_of_ble_eq_true rfl⟩)) (fun r f_12 => ?_)
    obtain rfl := f_12
    exact W.iret (v := jnum n2 ho_ p5) hx hb hr (fun t ht hW => ⟨(jnum n2 ho_ p5), rfl, (by exact ⟨_, rfl⟩), ht⟩) (fun _ h => nomatch h) dX5_pair_142
  · exact False.elim (by revert f_4; decide)
set_option maxHeartbeats 1000000 in
set_option maxRecDepth 100000 in
theorem gJ_pair_00 (l : Launch) (D : va_G) (cI cL cQ : ClassId) (h0 : Nat) (tl : Nat) (tr : Nat) (cu : Nat) (bk : Nat) (he : Nat) (ma : Nat) (hm : Int32) (kd : Int32) (cc0 : Int64) (p0 : Int32) (p1 : Int32) (p2 : Int32) (p3 : Int32) (p4 : Int32) (p5 : Int32) (p6 : Int32) (a : Nat) (n : Nat) (pl : Nat) (a2 : Nat) (n2 : Nat) (pl2 : Nat) (lk : Nat) (lv : Nat) (lo : Nat) (lp : Nat) (ll : Nat) (lf : Nat) (rk : Nat) (rv : Nat) (ro : Nat) (rp : Nat) (rl : Nat) (rf : Nat) (gk : Nat → Int32) (gv : Nat → Int32) (go : Nat → Int32) (hk : Nat → Int32) (hv : Nat → Int32) (ho_ : Nat → Int32) (ha : a ≤ 400) (hn : n ≤ a) (hol : jord a go) (ha2 : a2 ≤ 400) (hn2 : n2 ≤ a2) (hor : jord a2 ho_) : Met l yX5_pair wsX5_pair ({ frames := 2, cells := 0, slots := 0, locals := 42 }) (jr_P D vwCl (jT cI cL cQ) cL cQ [.ref h0, .int 0] [(h0, .inr (5, [.ref tl, .ref tr, .ref cu, .ref bk, .int 0])), (cu, .inr (0, [.ref tl, .ref tr, .ref he, .ref ma, .int hm, .int kd, .long cc0])), (he, .inr (2, [.int p0, .int p1, .int p2, .int p3, .int p4, .int p5, .int p6])), (tl, .inr (4, [.int (nI a), .ref lk, .ref lv, .ref lo, .ref lp, .ref ll, .ref lf, .int (nI n), .int (nI pl)])), (lk, .inl (cI, a, .inl gk)), (lv, .inl (cI, a, .inl gv)), (lo, .inl (cI, a, .inl go)), (tr, .inr (4, [.int (nI a2), .ref rk, .ref rv, .ref ro, .ref rp, .ref rl, .ref rf, .int (nI n2), .int (nI pl2)])), (rk, .inl (cI, a2, .inl hk)), (rv, .inl (cI, a2, .inl hv)), (ro, .inl (cI, a2, .inl ho_))]) (vp_Si (fun r : Int32 => ∃ (z9 : Int32), r = z9)) 0 0 (fun _ => False) := by
  refine Met.ofW (cc := cX5_pair) (maxL := 4) (ret := (some .int)) (by decide) rfl ?_
  intro p e s m args below meth c s₁ B hml hv
  obtain ⟨rfl, hP, hK, hN⟩ := hv
  have hx := B.exec
  have hb := B.bytes
  have hr := B.returns
  have hts := atoms_spec (ws := wsX5_pair) B.pre
  have hown : s.vm.findClass RX5 = some m.cls := findClass_of_methodNamed B.named
  have hlocks := B.notSynchronized
  have hl := lv_entry ([.ref h0, .int 0]) (n := 4) (Nat.le_of_ble_eq_true rfl)
  rw [lg_entry_eq]
  generalize (lg_sl ([.ref h0, .int 0]) ++ List.replicate (4 - (lg_sl ([.ref h0, .int 0])).length) Slot.unset).toArray = ls at hl ⊢
  have hl : lv_has ls 4 [(0, .ref h0), (1, .int 0)] := hl
  refine lv_iload_n hx hb dX5_pair_0 rfl (lv_at hl 1 rfl) ?_
  refine lv_iconst (v := 5) hx hb dX5_pair_1 (by decide) ?_
  refine vp_callSi (va_Run.run (va_runS (As := [.int 0, .int 5]) (rest := []) ⟨hx, hb, hml, hown, hts⟩ (gJ_isBelow l D cI cL cQ 0 5) (va_cwS 2 hts gX5_pair_X5_isBelow rfl rfl rfl (by decide +kernel) ⟨Nat.le_of_ble_eq_true rfl, Nat.le_of_ble_eq_true rfl⟩) (jr_S hK hN hP [] rfl) rfl rfl hl.1 rfl (lv_room (Nat.le_of_ble_eq_true rfl)) dX5_pair_2 ⟨Nat.le_of_ble_eq_true rfl, Nat.le_of_ble_eq_true rfl⟩)) (fun r f_1 => ?_)
  rcases f_1 with ⟨rfl, f_2, f_3⟩ | ⟨rfl, f_4⟩
  · refine va_csv (va_Run.run (va_runS (As := [.int 1]) (rest := []) ⟨hx, hb, hml, hown, hts⟩ (gJ_requireArgument_ok l D cI cL cQ) (va_cwS 1 hts gX5_pair_X5_requireArgument rfl rfl rfl (by decide +kernel) ⟨Nat.le_of_ble_eq_true rfl, Nat.le_of_ble_eq_true rfl⟩) (jr_S hK hN hP [] rfl) rfl rfl hl.1 rfl (lv_room (Nat.le_of_ble_eq_true rfl)) dX5_pair_5 ⟨Nat.le_of_ble_eq_true rfl, Nat.le_of_ble_eq_true rfl⟩)) (fun f_5 => ?_)
    refine lv_aload_n hx hb dX5_pair_8 rfl (lv_at hl 0 rfl) ?_
    refine va_get (D := D) (ci := 5) (v := .int 0) (C := RX5) (T := TX5) (N := 5) hx hb hts (by decide +kernel) hown hK hP 0 rfl rfl 4 (by decide) (hts (.fieldLink RX5 41 "JoinDesk" "prepared" "Z") (by decide +kernel)) (fun _ h9 => h9) rfl dX5_pair_9 ?_
    refine lv_if_eq (tgt := 25) hx hb dX5_pair_12 (by decide) (fun c_6 => ?_) (fun c_6 => absurd c_6 (by decide))
    refine lv_iconst (v := (-1)) hx hb dX5_pair_25 (by decide) ?_
    refine lv_istore_n (lv' := [(2, .int (-1)), (0, .ref h0), (1, .int 0)]) hx hb dX5_pair_26 rfl hl (by decide) rfl (fun ls hl => ?_)
    refine lv_aload_n hx hb dX5_pair_27 rfl (lv_at hl 1 rfl) ?_
    refine va_get (D := D) (ci := 5) (v := .int 0) (C := RX5) (T := TX5) (N := 5) hx hb hts (by decide +kernel) hown hK hP 0 rfl rfl 4 (by decide) (hts (.fieldLink RX5 41 "JoinDesk" "prepared" "Z") (by decide +kernel)) (fun _ h9 => h9) rfl dX5_pair_28 ?_
    refine lv_if_eq (tgt := 44) hx hb dX5_pair_31 (by decide) (fun c_7 => ?_) (fun c_7 => absurd c_7 (by decide))
    refine lv_iconst (v := (-1)) hx hb dX5_pair_44 (by decide) ?_
    refine lv_istore_n (lv' := [(3, .int (-1)), (2, .int (-1)), (0, .ref h0), (1, .int 0)]) hx hb dX5_pair_45 rfl hl (by decide) rfl (fun ls hl => ?_)
    refine lv_iload_n hx hb dX5_pair_46 rfl (lv_at hl 3 rfl) ?_
    refine lv_tableIn (tgt := 76) hx hb dX5_pair_47 (by decide) (by decide) rfl (by decide) ?_
    refine lv_aload_n hx hb dX5_pair_76 rfl (lv_at hl 2 rfl) ?_
    refine va_get (D := D) (ci := 5) (v := .ref tl) (C := RX5) (T := TX5) (N := 5) hx hb hts (by decide +kernel) hown hK hP 0 rfl rfl 0 (by decide) (hts (.fieldLink RX5 18 "JoinDesk" "left" "LJoinDesk$Table;") (by decide +kernel)) (fun _ h9 => h9) rfl dX5_pair_77 ?_
    refine lv_iload_n hx hb dX5_pair_80 rfl (lv_at hl 1 rfl) ?_
    refine vp_callSi (va_Run.run (va_runV (As := [.int (-1)]) (rest := []) ⟨hx, hb, hml, hown, hts⟩ (gT_has l D cI cL cQ tl a n pl lk lv lo lp ll lf (-1)) (cwV 1 hts gX5_pair_X4_has rfl rfl rfl (by decide +kernel) ⟨Nat.le_of_ble_eq_true rfl, Nat.le_of_ble_eq_true rfl⟩) (jr_V hK hN hP [3] rfl 4 3 rfl rfl rfl) rfl rfl hl.1 rfl (lv_room (Nat.le_of_ble_eq_true rfl)) dX5_pair_81 ⟨Nat.le_of_ble_eq_true rfl, Nat.le_of_ble_eq_true rfl⟩)) (fun r f_8 => ?_)
    rcases f_8 with ⟨rfl, f_9, f_10⟩ | ⟨rfl, f_11⟩
    · refine lv_if_eq (tgt := 98) hx hb dX5_pair_84 (by decide) (fun c_12 => absurd c_12 (by decide)) (fun c_12 => ?_)
      refine lv_aload_n hx hb dX5_pair_87 rfl (lv_at hl 2 rfl) ?_
      refine va_get (D := D) (ci := 5) (v := .ref tl) (C := RX5) (T := TX5) (N := 5) hx hb hts (by decide +kernel) hown hK hP 0 rfl rfl 0 (by decide) (hts (.fieldLink RX5 18 "JoinDesk" "left" "LJoinDesk$Table;") (by decide +kernel)) (fun _ h9 => h9) rfl dX5_pair_88 ?_
      refine lv_iload_n hx hb dX5_pair_91 rfl (lv_at hl 1 rfl) ?_
      refine vp_callSi (va_Run.run (va_runV (As := [.int (-1)]) (rest := []) ⟨hx, hb, hml, hown, hts⟩ (gT_keyAt l D cI cL cQ tl a n pl lk lv lo lp ll lf gk go (-1) (by first | assumption | decide | omega) (by first | assumption | decide | omega) (by first | assumption | decide | omega)) (cwV 1 hts gX5_pair_X4_keyAt rfl rfl rfl (by decide +kernel) ⟨Nat.le_of_ble_eq_true rfl, Nat.le_of_ble_eq_true rfl⟩) (jr_V hK hN hP [3, 4, 6] rfl 4 3 rfl rfl rfl) rfl rfl hl.1 rfl (lv_room (Nat.le_of_ble_eq_true rfl)) dX5_pair_92 ⟨Nat.le_of_ble_eq_true rfl, Nat.le_of_ble_eq_true rfl⟩)) (fun r f_13 => ?_)
      obtain rfl := f_13
      refine lv_goto (tgt := 106) hx hb dX5_pair_95 (by decide) ?_
      exact W.iret (v := jat n gk go (-1)) hx hb hr (fun t ht hW => ⟨(jat n gk go (-1)), rfl, (by exact ⟨_, rfl⟩), ht⟩) (fun _ h => nomatch h) dX5_pair_106
    · refine lv_if_eq (tgt := 98) hx hb dX5_pair_84 (by decide) (fun c_14 => ?_) (fun c_14 => absurd c_14 (by decide))
      refine lv_aload_n hx hb dX5_pair_98 rfl (lv_at hl 2 rfl) ?_
      refine va_get (D := D) (ci := 5) (v := .ref tr) (C := RX5) (T := TX5) (N := 5) hx hb hts (by decide +kernel) hown hK hP 0 rfl rfl 1 (by decide) (hts (.fieldLink RX5 22 "JoinDesk" "right" "LJoinDesk$Table;") (by decide +kernel)) (fun _ h9 => h9) rfl dX5_pair_99 ?_
      refine lv_iload_n hx hb dX5_pair_102 rfl (lv_at hl 0 rfl) ?_
      refine vp_callSi (va_Run.run (va_runV (As := [.int (-1)]) (rest := []) ⟨hx, hb, hml, hown, hts⟩ (gT_keyAt l D cI cL cQ tr a2 n2 pl2 rk rv ro rp rl rf hk ho_ (-1) (by first | assumption | decide | omega) (by first | assumption | decide | omega) (by first | assumption | decide | omega)) (cwV 1 hts gX5_pair_X4_keyAt rfl rfl rfl (by decide +kernel) ⟨Nat.le_of_ble_eq_true rfl, Nat.le_of_ble_eq_true rfl⟩) (jr_V hK hN hP [7, 8, 10] rfl 4 7 rfl rfl rfl) rfl rfl hl.1 rfl (lv_room (Nat.le_of_ble_eq_true rfl)) dX5_pair_103 ⟨Nat.le_of_ble_eq_true rfl, Nat.le_of_ble_eq_true rfl⟩)) (fun r f_15 => ?_)
      obtain rfl := f_15
      exact W.iret (v := jat n2 hk ho_ (-1)) hx hb hr (fun t ht hW => ⟨(jat n2 hk ho_ (-1)), rfl, (by exact ⟨_, rfl⟩), ht⟩) (fun _ h => nomatch h) dX5_pair_106
  · exact False.elim (by revert f_4; decide)
set_option maxHeartbeats 1000000 in
set_option maxRecDepth 100000 in
theorem gJ_pair_01 (l : Launch) (D : va_G) (cI cL cQ : ClassId) (h0 : Nat) (tl : Nat) (tr : Nat) (cu : Nat) (bk : Nat) (he : Nat) (ma : Nat) (hm : Int32) (kd : Int32) (cc0 : Int64) (p0 : Int32) (p1 : Int32) (p2 : Int32) (p3 : Int32) (p4 : Int32) (p5 : Int32) (p6 : Int32) (a : Nat) (n : Nat) (pl : Nat) (a2 : Nat) (n2 : Nat) (pl2 : Nat) (lk : Nat) (lv : Nat) (lo : Nat) (lp : Nat) (ll : Nat) (lf : Nat) (rk : Nat) (rv : Nat) (ro : Nat) (rp : Nat) (rl : Nat) (rf : Nat) (gk : Nat → Int32) (gv : Nat → Int32) (go : Nat → Int32) (hk : Nat → Int32) (hv : Nat → Int32) (ho_ : Nat → Int32) (ha : a ≤ 400) (hn : n ≤ a) (hol : jord a go) (ha2 : a2 ≤ 400) (hn2 : n2 ≤ a2) (hor : jord a2 ho_) : Met l yX5_pair wsX5_pair ({ frames := 2, cells := 0, slots := 0, locals := 42 }) (jr_P D vwCl (jT cI cL cQ) cL cQ [.ref h0, .int 1] [(h0, .inr (5, [.ref tl, .ref tr, .ref cu, .ref bk, .int 0])), (cu, .inr (0, [.ref tl, .ref tr, .ref he, .ref ma, .int hm, .int kd, .long cc0])), (he, .inr (2, [.int p0, .int p1, .int p2, .int p3, .int p4, .int p5, .int p6])), (tl, .inr (4, [.int (nI a), .ref lk, .ref lv, .ref lo, .ref lp, .ref ll, .ref lf, .int (nI n), .int (nI pl)])), (lk, .inl (cI, a, .inl gk)), (lv, .inl (cI, a, .inl gv)), (lo, .inl (cI, a, .inl go)), (tr, .inr (4, [.int (nI a2), .ref rk, .ref rv, .ref ro, .ref rp, .ref rl, .ref rf, .int (nI n2), .int (nI pl2)])), (rk, .inl (cI, a2, .inl hk)), (rv, .inl (cI, a2, .inl hv)), (ro, .inl (cI, a2, .inl ho_))]) (vp_Si (fun r : Int32 => ∃ (z9 : Int32), r = z9)) 0 0 (fun _ => False) := by
  refine Met.ofW (cc := cX5_pair) (maxL := 4) (ret := (some .int)) (by decide) rfl ?_
  intro p e s m args below meth c s₁ B hml hv
  obtain ⟨rfl, hP, hK, hN⟩ := hv
  have hx := B.exec
  have hb := B.bytes
  have hr := B.returns
  have hts := atoms_spec (ws := wsX5_pair) B.pre
  have hown : s.vm.findClass RX5 = some m.cls := findClass_of_methodNamed B.named
  have hlocks := B.notSynchronized
  have hl := lv_entry ([.ref h0, .int 1]) (n := 4) (Nat.le_of_ble_eq_true rfl)
  rw [lg_entry_eq]
  generalize (lg_sl ([.ref h0, .int 1]) ++ List.replicate (4 - (lg_sl ([.ref h0, .int 1])).length) Slot.unset).toArray = ls at hl ⊢
  have hl : lv_has ls 4 [(0, .ref h0), (1, .int 1)] := hl
  refine lv_iload_n hx hb dX5_pair_0 rfl (lv_at hl 1 rfl) ?_
  refine lv_iconst (v := 5) hx hb dX5_pair_1 (by decide) ?_
  refine vp_callSi (va_Run.run (va_runS (As := [.int 1, .int 5]) (rest := []) ⟨hx, hb, hml, hown, hts⟩ (gJ_isBelow l D cI cL cQ 1 5) (va_cwS 2 hts gX5_pair_X5_isBelow rfl rfl rfl (by decide +kernel) ⟨Nat.le_of_ble_eq_true rfl, Nat.le_of_ble_eq_true rfl⟩) (jr_S hK hN hP [] rfl) rfl rfl hl.1 rfl (lv_room (Nat.le_of_ble_eq_true rfl)) dX5_pair_2 ⟨Nat.le_of_ble_eq_true rfl, Nat.le_of_ble_eq_true rfl⟩)) (fun r f_1 => ?_)
  rcases f_1 with ⟨rfl, f_2, f_3⟩ | ⟨rfl, f_4⟩
  · refine va_csv (va_Run.run (va_runS (As := [.int 1]) (rest := []) ⟨hx, hb, hml, hown, hts⟩ (gJ_requireArgument_ok l D cI cL cQ) (va_cwS 1 hts gX5_pair_X5_requireArgument rfl rfl rfl (by decide +kernel) ⟨Nat.le_of_ble_eq_true rfl, Nat.le_of_ble_eq_true rfl⟩) (jr_S hK hN hP [] rfl) rfl rfl hl.1 rfl (lv_room (Nat.le_of_ble_eq_true rfl)) dX5_pair_5 ⟨Nat.le_of_ble_eq_true rfl, Nat.le_of_ble_eq_true rfl⟩)) (fun f_5 => ?_)
    refine lv_aload_n hx hb dX5_pair_8 rfl (lv_at hl 0 rfl) ?_
    refine va_get (D := D) (ci := 5) (v := .int 0) (C := RX5) (T := TX5) (N := 5) hx hb hts (by decide +kernel) hown hK hP 0 rfl rfl 4 (by decide) (hts (.fieldLink RX5 41 "JoinDesk" "prepared" "Z") (by decide +kernel)) (fun _ h9 => h9) rfl dX5_pair_9 ?_
    refine lv_if_eq (tgt := 25) hx hb dX5_pair_12 (by decide) (fun c_6 => ?_) (fun c_6 => absurd c_6 (by decide))
    refine lv_iconst (v := (-1)) hx hb dX5_pair_25 (by decide) ?_
    refine lv_istore_n (lv' := [(2, .int (-1)), (0, .ref h0), (1, .int 1)]) hx hb dX5_pair_26 rfl hl (by decide) rfl (fun ls hl => ?_)
    refine lv_aload_n hx hb dX5_pair_27 rfl (lv_at hl 1 rfl) ?_
    refine va_get (D := D) (ci := 5) (v := .int 0) (C := RX5) (T := TX5) (N := 5) hx hb hts (by decide +kernel) hown hK hP 0 rfl rfl 4 (by decide) (hts (.fieldLink RX5 41 "JoinDesk" "prepared" "Z") (by decide +kernel)) (fun _ h9 => h9) rfl dX5_pair_28 ?_
    refine lv_if_eq (tgt := 44) hx hb dX5_pair_31 (by decide) (fun c_7 => ?_) (fun c_7 => absurd c_7 (by decide))
    refine lv_iconst (v := (-1)) hx hb dX5_pair_44 (by decide) ?_
    refine lv_istore_n (lv' := [(3, .int (-1)), (2, .int (-1)), (0, .ref h0), (1, .int 1)]) hx hb dX5_pair_45 rfl hl (by decide) rfl (fun ls hl => ?_)
    refine lv_iload_n hx hb dX5_pair_46 rfl (lv_at hl 3 rfl) ?_
    refine lv_tableIn (tgt := 107) hx hb dX5_pair_47 (by decide) (by decide) rfl (by decide) ?_
    refine lv_aload_n hx hb dX5_pair_107 rfl (lv_at hl 2 rfl) ?_
    refine va_get (D := D) (ci := 5) (v := .ref tl) (C := RX5) (T := TX5) (N := 5) hx hb hts (by decide +kernel) hown hK hP 0 rfl rfl 0 (by decide) (hts (.fieldLink RX5 18 "JoinDesk" "left" "LJoinDesk$Table;") (by decide +kernel)) (fun _ h9 => h9) rfl dX5_pair_108 ?_
    refine lv_iload_n hx hb dX5_pair_111 rfl (lv_at hl 1 rfl) ?_
    refine vp_callSi (va_Run.run (va_runV (As := [.int (-1)]) (rest := []) ⟨hx, hb, hml, hown, hts⟩ (gT_valueAt l D cI cL cQ tl a n pl lk lv lo lp ll lf gv go (-1) (by first | assumption | decide | omega) (by first | assumption | decide | omega) (by first | assumption | decide | omega)) (cwV 1 hts gX5_pair_X4_valueAt rfl rfl rfl (by decide +kernel) ⟨Nat.le_of_ble_eq_true rfl, Nat.le_of_ble_eq_true rfl⟩) (jr_V hK hN hP [3, 5, 6] rfl 4 3 rfl rfl rfl) rfl rfl hl.1 rfl (lv_room (Nat.le_of_ble_eq_true rfl)) dX5_pair_112 ⟨Nat.le_of_ble_eq_true rfl, Nat.le_of_ble_eq_true rfl⟩)) (fun r f_8 => ?_)
    obtain rfl := f_8
    exact W.iret (v := jat n gv go (-1)) hx hb hr (fun t ht hW => ⟨(jat n gv go (-1)), rfl, (by exact ⟨_, rfl⟩), ht⟩) (fun _ h => nomatch h) dX5_pair_115
  · exact False.elim (by revert f_4; decide)
set_option maxHeartbeats 1000000 in
set_option maxRecDepth 100000 in
theorem gJ_pair_02 (l : Launch) (D : va_G) (cI cL cQ : ClassId) (h0 : Nat) (tl : Nat) (tr : Nat) (cu : Nat) (bk : Nat) (he : Nat) (ma : Nat) (hm : Int32) (kd : Int32) (cc0 : Int64) (p0 : Int32) (p1 : Int32) (p2 : Int32) (p3 : Int32) (p4 : Int32) (p5 : Int32) (p6 : Int32) (a : Nat) (n : Nat) (pl : Nat) (a2 : Nat) (n2 : Nat) (pl2 : Nat) (lk : Nat) (lv : Nat) (lo : Nat) (lp : Nat) (ll : Nat) (lf : Nat) (rk : Nat) (rv : Nat) (ro : Nat) (rp : Nat) (rl : Nat) (rf : Nat) (gk : Nat → Int32) (gv : Nat → Int32) (go : Nat → Int32) (hk : Nat → Int32) (hv : Nat → Int32) (ho_ : Nat → Int32) (ha : a ≤ 400) (hn : n ≤ a) (hol : jord a go) (ha2 : a2 ≤ 400) (hn2 : n2 ≤ a2) (hor : jord a2 ho_) : Met l yX5_pair wsX5_pair ({ frames := 2, cells := 0, slots := 0, locals := 42 }) (jr_P D vwCl (jT cI cL cQ) cL cQ [.ref h0, .int 2] [(h0, .inr (5, [.ref tl, .ref tr, .ref cu, .ref bk, .int 0])), (cu, .inr (0, [.ref tl, .ref tr, .ref he, .ref ma, .int hm, .int kd, .long cc0])), (he, .inr (2, [.int p0, .int p1, .int p2, .int p3, .int p4, .int p5, .int p6])), (tl, .inr (4, [.int (nI a), .ref lk, .ref lv, .ref lo, .ref lp, .ref ll, .ref lf, .int (nI n), .int (nI pl)])), (lk, .inl (cI, a, .inl gk)), (lv, .inl (cI, a, .inl gv)), (lo, .inl (cI, a, .inl go)), (tr, .inr (4, [.int (nI a2), .ref rk, .ref rv, .ref ro, .ref rp, .ref rl, .ref rf, .int (nI n2), .int (nI pl2)])), (rk, .inl (cI, a2, .inl hk)), (rv, .inl (cI, a2, .inl hv)), (ro, .inl (cI, a2, .inl ho_))]) (vp_Si (fun r : Int32 => ∃ (z9 : Int32), r = z9)) 0 0 (fun _ => False) := by
  refine Met.ofW (cc := cX5_pair) (maxL := 4) (ret := (some .int)) (by decide) rfl ?_
  intro p e s m args below meth c s₁ B hml hv
  obtain ⟨rfl, hP, hK, hN⟩ := hv
  have hx := B.exec
  have hb := B.bytes
  have hr := B.returns
  have hts := atoms_spec (ws := wsX5_pair) B.pre
  have hown : s.vm.findClass RX5 = some m.cls := findClass_of_methodNamed B.named
  have hlocks := B.notSynchronized
  have hl := lv_entry ([.ref h0, .int 2]) (n := 4) (Nat.le_of_ble_eq_true rfl)
  rw [lg_entry_eq]
  generalize (lg_sl ([.ref h0, .int 2]) ++ List.replicate (4 - (lg_sl ([.ref h0, .int 2])).length) Slot.unset).toArray = ls at hl ⊢
  have hl : lv_has ls 4 [(0, .ref h0), (1, .int 2)] := hl
  refine lv_iload_n hx hb dX5_pair_0 rfl (lv_at hl 1 rfl) ?_
  refine lv_iconst (v := 5) hx hb dX5_pair_1 (by decide) ?_
  refine vp_callSi (va_Run.run (va_runS (As := [.int 2, .int 5]) (rest := []) ⟨hx, hb, hml, hown, hts⟩ (gJ_isBelow l D cI cL cQ 2 5) (va_cwS 2 hts gX5_pair_X5_isBelow rfl rfl rfl (by decide +kernel) ⟨Nat.le_of_ble_eq_true rfl, Nat.le_of_ble_eq_true rfl⟩) (jr_S hK hN hP [] rfl) rfl rfl hl.1 rfl (lv_room (Nat.le_of_ble_eq_true rfl)) dX5_pair_2 ⟨Nat.le_of_ble_eq_true rfl, Nat.le_of_ble_eq_true rfl⟩)) (fun r f_1 => ?_)
  rcases f_1 with ⟨rfl, f_2, f_3⟩ | ⟨rfl, f_4⟩
  · refine va_csv (va_Run.run (va_runS (As := [.int 1]) (rest := []) ⟨hx, hb, hml, hown, hts⟩ (gJ_requireArgument_ok l D cI cL cQ) (va_cwS 1 hts gX5_pair_X5_requireArgument rfl rfl rfl (by decide +kernel) ⟨Nat.le_of_ble_eq_true rfl, Nat.le_of_ble_eq_true rfl⟩) (jr_S hK hN hP [] rfl) rfl rfl hl.1 rfl (lv_room (Nat.le_of_ble_eq_true rfl)) dX5_pair_5 ⟨Nat.le_of_ble_eq_true rfl, Nat.le_of_ble_eq_true rfl⟩)) (fun f_5 => ?_)
    refine lv_aload_n hx hb dX5_pair_8 rfl (lv_at hl 0 rfl) ?_
    refine va_get (D := D) (ci := 5) (v := .int 0) (C := RX5) (T := TX5) (N := 5) hx hb hts (by decide +kernel) hown hK hP 0 rfl rfl 4 (by decide) (hts (.fieldLink RX5 41 "JoinDesk" "prepared" "Z") (by decide +kernel)) (fun _ h9 => h9) rfl dX5_pair_9 ?_
    refine lv_if_eq (tgt := 25) hx hb dX5_pair_12 (by decide) (fun c_6 => ?_) (fun c_6 => absurd c_6 (by decide))
    refine lv_iconst (v := (-1)) hx hb dX5_pair_25 (by decide) ?_
    refine lv_istore_n (lv' := [(2, .int (-1)), (0, .ref h0), (1, .int 2)]) hx hb dX5_pair_26 rfl hl (by decide) rfl (fun ls hl => ?_)
    refine lv_aload_n hx hb dX5_pair_27 rfl (lv_at hl 1 rfl) ?_
    refine va_get (D := D) (ci := 5) (v := .int 0) (C := RX5) (T := TX5) (N := 5) hx hb hts (by decide +kernel) hown hK hP 0 rfl rfl 4 (by decide) (hts (.fieldLink RX5 41 "JoinDesk" "prepared" "Z") (by decide +kernel)) (fun _ h9 => h9) rfl dX5_pair_28 ?_
    refine lv_if_eq (tgt := 44) hx hb dX5_pair_31 (by decide) (fun c_7 => ?_) (fun c_7 => absurd c_7 (by decide))
    refine lv_iconst (v := (-1)) hx hb dX5_pair_44 (by decide) ?_
    refine lv_istore_n (lv' := [(3, .int (-1)), (2, .int (-1)), (0, .ref h0), (1, .int 2)]) hx hb dX5_pair_45 rfl hl (by decide) rfl (fun ls hl => ?_)
    refine lv_iload_n hx hb dX5_pair_46 rfl (lv_at hl 3 rfl) ?_
    refine lv_tableIn (tgt := 116) hx hb dX5_pair_47 (by decide) (by decide) rfl (by decide) ?_
    refine lv_aload_n hx hb dX5_pair_116 rfl (lv_at hl 2 rfl) ?_
    refine va_get (D := D) (ci := 5) (v := .ref tr) (C := RX5) (T := TX5) (N := 5) hx hb hts (by decide +kernel) hown hK hP 0 rfl rfl 1 (by decide) (hts (.fieldLink RX5 22 "JoinDesk" "right" "LJoinDesk$Table;") (by decide +kernel)) (fun _ h9 => h9) rfl dX5_pair_117 ?_
    refine lv_iload_n hx hb dX5_pair_120 rfl (lv_at hl 0 rfl) ?_
    refine vp_callSi (va_Run.run (va_runV (As := [.int (-1)]) (rest := []) ⟨hx, hb, hml, hown, hts⟩ (gT_valueAt l D cI cL cQ tr a2 n2 pl2 rk rv ro rp rl rf hv ho_ (-1) (by first | assumption | decide | omega) (by first | assumption | decide | omega) (by first | assumption | decide | omega)) (cwV 1 hts gX5_pair_X4_valueAt rfl rfl rfl (by decide +kernel) ⟨Nat.le_of_ble_eq_true rfl, Nat.le_of_ble_eq_true rfl⟩) (jr_V hK hN hP [7, 9, 10] rfl 4 7 rfl rfl rfl) rfl rfl hl.1 rfl (lv_room (Nat.le_of_ble_eq_true rfl)) dX5_pair_121 ⟨Nat.le_of_ble_eq_true rfl, Nat.le_of_ble_eq_true rfl⟩)) (fun r f_8 => ?_)
    obtain rfl := f_8
    exact W.iret (v := jat n2 hv ho_ (-1)) hx hb hr (fun t ht hW => ⟨(jat n2 hv ho_ (-1)), rfl, (by exact ⟨_, rfl⟩), ht⟩) (fun _ h => nomatch h) dX5_pair_124
  · exact False.elim (by revert f_4; decide)
set_option maxHeartbeats 1000000 in
set_option maxRecDepth 100000 in
theorem gJ_pair_03 (l : Launch) (D : va_G) (cI cL cQ : ClassId) (h0 : Nat) (tl : Nat) (tr : Nat) (cu : Nat) (bk : Nat) (he : Nat) (ma : Nat) (hm : Int32) (kd : Int32) (cc0 : Int64) (p0 : Int32) (p1 : Int32) (p2 : Int32) (p3 : Int32) (p4 : Int32) (p5 : Int32) (p6 : Int32) (a : Nat) (n : Nat) (pl : Nat) (a2 : Nat) (n2 : Nat) (pl2 : Nat) (lk : Nat) (lv : Nat) (lo : Nat) (lp : Nat) (ll : Nat) (lf : Nat) (rk : Nat) (rv : Nat) (ro : Nat) (rp : Nat) (rl : Nat) (rf : Nat) (gk : Nat → Int32) (gv : Nat → Int32) (go : Nat → Int32) (hk : Nat → Int32) (hv : Nat → Int32) (ho_ : Nat → Int32) (ha : a ≤ 400) (hn : n ≤ a) (hol : jord a go) (ha2 : a2 ≤ 400) (hn2 : n2 ≤ a2) (hor : jord a2 ho_) : Met l yX5_pair wsX5_pair ({ frames := 2, cells := 0, slots := 0, locals := 42 }) (jr_P D vwCl (jT cI cL cQ) cL cQ [.ref h0, .int 3] [(h0, .inr (5, [.ref tl, .ref tr, .ref cu, .ref bk, .int 0])), (cu, .inr (0, [.ref tl, .ref tr, .ref he, .ref ma, .int hm, .int kd, .long cc0])), (he, .inr (2, [.int p0, .int p1, .int p2, .int p3, .int p4, .int p5, .int p6])), (tl, .inr (4, [.int (nI a), .ref lk, .ref lv, .ref lo, .ref lp, .ref ll, .ref lf, .int (nI n), .int (nI pl)])), (lk, .inl (cI, a, .inl gk)), (lv, .inl (cI, a, .inl gv)), (lo, .inl (cI, a, .inl go)), (tr, .inr (4, [.int (nI a2), .ref rk, .ref rv, .ref ro, .ref rp, .ref rl, .ref rf, .int (nI n2), .int (nI pl2)])), (rk, .inl (cI, a2, .inl hk)), (rv, .inl (cI, a2, .inl hv)), (ro, .inl (cI, a2, .inl ho_))]) (vp_Si (fun r : Int32 => ∃ (z9 : Int32), r = z9)) 0 0 (fun _ => False) := by
  refine Met.ofW (cc := cX5_pair) (maxL := 4) (ret := (some .int)) (by decide) rfl ?_
  intro p e s m args below meth c s₁ B hml hv
  obtain ⟨rfl, hP, hK, hN⟩ := hv
  have hx := B.exec
  have hb := B.bytes
  have hr := B.returns
  have hts := atoms_spec (ws := wsX5_pair) B.pre
  have hown : s.vm.findClass RX5 = some m.cls := findClass_of_methodNamed B.named
  have hlocks := B.notSynchronized
  have hl := lv_entry ([.ref h0, .int 3]) (n := 4) (Nat.le_of_ble_eq_true rfl)
  rw [lg_entry_eq]
  generalize (lg_sl ([.ref h0, .int 3]) ++ List.replicate (4 - (lg_sl ([.ref h0, .int 3])).length) Slot.unset).toArray = ls at hl ⊢
  have hl : lv_has ls 4 [(0, .ref h0), (1, .int 3)] := hl
  refine lv_iload_n hx hb dX5_pair_0 rfl (lv_at hl 1 rfl) ?_
  refine lv_iconst (v := 5) hx hb dX5_pair_1 (by decide) ?_
  refine vp_callSi (va_Run.run (va_runS (As := [.int 3, .int 5]) (rest := []) ⟨hx, hb, hml, hown, hts⟩ (gJ_isBelow l D cI cL cQ 3 5) (va_cwS 2 hts gX5_pair_X5_isBelow rfl rfl rfl (by decide +kernel) ⟨Nat.le_of_ble_eq_true rfl, Nat.le_of_ble_eq_true rfl⟩) (jr_S hK hN hP [] rfl) rfl rfl hl.1 rfl (lv_room (Nat.le_of_ble_eq_true rfl)) dX5_pair_2 ⟨Nat.le_of_ble_eq_true rfl, Nat.le_of_ble_eq_true rfl⟩)) (fun r f_1 => ?_)
  rcases f_1 with ⟨rfl, f_2, f_3⟩ | ⟨rfl, f_4⟩
  · refine va_csv (va_Run.run (va_runS (As := [.int 1]) (rest := []) ⟨hx, hb, hml, hown, hts⟩ (gJ_requireArgument_ok l D cI cL cQ) (va_cwS 1 hts gX5_pair_X5_requireArgument rfl rfl rfl (by decide +kernel) ⟨Nat.le_of_ble_eq_true rfl, Nat.le_of_ble_eq_true rfl⟩) (jr_S hK hN hP [] rfl) rfl rfl hl.1 rfl (lv_room (Nat.le_of_ble_eq_true rfl)) dX5_pair_5 ⟨Nat.le_of_ble_eq_true rfl, Nat.le_of_ble_eq_true rfl⟩)) (fun f_5 => ?_)
    refine lv_aload_n hx hb dX5_pair_8 rfl (lv_at hl 0 rfl) ?_
    refine va_get (D := D) (ci := 5) (v := .int 0) (C := RX5) (T := TX5) (N := 5) hx hb hts (by decide +kernel) hown hK hP 0 rfl rfl 4 (by decide) (hts (.fieldLink RX5 41 "JoinDesk" "prepared" "Z") (by decide +kernel)) (fun _ h9 => h9) rfl dX5_pair_9 ?_
    refine lv_if_eq (tgt := 25) hx hb dX5_pair_12 (by decide) (fun c_6 => ?_) (fun c_6 => absurd c_6 (by decide))
    refine lv_iconst (v := (-1)) hx hb dX5_pair_25 (by decide) ?_
    refine lv_istore_n (lv' := [(2, .int (-1)), (0, .ref h0), (1, .int 3)]) hx hb dX5_pair_26 rfl hl (by decide) rfl (fun ls hl => ?_)
    refine lv_aload_n hx hb dX5_pair_27 rfl (lv_at hl 1 rfl) ?_
    refine va_get (D := D) (ci := 5) (v := .int 0) (C := RX5) (T := TX5) (N := 5) hx hb hts (by decide +kernel) hown hK hP 0 rfl rfl 4 (by decide) (hts (.fieldLink RX5 41 "JoinDesk" "prepared" "Z") (by decide +kernel)) (fun _ h9 => h9) rfl dX5_pair_28 ?_
    refine lv_if_eq (tgt := 44) hx hb dX5_pair_31 (by decide) (fun c_7 => ?_) (fun c_7 => absurd c_7 (by decide))
    refine lv_iconst (v := (-1)) hx hb dX5_pair_44 (by decide) ?_
    refine lv_istore_n (lv' := [(3, .int (-1)), (2, .int (-1)), (0, .ref h0), (1, .int 3)]) hx hb dX5_pair_45 rfl hl (by decide) rfl (fun ls hl => ?_)
    refine lv_iload_n hx hb dX5_pair_46 rfl (lv_at hl 3 rfl) ?_
    refine lv_tableIn (tgt := 125) hx hb dX5_pair_47 (by decide) (by decide) rfl (by decide) ?_
    refine lv_aload_n hx hb dX5_pair_125 rfl (lv_at hl 2 rfl) ?_
    refine va_get (D := D) (ci := 5) (v := .ref tl) (C := RX5) (T := TX5) (N := 5) hx hb hts (by decide +kernel) hown hK hP 0 rfl rfl 0 (by decide) (hts (.fieldLink RX5 18 "JoinDesk" "left" "LJoinDesk$Table;") (by decide +kernel)) (fun _ h9 => h9) rfl dX5_pair_126 ?_
    refine lv_iload_n hx hb dX5_pair_129 rfl (lv_at hl 1 rfl) ?_
    refine vp_callSi (va_Run.run (va_runV (As := [.int (-1)]) (rest := []) ⟨hx, hb, hml, hown, hts⟩ (gT_numberAt l D cI cL cQ tl a n pl lk lv lo lp ll lf go (-1) (by first | assumption | decide | omega) (by first | assumption | decide | omega)) (cwV 1 hts gX5_pair_X4_numberAt rfl rfl rfl (by decide +kernel) ⟨Nat.le_of_ble_eq_true rfl, Nat.le_of_ble_eq_true rfl⟩) (jr_V hK hN hP [3, 6] rfl 4 3 rfl rfl rfl) rfl rfl hl.1 rfl (lv_room (Nat.le_of_ble_eq_true rfl)) dX5_pair_130 ⟨Nat.le_of_ble_eq_true rfl, Nat.le_of_ble_eq_true rfl⟩)) (fun r f_8 => ?_)
    obtain rfl := f_8
    exact W.iret (v := jnum n go (-1)) hx hb hr (fun t ht hW => ⟨(jnum n go (-1)), rfl, (by exact ⟨_, rfl⟩), ht⟩) (fun _ h => nomatch h) dX5_pair_133
  · exact False.elim (by revert f_4; decide)
set_option maxHeartbeats 1000000 in
set_option maxRecDepth 100000 in
theorem gJ_pair_04 (l : Launch) (D : va_G) (cI cL cQ : ClassId) (h0 : Nat) (tl : Nat) (tr : Nat) (cu : Nat) (bk : Nat) (he : Nat) (ma : Nat) (hm : Int32) (kd : Int32) (cc0 : Int64) (p0 : Int32) (p1 : Int32) (p2 : Int32) (p3 : Int32) (p4 : Int32) (p5 : Int32) (p6 : Int32) (a : Nat) (n : Nat) (pl : Nat) (a2 : Nat) (n2 : Nat) (pl2 : Nat) (lk : Nat) (lv : Nat) (lo : Nat) (lp : Nat) (ll : Nat) (lf : Nat) (rk : Nat) (rv : Nat) (ro : Nat) (rp : Nat) (rl : Nat) (rf : Nat) (gk : Nat → Int32) (gv : Nat → Int32) (go : Nat → Int32) (hk : Nat → Int32) (hv : Nat → Int32) (ho_ : Nat → Int32) (ha : a ≤ 400) (hn : n ≤ a) (hol : jord a go) (ha2 : a2 ≤ 400) (hn2 : n2 ≤ a2) (hor : jord a2 ho_) : Met l yX5_pair wsX5_pair ({ frames := 2, cells := 0, slots := 0, locals := 42 }) (jr_P D vwCl (jT cI cL cQ) cL cQ [.ref h0, .int 4] [(h0, .inr (5, [.ref tl, .ref tr, .ref cu, .ref bk, .int 0])), (cu, .inr (0, [.ref tl, .ref tr, .ref he, .ref ma, .int hm, .int kd, .long cc0])), (he, .inr (2, [.int p0, .int p1, .int p2, .int p3, .int p4, .int p5, .int p6])), (tl, .inr (4, [.int (nI a), .ref lk, .ref lv, .ref lo, .ref lp, .ref ll, .ref lf, .int (nI n), .int (nI pl)])), (lk, .inl (cI, a, .inl gk)), (lv, .inl (cI, a, .inl gv)), (lo, .inl (cI, a, .inl go)), (tr, .inr (4, [.int (nI a2), .ref rk, .ref rv, .ref ro, .ref rp, .ref rl, .ref rf, .int (nI n2), .int (nI pl2)])), (rk, .inl (cI, a2, .inl hk)), (rv, .inl (cI, a2, .inl hv)), (ro, .inl (cI, a2, .inl ho_))]) (vp_Si (fun r : Int32 => ∃ (z9 : Int32), r = z9)) 0 0 (fun _ => False) := by
  refine Met.ofW (cc := cX5_pair) (maxL := 4) (ret := (some .int)) (by decide) rfl ?_
  intro p e s m args below meth c s₁ B hml hv
  obtain ⟨rfl, hP, hK, hN⟩ := hv
  have hx := B.exec
  have hb := B.bytes
  have hr := B.returns
  have hts := atoms_spec (ws := wsX5_pair) B.pre
  have hown : s.vm.findClass RX5 = some m.cls := findClass_of_methodNamed B.named
  have hlocks := B.notSynchronized
  have hl := lv_entry ([.ref h0, .int 4]) (n := 4) (Nat.le_of_ble_eq_true rfl)
  rw [lg_entry_eq]
  generalize (lg_sl ([.ref h0, .int 4]) ++ List.replicate (4 - (lg_sl ([.ref h0, .int 4])).length) Slot.unset).toArray = ls at hl ⊢
  have hl : lv_has ls 4 [(0, .ref h0), (1, .int 4)] := hl
  refine lv_iload_n hx hb dX5_pair_0 rfl (lv_at hl 1 rfl) ?_
  refine lv_iconst (v := 5) hx hb dX5_pair_1 (by decide) ?_
  refine vp_callSi (va_Run.run (va_runS (As := [.int 4, .int 5]) (rest := []) ⟨hx, hb, hml, hown, hts⟩ (gJ_isBelow l D cI cL cQ 4 5) (va_cwS 2 hts gX5_pair_X5_isBelow rfl rfl rfl (by decide +kernel) ⟨Nat.le_of_ble_eq_true rfl, Nat.le_of_ble_eq_true rfl⟩) (jr_S hK hN hP [] rfl) rfl rfl hl.1 rfl (lv_room (Nat.le_of_ble_eq_true rfl)) dX5_pair_2 ⟨Nat.le_of_ble_eq_true rfl, Nat.le_of_ble_eq_true rfl⟩)) (fun r f_1 => ?_)
  rcases f_1 with ⟨rfl, f_2, f_3⟩ | ⟨rfl, f_4⟩
  · refine va_csv (va_Run.run (va_runS (As := [.int 1]) (rest := []) ⟨hx, hb, hml, hown, hts⟩ (gJ_requireArgument_ok l D cI cL cQ) (va_cwS 1 hts gX5_pair_X5_requireArgument rfl rfl rfl (by decide +kernel) ⟨Nat.le_of_ble_eq_true rfl, Nat.le_of_ble_eq_true rfl⟩) (jr_S hK hN hP [] rfl) rfl rfl hl.1 rfl (lv_room (Nat.le_of_ble_eq_true rfl)) dX5_pair_5 ⟨Nat.le_of_ble_eq_true rfl, Nat.le_of_ble_eq_true rfl⟩)) (fun f_5 => ?_)
    refine lv_aload_n hx hb dX5_pair_8 rfl (lv_at hl 0 rfl) ?_
    refine va_get (D := D) (ci := 5) (v := .int 0) (C := RX5) (T := TX5) (N := 5) hx hb hts (by decide +kernel) hown hK hP 0 rfl rfl 4 (by decide) (hts (.fieldLink RX5 41 "JoinDesk" "prepared" "Z") (by decide +kernel)) (fun _ h9 => h9) rfl dX5_pair_9 ?_
    refine lv_if_eq (tgt := 25) hx hb dX5_pair_12 (by decide) (fun c_6 => ?_) (fun c_6 => absurd c_6 (by decide))
    refine lv_iconst (v := (-1)) hx hb dX5_pair_25 (by decide) ?_
    refine lv_istore_n (lv' := [(2, .int (-1)), (0, .ref h0), (1, .int 4)]) hx hb dX5_pair_26 rfl hl (by decide) rfl (fun ls hl => ?_)
    refine lv_aload_n hx hb dX5_pair_27 rfl (lv_at hl 1 rfl) ?_
    refine va_get (D := D) (ci := 5) (v := .int 0) (C := RX5) (T := TX5) (N := 5) hx hb hts (by decide +kernel) hown hK hP 0 rfl rfl 4 (by decide) (hts (.fieldLink RX5 41 "JoinDesk" "prepared" "Z") (by decide +kernel)) (fun _ h9 => h9) rfl dX5_pair_28 ?_
    refine lv_if_eq (tgt := 44) hx hb dX5_pair_31 (by decide) (fun c_7 => ?_) (fun c_7 => absurd c_7 (by decide))
    refine lv_iconst (v := (-1)) hx hb dX5_pair_44 (by decide) ?_
    refine lv_istore_n (lv' := [(3, .int (-1)), (2, .int (-1)), (0, .ref h0), (1, .int 4)]) hx hb dX5_pair_45 rfl hl (by decide) rfl (fun ls hl => ?_)
    refine lv_iload_n hx hb dX5_pair_46 rfl (lv_at hl 3 rfl) ?_
    refine lv_tableOut (tgt := 134) hx hb dX5_pair_47 (by decide) (by decide) ?_
    refine lv_aload_n hx hb dX5_pair_134 rfl (lv_at hl 2 rfl) ?_
    refine va_get (D := D) (ci := 5) (v := .ref tr) (C := RX5) (T := TX5) (N := 5) hx hb hts (by decide +kernel) hown hK hP 0 rfl rfl 1 (by decide) (hts (.fieldLink RX5 22 "JoinDesk" "right" "LJoinDesk$Table;") (by decide +kernel)) (fun _ h9 => h9) rfl dX5_pair_135 ?_
    refine lv_iload_n hx hb dX5_pair_138 rfl (lv_at hl 0 rfl) ?_
    refine vp_callSi (va_Run.run (va_runV (As := [.int (-1)]) (rest := []) ⟨hx, hb, hml, hown, hts⟩ (gT_numberAt l D cI cL cQ tr a2 n2 pl2 rk rv ro rp rl rf ho_ (-1) (by first | assumption | decide | omega) (by first | assumption | decide | omega)) (cwV 1 hts gX5_pair_X4_numberAt rfl rfl rfl (by decide +kernel) ⟨Nat.le_of_ble_eq_true rfl, Nat.le_of_ble_eq_true rfl⟩) (jr_V hK hN hP [7, 10] rfl 4 7 rfl rfl rfl) rfl rfl hl.1 rfl (lv_room (Nat.le_of_ble_eq_true rfl)) dX5_pair_139 ⟨Nat.le_of_ble_eq_true rfl, Nat.le_of_ble_eq_true rfl⟩)) (fun r f_8 => ?_)
    obtain rfl := f_8
    exact W.iret (v := jnum n2 ho_ (-1)) hx hb hr (fun t ht hW => ⟨(jnum n2 ho_ (-1)), rfl, (by exact ⟨_, rfl⟩), ht⟩) (fun _ h => nomatch h) dX5_pair_142
  · exact False.elim (by revert f_4; decide)
set_option maxHeartbeats 1000000 in
set_option maxRecDepth 100000 in
theorem gJ_about_t (l : Launch) (hnt : l.stackTraces = false) (D : va_G) (cI cL cQ : ClassId) (h0 : Nat) (tl : Nat) (tr : Nat) (cu : Nat) (bk : Nat) (pr : Int32) (x : Int32) (h1 : x < 0 ∨ 5 ≤ x) : vx_Met l yX5_about wsX5_about ({ frames := 7, cells := 1, slots := 6, locals := 102 }) (jt_P D vwCl (jT cI cL cQ) cL cQ [.ref h0, .int x] [(h0, .inr (5, [.ref tl, .ref tr, .ref cu, .ref bk, .int pr]))]) (fun _ _ _ _ => False) (jx_X "java/lang/IllegalArgumentException") 1 6 (fun _ => False) := by
  refine vx_ofW (cc := cX5_about) (maxL := 2) (ret := (some .long)) (by decide) rfl ?_
  intro p e s m args below meth c s₁ B hml hxt hv
  obtain ⟨rfl, hP, hK, hN, hZ⟩ := hv
  have hx := B.exec
  have hb := B.bytes
  have hr := B.returns
  have hts := atoms_spec (ws := wsX5_about) B.pre
  have hown : s.vm.findClass RX5 = some m.cls := findClass_of_methodNamed B.named
  have hlocks := B.notSynchronized
  have hl := lv_entry ([.ref h0, .int x]) (n := 2) (Nat.le_of_ble_eq_true rfl)
  rw [lg_entry_eq]
  generalize (lg_sl ([.ref h0, .int x]) ++ List.replicate (2 - (lg_sl ([.ref h0, .int x])).length) Slot.unset).toArray = ls at hl ⊢
  have hl : lv_has ls 2 [(0, .ref h0), (1, .int x)] := hl
  refine lv_iload_n hx hb dX5_about_0 rfl (lv_at hl 1 rfl) ?_
  refine lv_iconst (v := 5) hx hb dX5_about_1 (by decide) ?_
  refine vp_callSi (va_Run.run (va_runS (As := [.int x, .int 5]) (rest := []) ⟨hx, hb, hml, hown, hts⟩ (gJ_isBelow l D cI cL cQ x 5) (va_cwS 2 hts gX5_about_X5_isBelow rfl rfl rfl (by decide +kernel) ⟨Nat.le_of_ble_eq_true rfl, Nat.le_of_ble_eq_true rfl⟩) (jr_S hK hN hP [] rfl) rfl rfl hl.1 rfl (lv_room (Nat.le_of_ble_eq_true rfl)) dX5_about_2 ⟨Nat.le_of_ble_eq_true rfl, Nat.le_of_ble_eq_true rfl⟩)) (fun r f_1 => ?_)
  rcases f_1 with ⟨rfl, f_2, f_3⟩ | ⟨rfl, f_4⟩
  · exact False.elim (h1.elim f_2 f_3)
  · refine jx_thr (vx_runS (As := [.int 0]) (rest := []) ⟨hx, hb, hml, hown, hts⟩ (cJ_requireArgument_t l hnt D cI cL cQ) (va_cwS 1 hts gX5_about_X5_requireArgument rfl rfl rfl (by decide +kernel) ⟨Nat.le_of_ble_eq_true rfl, Nat.le_of_ble_eq_true rfl⟩) (jt_S hK hN hZ hP [] rfl) rfl rfl hl.1 rfl (lv_room (Nat.le_of_ble_eq_true rfl)) dX5_about_5 ⟨Nat.le_of_ble_eq_true rfl, Nat.le_of_ble_eq_true rfl⟩) (fun ce q9 H1 hz hk hce hcv hcl => ?_)
    exact jx_out hxt hlocks hz hk hce hcv hcl (Nat.le_of_ble_eq_true rfl) (Nat.le_of_ble_eq_true rfl)
set_option maxHeartbeats 1000000 in
set_option maxRecDepth 100000 in
theorem gJ_about_0 (l : Launch) (D : va_G) (cI cL cQ : ClassId) (h0 : Nat) (tl : Nat) (tr : Nat) (cu : Nat) (bk : Nat) (he : Nat) (ma : Nat) (hm : Int32) (kd : Int32) (cc0 : Int64) (a : Nat) (n : Nat) (pl : Nat) (a2 : Nat) (n2 : Nat) (pl2 : Nat) (lk : Nat) (lv : Nat) (lo : Nat) (lp : Nat) (ll : Nat) (lf : Nat) (rk : Nat) (rv : Nat) (ro : Nat) (rp : Nat) (rl : Nat) (rf : Nat) (pr : Int32) : Met l yX5_about wsX5_about ({ frames := 1, cells := 0, slots := 0, locals := 21 }) (jr_P D vwCl (jT cI cL cQ) cL cQ [.ref h0, .int 0] [(h0, .inr (5, [.ref tl, .ref tr, .ref cu, .ref bk, .int pr])), (tl, .inr (4, [.int (nI a), .ref lk, .ref lv, .ref lo, .ref lp, .ref ll, .ref lf, .int (nI n), .int (nI pl)])), (tr, .inr (4, [.int (nI a2), .ref rk, .ref rv, .ref ro, .ref rp, .ref rl, .ref rf, .int (nI n2), .int (nI pl2)])), (cu, .inr (0, [.ref tl, .ref tr, .ref he, .ref ma, .int hm, .int kd, .long cc0]))]) (vp_Sl (fun r : Int64 => r = cc0)) 0 0 (fun _ => False) := by
  refine Met.ofW (cc := cX5_about) (maxL := 2) (ret := (some .long)) (by decide) rfl ?_
  intro p e s m args below meth c s₁ B hml hv
  obtain ⟨rfl, hP, hK, hN⟩ := hv
  have hx := B.exec
  have hb := B.bytes
  have hr := B.returns
  have hts := atoms_spec (ws := wsX5_about) B.pre
  have hown : s.vm.findClass RX5 = some m.cls := findClass_of_methodNamed B.named
  have hlocks := B.notSynchronized
  have hl := lv_entry ([.ref h0, .int 0]) (n := 2) (Nat.le_of_ble_eq_true rfl)
  rw [lg_entry_eq]
  generalize (lg_sl ([.ref h0, .int 0]) ++ List.replicate (2 - (lg_sl ([.ref h0, .int 0])).length) Slot.unset).toArray = ls at hl ⊢
  have hl : lv_has ls 2 [(0, .ref h0), (1, .int 0)] := hl
  refine lv_iload_n hx hb dX5_about_0 rfl (lv_at hl 1 rfl) ?_
  refine lv_iconst (v := 5) hx hb dX5_about_1 (by decide) ?_
  refine vp_callSi (va_Run.run (va_runS (As := [.int 0, .int 5]) (rest := []) ⟨hx, hb, hml, hown, hts⟩ (gJ_isBelow l D cI cL cQ 0 5) (va_cwS 2 hts gX5_about_X5_isBelow rfl rfl rfl (by decide +kernel) ⟨Nat.le_of_ble_eq_true rfl, Nat.le_of_ble_eq_true rfl⟩) (jr_S hK hN hP [] rfl) rfl rfl hl.1 rfl (lv_room (Nat.le_of_ble_eq_true rfl)) dX5_about_2 ⟨Nat.le_of_ble_eq_true rfl, Nat.le_of_ble_eq_true rfl⟩)) (fun r f_1 => ?_)
  rcases f_1 with ⟨rfl, f_2, f_3⟩ | ⟨rfl, f_4⟩
  · refine va_csv (va_Run.run (va_runS (As := [.int 1]) (rest := []) ⟨hx, hb, hml, hown, hts⟩ (gJ_requireArgument_ok l D cI cL cQ) (va_cwS 1 hts gX5_about_X5_requireArgument rfl rfl rfl (by decide +kernel) ⟨Nat.le_of_ble_eq_true rfl, Nat.le_of_ble_eq_true rfl⟩) (jr_S hK hN hP [] rfl) rfl rfl hl.1 rfl (lv_room (Nat.le_of_ble_eq_true rfl)) dX5_about_5 ⟨Nat.le_of_ble_eq_true rfl, Nat.le_of_ble_eq_true rfl⟩)) (fun f_5 => ?_)
    refine lv_iload_n hx hb dX5_about_8 rfl (lv_at hl 1 rfl) ?_
    refine lv_tableIn (tgt := 40) hx hb dX5_about_9 (by decide) (by decide) rfl (by decide) ?_
    refine lv_aload_n hx hb dX5_about_40 rfl (lv_at hl 0 rfl) ?_
    refine va_get (D := D) (ci := 5) (v := .ref cu) (C := RX5) (T := TX5) (N := 5) hx hb hts (by decide +kernel) hown hK hP 0 rfl rfl 2 (by decide) (hts (.fieldLink RX5 30 "JoinDesk" "cursor" "LJoinDesk$Cursor;") (by decide +kernel)) (fun _ h9 => h9) rfl dX5_about_41 ?_
    refine vp_callSl (va_Run.run (va_runV (As := []) (rest := []) ⟨hx, hb, hml, hown, hts⟩ (gC_cellsRead l D cI cL cQ cu tl tr he ma hm kd cc0) (cwV 0 hts gX5_about_X0_cellsRead rfl rfl rfl (by decide +kernel) ⟨Nat.le_of_ble_eq_true rfl, Nat.le_of_ble_eq_true rfl⟩) (jr_V hK hN hP [3] rfl 0 3 rfl rfl rfl) rfl rfl hl.1 rfl (lv_room (Nat.le_of_ble_eq_true rfl)) dX5_about_44 ⟨Nat.le_of_ble_eq_true rfl, Nat.le_of_ble_eq_true rfl⟩)) (fun r f_6 => ?_)
    obtain er_7 := f_6
    subst r
    exact W.lret (v := cc0) hx hb hr (fun t ht hW => ⟨cc0, rfl, (by exact rfl), ht⟩) (fun _ h => nomatch h) dX5_about_47
  · exact False.elim (by revert f_4; decide)
set_option maxHeartbeats 1000000 in
set_option maxRecDepth 100000 in
theorem gJ_about_1 (l : Launch) (D : va_G) (cI cL cQ : ClassId) (h0 : Nat) (tl : Nat) (tr : Nat) (cu : Nat) (bk : Nat) (he : Nat) (ma : Nat) (hm : Int32) (kd : Int32) (cc0 : Int64) (a : Nat) (n : Nat) (pl : Nat) (a2 : Nat) (n2 : Nat) (pl2 : Nat) (lk : Nat) (lv : Nat) (lo : Nat) (lp : Nat) (ll : Nat) (lf : Nat) (rk : Nat) (rv : Nat) (ro : Nat) (rp : Nat) (rl : Nat) (rf : Nat) (pr : Int32) : Met l yX5_about wsX5_about ({ frames := 1, cells := 0, slots := 0, locals := 21 }) (jr_P D vwCl (jT cI cL cQ) cL cQ [.ref h0, .int 1] [(h0, .inr (5, [.ref tl, .ref tr, .ref cu, .ref bk, .int pr])), (tl, .inr (4, [.int (nI a), .ref lk, .ref lv, .ref lo, .ref lp, .ref ll, .ref lf, .int (nI n), .int (nI pl)])), (tr, .inr (4, [.int (nI a2), .ref rk, .ref rv, .ref ro, .ref rp, .ref rl, .ref rf, .int (nI n2), .int (nI pl2)])), (cu, .inr (0, [.ref tl, .ref tr, .ref he, .ref ma, .int hm, .int kd, .long cc0]))]) (vp_Sl (fun r : Int64 => r = (nI n).toInt64)) 0 0 (fun _ => False) := by
  refine Met.ofW (cc := cX5_about) (maxL := 2) (ret := (some .long)) (by decide) rfl ?_
  intro p e s m args below meth c s₁ B hml hv
  obtain ⟨rfl, hP, hK, hN⟩ := hv
  have hx := B.exec
  have hb := B.bytes
  have hr := B.returns
  have hts := atoms_spec (ws := wsX5_about) B.pre
  have hown : s.vm.findClass RX5 = some m.cls := findClass_of_methodNamed B.named
  have hlocks := B.notSynchronized
  have hl := lv_entry ([.ref h0, .int 1]) (n := 2) (Nat.le_of_ble_eq_true rfl)
  rw [lg_entry_eq]
  generalize (lg_sl ([.ref h0, .int 1]) ++ List.replicate (2 - (lg_sl ([.ref h0, .int 1])).length) Slot.unset).toArray = ls at hl ⊢
  have hl : lv_has ls 2 [(0, .ref h0), (1, .int 1)] := hl
  refine lv_iload_n hx hb dX5_about_0 rfl (lv_at hl 1 rfl) ?_
  refine lv_iconst (v := 5) hx hb dX5_about_1 (by decide) ?_
  refine vp_callSi (va_Run.run (va_runS (As := [.int 1, .int 5]) (rest := []) ⟨hx, hb, hml, hown, hts⟩ (gJ_isBelow l D cI cL cQ 1 5) (va_cwS 2 hts gX5_about_X5_isBelow rfl rfl rfl (by decide +kernel) ⟨Nat.le_of_ble_eq_true rfl, Nat.le_of_ble_eq_true rfl⟩) (jr_S hK hN hP [] rfl) rfl rfl hl.1 rfl (lv_room (Nat.le_of_ble_eq_true rfl)) dX5_about_2 ⟨Nat.le_of_ble_eq_true rfl, Nat.le_of_ble_eq_true rfl⟩)) (fun r f_1 => ?_)
  rcases f_1 with ⟨rfl, f_2, f_3⟩ | ⟨rfl, f_4⟩
  · refine va_csv (va_Run.run (va_runS (As := [.int 1]) (rest := []) ⟨hx, hb, hml, hown, hts⟩ (gJ_requireArgument_ok l D cI cL cQ) (va_cwS 1 hts gX5_about_X5_requireArgument rfl rfl rfl (by decide +kernel) ⟨Nat.le_of_ble_eq_true rfl, Nat.le_of_ble_eq_true rfl⟩) (jr_S hK hN hP [] rfl) rfl rfl hl.1 rfl (lv_room (Nat.le_of_ble_eq_true rfl)) dX5_about_5 ⟨Nat.le_of_ble_eq_true rfl, Nat.le_of_ble_eq_true rfl⟩)) (fun f_5 => ?_)
    refine lv_iload_n hx hb dX5_about_8 rfl (lv_at hl 1 rfl) ?_
    refine lv_tableIn (tgt := 48) hx hb dX5_about_9 (by decide) (by decide) rfl (by decide) ?_
    refine lv_aload_n hx hb dX5_about_48 rfl (lv_at hl 0 rfl) ?_
    refine va_get (D := D) (ci := 5) (v := .ref tl) (C := RX5) (T := TX5) (N := 5) hx hb hts (by decide +kernel) hown hK hP 0 rfl rfl 0 (by decide) (hts (.fieldLink RX5 18 "JoinDesk" "left" "LJoinDesk$Table;") (by decide +kernel)) (fun _ h9 => h9) rfl dX5_about_49 ?_
    refine vp_callSi (va_Run.run (va_runV (As := []) (rest := []) ⟨hx, hb, hml, hown, hts⟩ (gT_size l D cI cL cQ tl a n pl lk lv lo lp ll lf) (cwV 0 hts gX5_about_X4_size rfl rfl rfl (by decide +kernel) ⟨Nat.le_of_ble_eq_true rfl, Nat.le_of_ble_eq_true rfl⟩) (jr_V hK hN hP [1] rfl 4 1 rfl rfl rfl) rfl rfl hl.1 rfl (lv_room (Nat.le_of_ble_eq_true rfl)) dX5_about_52 ⟨Nat.le_of_ble_eq_true rfl, Nat.le_of_ble_eq_true rfl⟩)) (fun r f_6 => ?_)
    obtain rfl := f_6
    refine lv_i2l (v := (nI n).toInt64) hx hb dX5_about_55 (by first | rfl | decide) ?_
    exact W.lret (v := (nI n).toInt64) hx hb hr (fun t ht hW => ⟨((nI n).toInt64), rfl, (by exact rfl), ht⟩) (fun _ h => nomatch h) dX5_about_56
  · exact False.elim (by revert f_4; decide)
set_option maxHeartbeats 1000000 in
set_option maxRecDepth 100000 in
theorem gJ_about_2 (l : Launch) (D : va_G) (cI cL cQ : ClassId) (h0 : Nat) (tl : Nat) (tr : Nat) (cu : Nat) (bk : Nat) (he : Nat) (ma : Nat) (hm : Int32) (kd : Int32) (cc0 : Int64) (a : Nat) (n : Nat) (pl : Nat) (a2 : Nat) (n2 : Nat) (pl2 : Nat) (lk : Nat) (lv : Nat) (lo : Nat) (lp : Nat) (ll : Nat) (lf : Nat) (rk : Nat) (rv : Nat) (ro : Nat) (rp : Nat) (rl : Nat) (rf : Nat) (pr : Int32) : Met l yX5_about wsX5_about ({ frames := 1, cells := 0, slots := 0, locals := 21 }) (jr_P D vwCl (jT cI cL cQ) cL cQ [.ref h0, .int 2] [(h0, .inr (5, [.ref tl, .ref tr, .ref cu, .ref bk, .int pr])), (tl, .inr (4, [.int (nI a), .ref lk, .ref lv, .ref lo, .ref lp, .ref ll, .ref lf, .int (nI n), .int (nI pl)])), (tr, .inr (4, [.int (nI a2), .ref rk, .ref rv, .ref ro, .ref rp, .ref rl, .ref rf, .int (nI n2), .int (nI pl2)])), (cu, .inr (0, [.ref tl, .ref tr, .ref he, .ref ma, .int hm, .int kd, .long cc0]))]) (vp_Sl (fun r : Int64 => r = (nI n2).toInt64)) 0 0 (fun _ => False) := by
  refine Met.ofW (cc := cX5_about) (maxL := 2) (ret := (some .long)) (by decide) rfl ?_
  intro p e s m args below meth c s₁ B hml hv
  obtain ⟨rfl, hP, hK, hN⟩ := hv
  have hx := B.exec
  have hb := B.bytes
  have hr := B.returns
  have hts := atoms_spec (ws := wsX5_about) B.pre
  have hown : s.vm.findClass RX5 = some m.cls := findClass_of_methodNamed B.named
  have hlocks := B.notSynchronized
  have hl := lv_entry ([.ref h0, .int 2]) (n := 2) (Nat.le_of_ble_eq_true rfl)
  rw [lg_entry_eq]
  generalize (lg_sl ([.ref h0, .int 2]) ++ List.replicate (2 - (lg_sl ([.ref h0, .int 2])).length) Slot.unset).toArray = ls at hl ⊢
  have hl : lv_has ls 2 [(0, .ref h0), (1, .int 2)] := hl
  refine lv_iload_n hx hb dX5_about_0 rfl (lv_at hl 1 rfl) ?_
  refine lv_iconst (v := 5) hx hb dX5_about_1 (by decide) ?_
  refine vp_callSi (va_Run.run (va_runS (As := [.int 2, .int 5]) (rest := []) ⟨hx, hb, hml, hown, hts⟩ (gJ_isBelow l D cI cL cQ 2 5) (va_cwS 2 hts gX5_about_X5_isBelow rfl rfl rfl (by decide +kernel) ⟨Nat.le_of_ble_eq_true rfl, Nat.le_of_ble_eq_true rfl⟩) (jr_S hK hN hP [] rfl) rfl rfl hl.1 rfl (lv_room (Nat.le_of_ble_eq_true rfl)) dX5_about_2 ⟨Nat.le_of_ble_eq_true rfl, Nat.le_of_ble_eq_true rfl⟩)) (fun r f_1 => ?_)
  rcases f_1 with ⟨rfl, f_2, f_3⟩ | ⟨rfl, f_4⟩
  · refine va_csv (va_Run.run (va_runS (As := [.int 1]) (rest := []) ⟨hx, hb, hml, hown, hts⟩ (gJ_requireArgument_ok l D cI cL cQ) (va_cwS 1 hts gX5_about_X5_requireArgument rfl rfl rfl (by decide +kernel) ⟨Nat.le_of_ble_eq_true rfl, Nat.le_of_ble_eq_true rfl⟩) (jr_S hK hN hP [] rfl) rfl rfl hl.1 rfl (lv_room (Nat.le_of_ble_eq_true rfl)) dX5_about_5 ⟨Nat.le_of_ble_eq_true rfl, Nat.le_of_ble_eq_true rfl⟩)) (fun f_5 => ?_)
    refine lv_iload_n hx hb dX5_about_8 rfl (lv_at hl 1 rfl) ?_
    refine lv_tableIn (tgt := 57) hx hb dX5_about_9 (by decide) (by decide) rfl (by decide) ?_
    refine lv_aload_n hx hb dX5_about_57 rfl (lv_at hl 0 rfl) ?_
    refine va_get (D := D) (ci := 5) (v := .ref tr) (C := RX5) (T := TX5) (N := 5) hx hb hts (by decide +kernel) hown hK hP 0 rfl rfl 1 (by decide) (hts (.fieldLink RX5 22 "JoinDesk" "right" "LJoinDesk$Table;") (by decide +kernel)) (fun _ h9 => h9) rfl dX5_about_58 ?_
    refine vp_callSi (va_Run.run (va_runV (As := []) (rest := []) ⟨hx, hb, hml, hown, hts⟩ (gT_size l D cI cL cQ tr a2 n2 pl2 rk rv ro rp rl rf) (cwV 0 hts gX5_about_X4_size rfl rfl rfl (by decide +kernel) ⟨Nat.le_of_ble_eq_true rfl, Nat.le_of_ble_eq_true rfl⟩) (jr_V hK hN hP [2] rfl 4 2 rfl rfl rfl) rfl rfl hl.1 rfl (lv_room (Nat.le_of_ble_eq_true rfl)) dX5_about_61 ⟨Nat.le_of_ble_eq_true rfl, Nat.le_of_ble_eq_true rfl⟩)) (fun r f_6 => ?_)
    obtain rfl := f_6
    refine lv_i2l (v := (nI n2).toInt64) hx hb dX5_about_64 (by first | rfl | decide) ?_
    exact W.lret (v := (nI n2).toInt64) hx hb hr (fun t ht hW => ⟨((nI n2).toInt64), rfl, (by exact rfl), ht⟩) (fun _ h => nomatch h) dX5_about_65
  · exact False.elim (by revert f_4; decide)
set_option maxHeartbeats 1000000 in
set_option maxRecDepth 100000 in
theorem gJ_about_4 (l : Launch) (D : va_G) (cI cL cQ : ClassId) (h0 : Nat) (tl : Nat) (tr : Nat) (cu : Nat) (bk : Nat) (he : Nat) (ma : Nat) (hm : Int32) (kd : Int32) (cc0 : Int64) (a : Nat) (n : Nat) (pl : Nat) (a2 : Nat) (n2 : Nat) (pl2 : Nat) (lk : Nat) (lv : Nat) (lo : Nat) (lp : Nat) (ll : Nat) (lf : Nat) (rk : Nat) (rv : Nat) (ro : Nat) (rp : Nat) (rl : Nat) (rf : Nat) (pr : Int32) : Met l yX5_about wsX5_about ({ frames := 1, cells := 0, slots := 0, locals := 21 }) (jr_P D vwCl (jT cI cL cQ) cL cQ [.ref h0, .int 4] [(h0, .inr (5, [.ref tl, .ref tr, .ref cu, .ref bk, .int pr])), (tl, .inr (4, [.int (nI a), .ref lk, .ref lv, .ref lo, .ref lp, .ref ll, .ref lf, .int (nI n), .int (nI pl)])), (tr, .inr (4, [.int (nI a2), .ref rk, .ref rv, .ref ro, .ref rp, .ref rl, .ref rf, .int (nI n2), .int (nI pl2)])), (cu, .inr (0, [.ref tl, .ref tr, .ref he, .ref ma, .int hm, .int kd, .long cc0]))]) (vp_Sl (fun r : Int64 => r = kd.toInt64)) 0 0 (fun _ => False) := by
  refine Met.ofW (cc := cX5_about) (maxL := 2) (ret := (some .long)) (by decide) rfl ?_
  intro p e s m args below meth c s₁ B hml hv
  obtain ⟨rfl, hP, hK, hN⟩ := hv
  have hx := B.exec
  have hb := B.bytes
  have hr := B.returns
  have hts := atoms_spec (ws := wsX5_about) B.pre
  have hown : s.vm.findClass RX5 = some m.cls := findClass_of_methodNamed B.named
  have hlocks := B.notSynchronized
  have hl := lv_entry ([.ref h0, .int 4]) (n := 2) (Nat.le_of_ble_eq_true rfl)
  rw [lg_entry_eq]
  generalize (lg_sl ([.ref h0, .int 4]) ++ List.replicate (2 - (lg_sl ([.ref h0, .int 4])).length) Slot.unset).toArray = ls at hl ⊢
  have hl : lv_has ls 2 [(0, .ref h0), (1, .int 4)] := hl
  refine lv_iload_n hx hb dX5_about_0 rfl (lv_at hl 1 rfl) ?_
  refine lv_iconst (v := 5) hx hb dX5_about_1 (by decide) ?_
  refine vp_callSi (va_Run.run (va_runS (As := [.int 4, .int 5]) (rest := []) ⟨hx, hb, hml, hown, hts⟩ (gJ_isBelow l D cI cL cQ 4 5) (va_cwS 2 hts gX5_about_X5_isBelow rfl rfl rfl (by decide +kernel) ⟨Nat.le_of_ble_eq_true rfl, Nat.le_of_ble_eq_true rfl⟩) (jr_S hK hN hP [] rfl) rfl rfl hl.1 rfl (lv_room (Nat.le_of_ble_eq_true rfl)) dX5_about_2 ⟨Nat.le_of_ble_eq_true rfl, Nat.le_of_ble_eq_true rfl⟩)) (fun r f_1 => ?_)
  rcases f_1 with ⟨rfl, f_2, f_3⟩ | ⟨rfl, f_4⟩
  · refine va_csv (va_Run.run (va_runS (As := [.int 1]) (rest := []) ⟨hx, hb, hml, hown, hts⟩ (gJ_requireArgument_ok l D cI cL cQ) (va_cwS 1 hts gX5_about_X5_requireArgument rfl rfl rfl (by decide +kernel) ⟨Nat.le_of_ble_eq_true rfl, Nat.le_of_ble_eq_true rfl⟩) (jr_S hK hN hP [] rfl) rfl rfl hl.1 rfl (lv_room (Nat.le_of_ble_eq_true rfl)) dX5_about_5 ⟨Nat.le_of_ble_eq_true rfl, Nat.le_of_ble_eq_true rfl⟩)) (fun f_5 => ?_)
    refine lv_iload_n hx hb dX5_about_8 rfl (lv_at hl 1 rfl) ?_
    refine lv_tableOut (tgt := 79) hx hb dX5_about_9 (by decide) (by decide) ?_
    refine lv_aload_n hx hb dX5_about_79 rfl (lv_at hl 0 rfl) ?_
    refine va_get (D := D) (ci := 5) (v := .ref cu) (C := RX5) (T := TX5) (N := 5) hx hb hts (by decide +kernel) hown hK hP 0 rfl rfl 2 (by decide) (hts (.fieldLink RX5 30 "JoinDesk" "cursor" "LJoinDesk$Cursor;") (by decide +kernel)) (fun _ h9 => h9) rfl dX5_about_80 ?_
    refine vp_callSi (va_Run.run (va_runV (As := []) (rest := []) ⟨hx, hb, hml, hown, hts⟩ (gC_kindInUse l D cI cL cQ cu tl tr he ma hm kd cc0) (cwV 0 hts gX5_about_X0_kindInUse rfl rfl rfl (by decide +kernel) ⟨Nat.le_of_ble_eq_true rfl, Nat.le_of_ble_eq_true rfl⟩) (jr_V hK hN hP [3] rfl 0 3 rfl rfl rfl) rfl rfl hl.1 rfl (lv_room (Nat.le_of_ble_eq_true rfl)) dX5_about_83 ⟨Nat.le_of_ble_eq_true rfl, Nat.le_of_ble_eq_true rfl⟩)) (fun r f_6 => ?_)
    obtain er_7 := f_6
    subst r
    refine lv_i2l (v := kd.toInt64) hx hb dX5_about_86 (by first | rfl | decide) ?_
    exact W.lret (v := kd.toInt64) hx hb hr (fun t ht hW => ⟨kd.toInt64, rfl, (by exact rfl), ht⟩) (fun _ h => nomatch h) dX5_about_87
  · exact False.elim (by revert f_4; decide)
set_option maxHeartbeats 1000000 in
set_option maxRecDepth 100000 in
theorem gJ_about_31 (l : Launch) (D : va_G) (cI cL cQ : ClassId) (h0 : Nat) (tl : Nat) (tr : Nat) (cu : Nat) (bk : Nat) : Met l yX5_about wsX5_about ({ frames := 1, cells := 0, slots := 0, locals := 21 }) (jr_P D vwCl (jT cI cL cQ) cL cQ [.ref h0, .int 3] [(h0, .inr (5, [.ref tl, .ref tr, .ref cu, .ref bk, .int 1]))]) (vp_Sl (fun r : Int64 => r = 1)) 0 0 (fun _ => False) := by
  refine Met.ofW (cc := cX5_about) (maxL := 2) (ret := (some .long)) (by decide) rfl ?_
  intro p e s m args below meth c s₁ B hml hv
  obtain ⟨rfl, hP, hK, hN⟩ := hv
  have hx := B.exec
  have hb := B.bytes
  have hr := B.returns
  have hts := atoms_spec (ws := wsX5_about) B.pre
  have hown : s.vm.findClass RX5 = some m.cls := findClass_of_methodNamed B.named
  have hlocks := B.notSynchronized
  have hl := lv_entry ([.ref h0, .int 3]) (n := 2) (Nat.le_of_ble_eq_true rfl)
  rw [lg_entry_eq]
  generalize (lg_sl ([.ref h0, .int 3]) ++ List.replicate (2 - (lg_sl ([.ref h0, .int 3])).length) Slot.unset).toArray = ls at hl ⊢
  have hl : lv_has ls 2 [(0, .ref h0), (1, .int 3)] := hl
  refine lv_iload_n hx hb dX5_about_0 rfl (lv_at hl 1 rfl) ?_
  refine lv_iconst (v := 5) hx hb dX5_about_1 (by decide) ?_
  refine vp_callSi (va_Run.run (va_runS (As := [.int 3, .int 5]) (rest := []) ⟨hx, hb, hml, hown, hts⟩ (gJ_isBelow l D cI cL cQ 3 5) (va_cwS 2 hts gX5_about_X5_isBelow rfl rfl rfl (by decide +kernel) ⟨Nat.le_of_ble_eq_true rfl, Nat.le_of_ble_eq_true rfl⟩) (jr_S hK hN hP [] rfl) rfl rfl hl.1 rfl (lv_room (Nat.le_of_ble_eq_true rfl)) dX5_about_2 ⟨Nat.le_of_ble_eq_true rfl, Nat.le_of_ble_eq_true rfl⟩)) (fun r f_1 => ?_)
  rcases f_1 with ⟨rfl, f_2, f_3⟩ | ⟨rfl, f_4⟩
  · refine va_csv (va_Run.run (va_runS (As := [.int 1]) (rest := []) ⟨hx, hb, hml, hown, hts⟩ (gJ_requireArgument_ok l D cI cL cQ) (va_cwS 1 hts gX5_about_X5_requireArgument rfl rfl rfl (by decide +kernel) ⟨Nat.le_of_ble_eq_true rfl, Nat.le_of_ble_eq_true rfl⟩) (jr_S hK hN hP [] rfl) rfl rfl hl.1 rfl (lv_room (Nat.le_of_ble_eq_true rfl)) dX5_about_5 ⟨Nat.le_of_ble_eq_true rfl, Nat.le_of_ble_eq_true rfl⟩)) (fun f_5 => ?_)
    refine lv_iload_n hx hb dX5_about_8 rfl (lv_at hl 1 rfl) ?_
    refine lv_tableIn (tgt := 66) hx hb dX5_about_9 (by decide) (by decide) rfl (by decide) ?_
    refine lv_aload_n hx hb dX5_about_66 rfl (lv_at hl 0 rfl) ?_
    refine va_get (D := D) (ci := 5) (v := .int 1) (C := RX5) (T := TX5) (N := 5) hx hb hts (by decide +kernel) hown hK hP 0 rfl rfl 4 (by decide) (hts (.fieldLink RX5 41 "JoinDesk" "prepared" "Z") (by decide +kernel)) (fun _ h9 => h9) rfl dX5_about_67 ?_
    refine lv_if_eq (tgt := 77) hx hb dX5_about_70 (by decide) (fun c_6 => absurd c_6 (by decide)) (fun c_6 => ?_)
    refine lv_lconst (v := 1) hx hb dX5_about_73 (by decide) ?_
    refine lv_goto (tgt := 78) hx hb dX5_about_74 (by decide) ?_
    exact W.lret (v := 1) hx hb hr (fun t ht hW => ⟨1, rfl, (by exact rfl), ht⟩) (fun _ h => nomatch h) dX5_about_78
  · exact False.elim (by revert f_4; decide)
set_option maxHeartbeats 1000000 in
set_option maxRecDepth 100000 in
theorem gJ_about_30 (l : Launch) (D : va_G) (cI cL cQ : ClassId) (h0 : Nat) (tl : Nat) (tr : Nat) (cu : Nat) (bk : Nat) : Met l yX5_about wsX5_about ({ frames := 1, cells := 0, slots := 0, locals := 21 }) (jr_P D vwCl (jT cI cL cQ) cL cQ [.ref h0, .int 3] [(h0, .inr (5, [.ref tl, .ref tr, .ref cu, .ref bk, .int 0]))]) (vp_Sl (fun r : Int64 => r = 0)) 0 0 (fun _ => False) := by
  refine Met.ofW (cc := cX5_about) (maxL := 2) (ret := (some .long)) (by decide) rfl ?_
  intro p e s m args below meth c s₁ B hml hv
  obtain ⟨rfl, hP, hK, hN⟩ := hv
  have hx := B.exec
  have hb := B.bytes
  have hr := B.returns
  have hts := atoms_spec (ws := wsX5_about) B.pre
  have hown : s.vm.findClass RX5 = some m.cls := findClass_of_methodNamed B.named
  have hlocks := B.notSynchronized
  have hl := lv_entry ([.ref h0, .int 3]) (n := 2) (Nat.le_of_ble_eq_true rfl)
  rw [lg_entry_eq]
  generalize (lg_sl ([.ref h0, .int 3]) ++ List.replicate (2 - (lg_sl ([.ref h0, .int 3])).length) Slot.unset).toArray = ls at hl ⊢
  have hl : lv_has ls 2 [(0, .ref h0), (1, .int 3)] := hl
  refine lv_iload_n hx hb dX5_about_0 rfl (lv_at hl 1 rfl) ?_
  refine lv_iconst (v := 5) hx hb dX5_about_1 (by decide) ?_
  refine vp_callSi (va_Run.run (va_runS (As := [.int 3, .int 5]) (rest := []) ⟨hx, hb, hml, hown, hts⟩ (gJ_isBelow l D cI cL cQ 3 5) (va_cwS 2 hts gX5_about_X5_isBelow rfl rfl rfl (by decide +kernel) ⟨Nat.le_of_ble_eq_true rfl, Nat.le_of_ble_eq_true rfl⟩) (jr_S hK hN hP [] rfl) rfl rfl hl.1 rfl (lv_room (Nat.le_of_ble_eq_true rfl)) dX5_about_2 ⟨Nat.le_of_ble_eq_true rfl, Nat.le_of_ble_eq_true rfl⟩)) (fun r f_1 => ?_)
  rcases f_1 with ⟨rfl, f_2, f_3⟩ | ⟨rfl, f_4⟩
  · refine va_csv (va_Run.run (va_runS (As := [.int 1]) (rest := []) ⟨hx, hb, hml, hown, hts⟩ (gJ_requireArgument_ok l D cI cL cQ) (va_cwS 1 hts gX5_about_X5_requireArgument rfl rfl rfl (by decide +kernel) ⟨Nat.le_of_ble_eq_true rfl, Nat.le_of_ble_eq_true rfl⟩) (jr_S hK hN hP [] rfl) rfl rfl hl.1 rfl (lv_room (Nat.le_of_ble_eq_true rfl)) dX5_about_5 ⟨Nat.le_of_ble_eq_true rfl, Nat.le_of_ble_eq_true rfl⟩)) (fun f_5 => ?_)
    refine lv_iload_n hx hb dX5_about_8 rfl (lv_at hl 1 rfl) ?_
    refine lv_tableIn (tgt := 66) hx hb dX5_about_9 (by decide) (by decide) rfl (by decide) ?_
    refine lv_aload_n hx hb dX5_about_66 rfl (lv_at hl 0 rfl) ?_
    refine va_get (D := D) (ci := 5) (v := .int 0) (C := RX5) (T := TX5) (N := 5) hx hb hts (by decide +kernel) hown hK hP 0 rfl rfl 4 (by decide) (hts (.fieldLink RX5 41 "JoinDesk" "prepared" "Z") (by decide +kernel)) (fun _ h9 => h9) rfl dX5_about_67 ?_
    refine lv_if_eq (tgt := 77) hx hb dX5_about_70 (by decide) (fun c_6 => ?_) (fun c_6 => absurd c_6 (by decide))
    refine lv_lconst (v := 0) hx hb dX5_about_77 (by decide) ?_
    exact W.lret (v := 0) hx hb hr (fun t ht hW => ⟨0, rfl, (by exact rfl), ht⟩) (fun _ h => nomatch h) dX5_about_78
  · exact False.elim (by revert f_4; decide)
set_option maxHeartbeats 1000000 in
set_option maxRecDepth 100000 in
theorem gJ_clear (l : Launch) (D : va_G) (cI cL cQ : ClassId) (h0 : Nat) (tl : Nat) (tr : Nat) (cu : Nat) (bk : Nat) (he : Nat) (ma : Nat) (hm : Int32) (kd : Int32) (cc0 : Int64) (a : Nat) (n : Nat) (pl : Nat) (a2 : Nat) (n2 : Nat) (pl2 : Nat) (lk : Nat) (lv : Nat) (lo : Nat) (lp : Nat) (ll : Nat) (lf : Nat) (rk : Nat) (rv : Nat) (ro : Nat) (rp : Nat) (rl : Nat) (rf : Nat) (pr : Int32) (sz : Nat) : Met l yX5_clear wsX5_clear ({ frames := 1, cells := 0, slots := 0, locals := 21 }) (jw_P D vwCl (jT cI cL cQ) cL cQ [.ref h0] [(h0, .inr (5, [.ref tl, .ref tr, .ref cu, .ref bk, .int pr])), (tl, .inr (4, [.int (nI a), .ref lk, .ref lv, .ref lo, .ref lp, .ref ll, .ref lf, .int (nI n), .int (nI pl)])), (tr, .inr (4, [.int (nI a2), .ref rk, .ref rv, .ref ro, .ref rp, .ref rl, .ref rf, .int (nI n2), .int (nI pl2)])), (cu, .inr (0, [.ref tl, .ref tr, .ref he, .ref ma, .int hm, .int kd, .long cc0]))] sz) (va_Qv (fun u : va_W => u = [(h0, .inr (5, [.ref tl, .ref tr, .ref cu, .ref bk, .int 0])), (tl, .inr (4, [.int (nI a), .ref lk, .ref lv, .ref lo, .ref lp, .ref ll, .ref lf, .int (nI 0), .int (nI 0)])), (tr, .inr (4, [.int (nI a2), .ref rk, .ref rv, .ref ro, .ref rp, .ref rl, .ref rf, .int (nI 0), .int (nI 0)])), (cu, .inr (0, [.ref tl, .ref tr, .ref he, .ref ma, .int hm, .int 0, .long cc0]))]) (jw_B D vwCl (va_A [(h0, .inr (5, [.ref tl, .ref tr, .ref cu, .ref bk, .int pr])), (tl, .inr (4, [.int (nI a), .ref lk, .ref lv, .ref lo, .ref lp, .ref ll, .ref lf, .int (nI n), .int (nI pl)])), (tr, .inr (4, [.int (nI a2), .ref rk, .ref rv, .ref ro, .ref rp, .ref rl, .ref rf, .int (nI n2), .int (nI pl2)])), (cu, .inr (0, [.ref tl, .ref tr, .ref he, .ref ma, .int hm, .int kd, .long cc0]))] sz) (fun u : va_W => u)) (va_A [(h0, .inr (5, [.ref tl, .ref tr, .ref cu, .ref bk, .int pr])), (tl, .inr (4, [.int (nI a), .ref lk, .ref lv, .ref lo, .ref lp, .ref ll, .ref lf, .int (nI n), .int (nI pl)])), (tr, .inr (4, [.int (nI a2), .ref rk, .ref rv, .ref ro, .ref rp, .ref rl, .ref rf, .int (nI n2), .int (nI pl2)])), (cu, .inr (0, [.ref tl, .ref tr, .ref he, .ref ma, .int hm, .int kd, .long cc0]))] sz)) 0 0 (va_A [(h0, .inr (5, [.ref tl, .ref tr, .ref cu, .ref bk, .int pr])), (tl, .inr (4, [.int (nI a), .ref lk, .ref lv, .ref lo, .ref lp, .ref ll, .ref lf, .int (nI n), .int (nI pl)])), (tr, .inr (4, [.int (nI a2), .ref rk, .ref rv, .ref ro, .ref rp, .ref rl, .ref rf, .int (nI n2), .int (nI pl2)])), (cu, .inr (0, [.ref tl, .ref tr, .ref he, .ref ma, .int hm, .int kd, .long cc0]))] sz) := by
  refine Met.ofW (cc := cX5_clear) (maxL := 1) (ret := none) (by decide) rfl ?_
  intro p e s m args below meth c s₁ B hml hv
  obtain ⟨rfl, hsz, hP, hK, hN, hD0⟩ := hv
  have hx := B.exec
  have hb := B.bytes
  have hr := B.returns
  have hts := atoms_spec (ws := wsX5_clear) B.pre
  have hown : s.vm.findClass RX5 = some m.cls := findClass_of_methodNamed B.named
  have hlocks := B.notSynchronized
  subst hsz
  have hD := hD0.self (sz := s.heap.size)
  generalize hAe : va_A [(h0, .inr (5, [.ref tl, .ref tr, .ref cu, .ref bk, .int pr])), (tl, .inr (4, [.int (nI a), .ref lk, .ref lv, .ref lo, .ref lp, .ref ll, .ref lf, .int (nI n), .int (nI pl)])), (tr, .inr (4, [.int (nI a2), .ref rk, .ref rv, .ref ro, .ref rp, .ref rl, .ref rf, .int (nI n2), .int (nI pl2)])), (cu, .inr (0, [.ref tl, .ref tr, .ref he, .ref ma, .int hm, .int kd, .long cc0]))] s.heap.size = A at hD ⊢
  have hA : ∀ q : Nat, s.heap.size ≤ q → A q := fun q h => by rw [← hAe]; exact Or.inr h
  have hS : va_S A s.heap s.heap [] := va_S.rf
  have hl := lv_entry ([.ref h0]) (n := 1) (Nat.le_of_ble_eq_true rfl)
  rw [lg_entry_eq]
  generalize (lg_sl ([.ref h0]) ++ List.replicate (1 - (lg_sl ([.ref h0])).length) Slot.unset).toArray = ls at hl ⊢
  have hl : lv_has ls 1 [(0, .ref h0)] := hl
  refine lv_aload_n hx hb dX5_clear_0 rfl (lv_at hl 0 rfl) ?_
  refine va_get (D := D) (ci := 5) (v := .ref tl) (C := RX5) (T := TX5) (N := 5) hx hb hts (by decide +kernel) hown hK hP 0 rfl rfl 0 (by decide) (hts (.fieldLink RX5 18 "JoinDesk" "left" "LJoinDesk$Table;") (by decide +kernel)) (fun _ h9 => h9) rfl dX5_clear_1 ?_
  refine jw_v (wr := [(h0, .inr (5, [.ref tl, .ref tr, .ref cu, .ref bk, .int pr])), (tr, .inr (4, [.int (nI a2), .ref rk, .ref rv, .ref ro, .ref rp, .ref rl, .ref rf, .int (nI n2), .int (nI pl2)])), (cu, .inr (0, [.ref tl, .ref tr, .ref he, .ref ma, .int hm, .int kd, .long cc0]))]) (va_runV (As := []) (rest := []) ⟨hx, hb, hml, hown, hts⟩ (gT_empty l D cI cL cQ tl a n pl lk lv lo lp ll lf _) (cwV 0 hts gX5_clear_X4_empty rfl rfl rfl (by decide +kernel) ⟨Nat.le_of_ble_eq_true rfl, Nat.le_of_ble_eq_true rfl⟩) (jw_V hK hN hP hD [1] (by decide) rfl 4 1 rfl rfl rfl) rfl rfl hl.1 rfl (lv_room (Nat.le_of_ble_eq_true rfl)) dX5_clear_4 ⟨Nat.le_of_ble_eq_true rfl, Nat.le_of_ble_eq_true rfl⟩) hP hD hS hA [1] [0, 2, 3] rfl rfl (by decide) (by decide) (fun u H locs f_1 hP hD hS => ?_)
  obtain rfl := f_1
  have hP : va_P D vwCl [(h0, .inr (5, [.ref tl, .ref tr, .ref cu, .ref bk, .int pr])), (tr, .inr (4, [.int (nI a2), .ref rk, .ref rv, .ref ro, .ref rp, .ref rl, .ref rf, .int (nI n2), .int (nI pl2)])), (cu, .inr (0, [.ref tl, .ref tr, .ref he, .ref ma, .int hm, .int kd, .long cc0])), (tl, .inr (4, [.int (nI a), .ref lk, .ref lv, .ref lo, .ref lp, .ref ll, .ref lf, .int (nI 0), .int (nI 0)]))] H := hP
  have hD : va_D A [(h0, .inr (5, [.ref tl, .ref tr, .ref cu, .ref bk, .int pr])), (tr, .inr (4, [.int (nI a2), .ref rk, .ref rv, .ref ro, .ref rp, .ref rl, .ref rf, .int (nI n2), .int (nI pl2)])), (cu, .inr (0, [.ref tl, .ref tr, .ref he, .ref ma, .int hm, .int kd, .long cc0])), (tl, .inr (4, [.int (nI a), .ref lk, .ref lv, .ref lo, .ref lp, .ref ll, .ref lf, .int (nI 0), .int (nI 0)]))] := hD
  refine lv_aload_n hx hb dX5_clear_7 rfl (lv_at hl 0 rfl) ?_
  refine va_get (D := D) (ci := 5) (v := .ref tr) (C := RX5) (T := TX5) (N := 5) hx hb hts (by decide +kernel) hown hK hP 0 rfl rfl 1 (by decide) (hts (.fieldLink RX5 22 "JoinDesk" "right" "LJoinDesk$Table;") (by decide +kernel)) (fun _ h9 => h9) rfl dX5_clear_8 ?_
  refine jw_v (wr := [(h0, .inr (5, [.ref tl, .ref tr, .ref cu, .ref bk, .int pr])), (cu, .inr (0, [.ref tl, .ref tr, .ref he, .ref ma, .int hm, .int kd, .long cc0])), (tl, .inr (4, [.int (nI a), .ref lk, .ref lv, .ref lo, .ref lp, .ref ll, .ref lf, .int (nI 0), .int (nI 0)]))]) (va_runV (As := []) (rest := []) ⟨hx, hb, hml, hown, hts⟩ (gT_empty l D cI cL cQ tr a2 n2 pl2 rk rv ro rp rl rf _) (cwV 0 hts gX5_clear_X4_empty rfl rfl rfl (by decide +kernel) ⟨Nat.le_of_ble_eq_true rfl, Nat.le_of_ble_eq_true rfl⟩) (jw_V hK hN hP hD [1] (by decide) rfl 4 1 rfl rfl rfl) rfl rfl hl.1 rfl (lv_room (Nat.le_of_ble_eq_true rfl)) dX5_clear_11 ⟨Nat.le_of_ble_eq_true rfl, Nat.le_of_ble_eq_true rfl⟩) hP hD hS hA [1] [0, 2, 3] rfl rfl (by decide) (by decide) (fun u H locs f_2 hP hD hS => ?_)
  obtain rfl := f_2
  have hP : va_P D vwCl [(h0, .inr (5, [.ref tl, .ref tr, .ref cu, .ref bk, .int pr])), (cu, .inr (0, [.ref tl, .ref tr, .ref he, .ref ma, .int hm, .int kd, .long cc0])), (tl, .inr (4, [.int (nI a), .ref lk, .ref lv, .ref lo, .ref lp, .ref ll, .ref lf, .int (nI 0), .int (nI 0)])), (tr, .inr (4, [.int (nI a2), .ref rk, .ref rv, .ref ro, .ref rp, .ref rl, .ref rf, .int (nI 0), .int (nI 0)]))] H := hP
  have hD : va_D A [(h0, .inr (5, [.ref tl, .ref tr, .ref cu, .ref bk, .int pr])), (cu, .inr (0, [.ref tl, .ref tr, .ref he, .ref ma, .int hm, .int kd, .long cc0])), (tl, .inr (4, [.int (nI a), .ref lk, .ref lv, .ref lo, .ref lp, .ref ll, .ref lf, .int (nI 0), .int (nI 0)])), (tr, .inr (4, [.int (nI a2), .ref rk, .ref rv, .ref ro, .ref rp, .ref rl, .ref rf, .int (nI 0), .int (nI 0)]))] := hD
  refine lv_aload_n hx hb dX5_clear_14 rfl (lv_at hl 0 rfl) ?_
  refine va_get (D := D) (ci := 5) (v := .ref cu) (C := RX5) (T := TX5) (N := 5) hx hb hts (by decide +kernel) hown hK hP 0 rfl rfl 2 (by decide) (hts (.fieldLink RX5 30 "JoinDesk" "cursor" "LJoinDesk$Cursor;") (by decide +kernel)) (fun _ h9 => h9) rfl dX5_clear_15 ?_
  refine lv_iconst (v := 0) hx hb dX5_clear_18 (by decide) ?_
  refine jw_v (wr := [(h0, .inr (5, [.ref tl, .ref tr, .ref cu, .ref bk, .int pr])), (tl, .inr (4, [.int (nI a), .ref lk, .ref lv, .ref lo, .ref lp, .ref ll, .ref lf, .int (nI 0), .int (nI 0)])), (tr, .inr (4, [.int (nI a2), .ref rk, .ref rv, .ref ro, .ref rp, .ref rl, .ref rf, .int (nI 0), .int (nI 0)]))]) (va_runV (As := [.int 0]) (rest := []) ⟨hx, hb, hml, hown, hts⟩ (gC_useKind l D cI cL cQ cu tl tr he ma hm kd cc0 0 _) (cwV 1 hts gX5_clear_X0_useKind rfl rfl rfl (by decide +kernel) ⟨Nat.le_of_ble_eq_true rfl, Nat.le_of_ble_eq_true rfl⟩) (jw_V hK hN hP hD [1] (by decide) rfl 0 1 rfl rfl rfl) rfl rfl hl.1 rfl (lv_room (Nat.le_of_ble_eq_true rfl)) dX5_clear_19 ⟨Nat.le_of_ble_eq_true rfl, Nat.le_of_ble_eq_true rfl⟩) hP hD hS hA [1] [0, 2, 3] rfl rfl (by decide) (by decide) (fun u H locs f_3 hP hD hS => ?_)
  obtain rfl := f_3
  have hP : va_P D vwCl [(h0, .inr (5, [.ref tl, .ref tr, .ref cu, .ref bk, .int pr])), (tl, .inr (4, [.int (nI a), .ref lk, .ref lv, .ref lo, .ref lp, .ref ll, .ref lf, .int (nI 0), .int (nI 0)])), (tr, .inr (4, [.int (nI a2), .ref rk, .ref rv, .ref ro, .ref rp, .ref rl, .ref rf, .int (nI 0), .int (nI 0)])), (cu, .inr (0, [.ref tl, .ref tr, .ref he, .ref ma, .int hm, .int 0, .long cc0]))] H := hP
  have hD : va_D A [(h0, .inr (5, [.ref tl, .ref tr, .ref cu, .ref bk, .int pr])), (tl, .inr (4, [.int (nI a), .ref lk, .ref lv, .ref lo, .ref lp, .ref ll, .ref lf, .int (nI 0), .int (nI 0)])), (tr, .inr (4, [.int (nI a2), .ref rk, .ref rv, .ref ro, .ref rp, .ref rl, .ref rf, .int (nI 0), .int (nI 0)])), (cu, .inr (0, [.ref tl, .ref tr, .ref he, .ref ma, .int hm, .int 0, .long cc0]))] := hD
  refine lv_aload_n hx hb dX5_clear_22 rfl (lv_at hl 0 rfl) ?_
  refine lv_iconst (v := 0) hx hb dX5_clear_23 (by decide) ?_
  refine va_put (D := D) (ci := 5) (v := .int 0) (ty := .boolean) (C := RX5) (T := TX5) (N := 5) hx hb hts (by decide +kernel) tyX5 tyX5_ok nmX5 hown hK hP hD hS 0 rfl rfl 4 (by decide) (hts (.fieldLink RX5 41 "JoinDesk" "prepared" "Z") (by decide +kernel)) (fun _ h9 => h9) rfl (by decide +kernel) rfl rfl (Nat.le_of_ble_eq_true rfl) dX5_clear_24 (fun H locs hP hD hS => ?_)
  have hP : va_P D vwCl [(h0, .inr (5, [.ref tl, .ref tr, .ref cu, .ref bk, .int 0])), (tl, .inr (4, [.int (nI a), .ref lk, .ref lv, .ref lo, .ref lp, .ref ll, .ref lf, .int (nI 0), .int (nI 0)])), (tr, .inr (4, [.int (nI a2), .ref rk, .ref rv, .ref ro, .ref rp, .ref rl, .ref rf, .int (nI 0), .int (nI 0)])), (cu, .inr (0, [.ref tl, .ref tr, .ref he, .ref ma, .int hm, .int 0, .long cc0]))] H := hP
  have hD : va_D A [(h0, .inr (5, [.ref tl, .ref tr, .ref cu, .ref bk, .int 0])), (tl, .inr (4, [.int (nI a), .ref lk, .ref lv, .ref lo, .ref lp, .ref ll, .ref lf, .int (nI 0), .int (nI 0)])), (tr, .inr (4, [.int (nI a2), .ref rk, .ref rv, .ref ro, .ref rp, .ref rl, .ref rf, .int (nI 0), .int (nI 0)])), (cu, .inr (0, [.ref tl, .ref tr, .ref he, .ref ma, .int hm, .int 0, .long cc0]))] := hD
  refine W.widen (k := 0) (n := 0) (by omega) (by omega) ?_
  exact W.vret hx hb hr (fun t ht hW => ⟨⟨[(h0, .inr (5, [.ref tl, .ref tr, .ref cu, .ref bk, .int 0])), (tl, .inr (4, [.int (nI a), .ref lk, .ref lv, .ref lo, .ref lp, .ref ll, .ref lf, .int (nI 0), .int (nI 0)])), (tr, .inr (4, [.int (nI a2), .ref rk, .ref rv, .ref ro, .ref rp, .ref rl, .ref rf, .int (nI 0), .int (nI 0)])), (cu, .inr (0, [.ref tl, .ref tr, .ref he, .ref ma, .int hm, .int 0, .long cc0]))], rfl, (by exact rfl), by rw [ht]; exact hP, hD⟩, hS.F ht⟩) hS.2.2 dX5_clear_27
