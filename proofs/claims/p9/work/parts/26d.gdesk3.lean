set_option maxHeartbeats 1000000 in
set_option maxRecDepth 100000 in
theorem gJ_next_n (l : Launch) (D : va_G) (cI cL cQ : ClassId) (h0 : Nat) (tl : Nat) (tr : Nat) (cu : Nat) (bk : Nat) (he : Nat) (ma : Nat) (hm : Int32) (kd : Int32) (cc0 : Int64) (p0 : Int32) (p2 : Int32) (p4 : Int32) (p5 : Int32) (p6 : Int32) (a : Nat) (n : Nat) (pl : Nat) (a2 : Nat) (n2 : Nat) (pl2 : Nat) (lk : Nat) (lv : Nat) (lo : Nat) (lp : Nat) (ll : Nat) (lf : Nat) (rk : Nat) (rv : Nat) (ro : Nat) (rp : Nat) (rl : Nat) (rf : Nat) (gk : Nat → Int32) (go : Nat → Int32) (hk : Nat → Int32) (ho_ : Nat → Int32) (c0 : Nat) (c1 : Nat) (K1 : Nat → Int32) (K2 : Nat → Int32) (sz : Nat) (ha : a ≤ 400) (hn : n ≤ a) (hol : jord a go) (ha2 : a2 ≤ 400) (hn2 : n2 ≤ a2) (hor : jord a2 ho_) (he0 : c0 ≤ n) (he1 : c1 ≤ n2) (hk1 : ∀ i, i < n → jat n gk go (nI i) = K1 i) (hk2 : ∀ i, i < n2 → jat n2 hk ho_ (nI i) = K2 i) (hno : ¬ (¬ p5 = -1 ∧ ¬ nI c1 ≤ p5 + 1) ∧ ¬ (¬ p4 = -1 ∧ ¬ nI c0 ≤ p4 + 1)) : Met l yX5_next wsX5_next ({ frames := 6, cells := 0, slots := 0, locals := 133 }) (jw_P D vwCl (jT cI cL cQ) cL cQ [.ref h0] [(h0, .inr (5, [.ref tl, .ref tr, .ref cu, .ref bk, .int 1])), (cu, .inr (0, [.ref tl, .ref tr, .ref he, .ref ma, .int hm, .int kd, .long cc0])), (he, .inr (2, [.int p0, .int (nI c0), .int p2, .int (nI c1), .int p4, .int p5, .int p6])), (tl, .inr (4, [.int (nI a), .ref lk, .ref lv, .ref lo, .ref lp, .ref ll, .ref lf, .int (nI n), .int (nI pl)])), (lk, .inl (cI, a, .inl gk)), (lo, .inl (cI, a, .inl go)), (tr, .inr (4, [.int (nI a2), .ref rk, .ref rv, .ref ro, .ref rp, .ref rl, .ref rf, .int (nI n2), .int (nI pl2)])), (rk, .inl (cI, a2, .inl hk)), (ro, .inl (cI, a2, .inl ho_))] sz) (va_Qi (fun (r : Int32) (u : va_W) => (∃ (g0 : Nat) (x0 : Nat) (g1 : Nat) (x1 : Nat) (cc9 : Int64), r = 1 ∧ u = [(h0, .inr (5, [.ref tl, .ref tr, .ref cu, .ref bk, .int 1])), (cu, .inr (0, [.ref tl, .ref tr, .ref he, .ref ma, .int hm, .int kd, .long cc9])), (he, .inr (2, [.int (nI g0), .int (nI x0), .int (nI g1), .int (nI x1), .int (nI g0), .int (nI g1), .int (p6 + 1)])), (tl, .inr (4, [.int (nI a), .ref lk, .ref lv, .ref lo, .ref lp, .ref ll, .ref lf, .int (nI n), .int (nI pl)])), (lk, .inl (cI, a, .inl gk)), (lo, .inl (cI, a, .inl go)), (tr, .inr (4, [.int (nI a2), .ref rk, .ref rv, .ref ro, .ref rp, .ref rl, .ref rf, .int (nI n2), .int (nI pl2)])), (rk, .inl (cI, a2, .inl hk)), (ro, .inl (cI, a2, .inl ho_))] ∧ (jNx n n2 K1 K2 kd c0 c1 (0, g0, x0, g1, x1))) ∨ (∃ (g0 : Nat) (x0 : Nat) (g1 : Nat) (x1 : Nat) (cc9 : Int64), r = 1 ∧ u = [(h0, .inr (5, [.ref tl, .ref tr, .ref cu, .ref bk, .int 1])), (cu, .inr (0, [.ref tl, .ref tr, .ref he, .ref ma, .int hm, .int kd, .long cc9])), (he, .inr (2, [.int (nI g0), .int (nI x0), .int (nI g1), .int (nI x1), .int (nI g0), .int (-1), .int (p6 + 1)])), (tl, .inr (4, [.int (nI a), .ref lk, .ref lv, .ref lo, .ref lp, .ref ll, .ref lf, .int (nI n), .int (nI pl)])), (lk, .inl (cI, a, .inl gk)), (lo, .inl (cI, a, .inl go)), (tr, .inr (4, [.int (nI a2), .ref rk, .ref rv, .ref ro, .ref rp, .ref rl, .ref rf, .int (nI n2), .int (nI pl2)])), (rk, .inl (cI, a2, .inl hk)), (ro, .inl (cI, a2, .inl ho_))] ∧ (jNx n n2 K1 K2 kd c0 c1 (1, g0, x0, g1, x1))) ∨ (∃ (g0 : Nat) (x0 : Nat) (g1 : Nat) (x1 : Nat) (cc9 : Int64), r = 1 ∧ u = [(h0, .inr (5, [.ref tl, .ref tr, .ref cu, .ref bk, .int 1])), (cu, .inr (0, [.ref tl, .ref tr, .ref he, .ref ma, .int hm, .int kd, .long cc9])), (he, .inr (2, [.int (nI g0), .int (nI x0), .int (nI g1), .int (nI x1), .int (-1), .int (nI g1), .int (p6 + 1)])), (tl, .inr (4, [.int (nI a), .ref lk, .ref lv, .ref lo, .ref lp, .ref ll, .ref lf, .int (nI n), .int (nI pl)])), (lk, .inl (cI, a, .inl gk)), (lo, .inl (cI, a, .inl go)), (tr, .inr (4, [.int (nI a2), .ref rk, .ref rv, .ref ro, .ref rp, .ref rl, .ref rf, .int (nI n2), .int (nI pl2)])), (rk, .inl (cI, a2, .inl hk)), (ro, .inl (cI, a2, .inl ho_))] ∧ (jNx n n2 K1 K2 kd c0 c1 (2, g0, x0, g1, x1))) ∨ (∃ (x0 : Nat) (x1 : Nat) (cc9 : Int64), r = 0 ∧ u = [(h0, .inr (5, [.ref tl, .ref tr, .ref cu, .ref bk, .int 1])), (cu, .inr (0, [.ref tl, .ref tr, .ref he, .ref ma, .int hm, .int kd, .long cc9])), (he, .inr (2, [.int (nI x0), .int (nI x0), .int (nI x1), .int (nI x1), .int (-1), .int (-1), .int p6])), (tl, .inr (4, [.int (nI a), .ref lk, .ref lv, .ref lo, .ref lp, .ref ll, .ref lf, .int (nI n), .int (nI pl)])), (lk, .inl (cI, a, .inl gk)), (lo, .inl (cI, a, .inl go)), (tr, .inr (4, [.int (nI a2), .ref rk, .ref rv, .ref ro, .ref rp, .ref rl, .ref rf, .int (nI n2), .int (nI pl2)])), (rk, .inl (cI, a2, .inl hk)), (ro, .inl (cI, a2, .inl ho_))] ∧ (jNx n n2 K1 K2 kd c0 c1 (3, x0, x0, x1, x1)))) (jw_B D vwCl (va_A [(h0, .inr (5, [.ref tl, .ref tr, .ref cu, .ref bk, .int 1])), (cu, .inr (0, [.ref tl, .ref tr, .ref he, .ref ma, .int hm, .int kd, .long cc0])), (he, .inr (2, [.int p0, .int (nI c0), .int p2, .int (nI c1), .int p4, .int p5, .int p6])), (tl, .inr (4, [.int (nI a), .ref lk, .ref lv, .ref lo, .ref lp, .ref ll, .ref lf, .int (nI n), .int (nI pl)])), (lk, .inl (cI, a, .inl gk)), (lo, .inl (cI, a, .inl go)), (tr, .inr (4, [.int (nI a2), .ref rk, .ref rv, .ref ro, .ref rp, .ref rl, .ref rf, .int (nI n2), .int (nI pl2)])), (rk, .inl (cI, a2, .inl hk)), (ro, .inl (cI, a2, .inl ho_))] sz) (fun u : va_W => u)) (va_A [(h0, .inr (5, [.ref tl, .ref tr, .ref cu, .ref bk, .int 1])), (cu, .inr (0, [.ref tl, .ref tr, .ref he, .ref ma, .int hm, .int kd, .long cc0])), (he, .inr (2, [.int p0, .int (nI c0), .int p2, .int (nI c1), .int p4, .int p5, .int p6])), (tl, .inr (4, [.int (nI a), .ref lk, .ref lv, .ref lo, .ref lp, .ref ll, .ref lf, .int (nI n), .int (nI pl)])), (lk, .inl (cI, a, .inl gk)), (lo, .inl (cI, a, .inl go)), (tr, .inr (4, [.int (nI a2), .ref rk, .ref rv, .ref ro, .ref rp, .ref rl, .ref rf, .int (nI n2), .int (nI pl2)])), (rk, .inl (cI, a2, .inl hk)), (ro, .inl (cI, a2, .inl ho_))] sz)) 0 0 (va_A [(h0, .inr (5, [.ref tl, .ref tr, .ref cu, .ref bk, .int 1])), (cu, .inr (0, [.ref tl, .ref tr, .ref he, .ref ma, .int hm, .int kd, .long cc0])), (he, .inr (2, [.int p0, .int (nI c0), .int p2, .int (nI c1), .int p4, .int p5, .int p6])), (tl, .inr (4, [.int (nI a), .ref lk, .ref lv, .ref lo, .ref lp, .ref ll, .ref lf, .int (nI n), .int (nI pl)])), (lk, .inl (cI, a, .inl gk)), (lo, .inl (cI, a, .inl go)), (tr, .inr (4, [.int (nI a2), .ref rk, .ref rv, .ref ro, .ref rp, .ref rl, .ref rf, .int (nI n2), .int (nI pl2)])), (rk, .inl (cI, a2, .inl hk)), (ro, .inl (cI, a2, .inl ho_))] sz) := by
  refine Met.ofW (cc := cX5_next) (maxL := 1) (ret := (some .boolean)) (by decide) rfl ?_
  intro p e s m args below meth c s₁ B hml hv
  obtain ⟨rfl, hsz, hP, hK, hN, hD0⟩ := hv
  have hx := B.exec
  have hb := B.bytes
  have hr := B.returns
  have hts := atoms_spec (ws := wsX5_next) B.pre
  have hown : s.vm.findClass RX5 = some m.cls := findClass_of_methodNamed B.named
  have hlocks := B.notSynchronized
  subst hsz
  have hD := hD0.self (sz := s.heap.size)
  generalize hAe : va_A [(h0, .inr (5, [.ref tl, .ref tr, .ref cu, .ref bk, .int 1])), (cu, .inr (0, [.ref tl, .ref tr, .ref he, .ref ma, .int hm, .int kd, .long cc0])), (he, .inr (2, [.int p0, .int (nI c0), .int p2, .int (nI c1), .int p4, .int p5, .int p6])), (tl, .inr (4, [.int (nI a), .ref lk, .ref lv, .ref lo, .ref lp, .ref ll, .ref lf, .int (nI n), .int (nI pl)])), (lk, .inl (cI, a, .inl gk)), (lo, .inl (cI, a, .inl go)), (tr, .inr (4, [.int (nI a2), .ref rk, .ref rv, .ref ro, .ref rp, .ref rl, .ref rf, .int (nI n2), .int (nI pl2)])), (rk, .inl (cI, a2, .inl hk)), (ro, .inl (cI, a2, .inl ho_))] s.heap.size = A at hD ⊢
  have hA : ∀ q : Nat, s.heap.size ≤ q → A q := fun q h => by rw [← hAe]; exact Or.inr h
  have hS : va_S A s.heap s.heap [] := va_S.rf
  have hl := lv_entry ([.ref h0]) (n := 1) (Nat.le_of_ble_eq_true rfl)
  rw [lg_entry_eq]
  generalize (lg_sl ([.ref h0]) ++ List.replicate (1 - (lg_sl ([.ref h0])).length) Slot.unset).toArray = ls at hl ⊢
  have hl : lv_has ls 1 [(0, .ref h0)] := hl
  refine lv_aload_n hx hb dX5_next_0 rfl (lv_at hl 0 rfl) ?_
  refine va_get (D := D) (ci := 5) (v := .int 1) (C := RX5) (T := TX5) (N := 5) hx hb hts (by decide +kernel) hown hK hP 0 rfl rfl 4 (by decide) (hts (.fieldLink RX5 41 "JoinDesk" "prepared" "Z") (by decide +kernel)) (fun _ h9 => h9) rfl dX5_next_1 ?_
  refine va_csv (va_Run.run (va_runS (As := [.int 1]) (rest := []) ⟨hx, hb, hml, hown, hts⟩ (gJ_requireState_ok l D cI cL cQ) (va_cwS 1 hts gX5_next_X5_requireState rfl rfl rfl (by decide +kernel) ⟨Nat.le_of_ble_eq_true rfl, Nat.le_of_ble_eq_true rfl⟩) (jr_S hK hN hP [] rfl) rfl rfl hl.1 rfl (lv_room (Nat.le_of_ble_eq_true rfl)) dX5_next_4 ⟨Nat.le_of_ble_eq_true rfl, Nat.le_of_ble_eq_true rfl⟩)) (fun f_1 => ?_)
  refine lv_aload_n hx hb dX5_next_7 rfl (lv_at hl 0 rfl) ?_
  refine va_get (D := D) (ci := 5) (v := .ref cu) (C := RX5) (T := TX5) (N := 5) hx hb hts (by decide +kernel) hown hK hP 0 rfl rfl 2 (by decide) (hts (.fieldLink RX5 30 "JoinDesk" "cursor" "LJoinDesk$Cursor;") (by decide +kernel)) (fun _ h9 => h9) rfl dX5_next_8 ?_
  refine jw_i (wr := [(h0, .inr (5, [.ref tl, .ref tr, .ref cu, .ref bk, .int 1]))]) (va_runV (As := []) (rest := []) ⟨hx, hb, hml, hown, hts⟩ (gC_goOn_n l D cI cL cQ cu tl tr he ma hm kd cc0 a n pl a2 n2 pl2 lk lv lo lp ll lf rk rv ro rp rl rf gk go hk ho_ p0 p2 p4 p5 p6 c0 c1 K1 K2 _ (by first | assumption | decide | omega) (by first | assumption | decide | omega) (by first | assumption | decide | omega) (by first | assumption | decide | omega) (by first | assumption | decide | omega) (by first | assumption | decide | omega) (by first | assumption | decide | omega) (by first | assumption | decide | omega) (by first | assumption | decide | omega) (by first | assumption | decide | omega) (by first | assumption | decide | omega)) (cwV 0 hts gX5_next_X0_goOn rfl rfl rfl (by decide +kernel) ⟨Nat.le_of_ble_eq_true rfl, Nat.le_of_ble_eq_true rfl⟩) (jw_V hK hN hP hD [1, 2, 3, 4, 5, 6, 7, 8] (by decide) rfl 0 1 rfl rfl rfl) rfl rfl hl.1 rfl (lv_room (Nat.le_of_ble_eq_true rfl)) dX5_next_11 ⟨Nat.le_of_ble_eq_true rfl, Nat.le_of_ble_eq_true rfl⟩) hP hD hS hA [1, 2, 3, 4, 5, 6, 7, 8] [0] rfl rfl (by decide) (by decide) (fun r u H locs f_2 hP hD hS => ?_)
  rcases f_2 with ⟨g0_3, x0_4, g1_5, x1_6, cc9_7, rfl, rfl, f_8⟩ | ⟨g0_9, x0_10, g1_11, x1_12, cc9_13, rfl, rfl, f_14⟩ | ⟨g0_15, x0_16, g1_17, x1_18, cc9_19, rfl, rfl, f_20⟩ | ⟨x0_21, x1_22, cc9_23, rfl, rfl, f_24⟩
  · have hP : va_P D vwCl [(h0, .inr (5, [.ref tl, .ref tr, .ref cu, .ref bk, .int 1])), (cu, .inr (0, [.ref tl, .ref tr, .ref he, .ref ma, .int hm, .int kd, .long cc9_7])), (he, .inr (2, [.int (nI g0_3), .int (nI x0_4), .int (nI g1_5), .int (nI x1_6), .int (nI g0_3), .int (nI g1_5), .int (p6 + 1)])), (tl, .inr (4, [.int (nI a), .ref lk, .ref lv, .ref lo, .ref lp, .ref ll, .ref lf, .int (nI n), .int (nI pl)])), (lk, .inl (cI, a, .inl gk)), (lo, .inl (cI, a, .inl go)), (tr, .inr (4, [.int (nI a2), .ref rk, .ref rv, .ref ro, .ref rp, .ref rl, .ref rf, .int (nI n2), .int (nI pl2)])), (rk, .inl (cI, a2, .inl hk)), (ro, .inl (cI, a2, .inl ho_))] H := hP
    have hD : va_D A [(h0, .inr (5, [.ref tl, .ref tr, .ref cu, .ref bk, .int 1])), (cu, .inr (0, [.ref tl, .ref tr, .ref he, .ref ma, .int hm, .int kd, .long cc9_7])), (he, .inr (2, [.int (nI g0_3), .int (nI x0_4), .int (nI g1_5), .int (nI x1_6), .int (nI g0_3), .int (nI g1_5), .int (p6 + 1)])), (tl, .inr (4, [.int (nI a), .ref lk, .ref lv, .ref lo, .ref lp, .ref ll, .ref lf, .int (nI n), .int (nI pl)])), (lk, .inl (cI, a, .inl gk)), (lo, .inl (cI, a, .inl go)), (tr, .inr (4, [.int (nI a2), .ref rk, .ref rv, .ref ro, .ref rp, .ref rl, .ref rf, .int (nI n2), .int (nI pl2)])), (rk, .inl (cI, a2, .inl hk)), (ro, .inl (cI, a2, .inl ho_))] := hD
    refine W.widen (k := 0) (n := 0) (by omega) (by omega) ?_
    exact W.zret (v := 1) (ty := .boolean) hx hb hr rfl (fun t ht hW => ⟨⟨1, [(h0, .inr (5, [.ref tl, .ref tr, .ref cu, .ref bk, .int 1])), (cu, .inr (0, [.ref tl, .ref tr, .ref he, .ref ma, .int hm, .int kd, .long cc9_7])), (he, .inr (2, [.int (nI g0_3), .int (nI x0_4), .int (nI g1_5), .int (nI x1_6), .int (nI g0_3), .int (nI g1_5), .int (p6 + 1)])), (tl, .inr (4, [.int (nI a), .ref lk, .ref lv, .ref lo, .ref lp, .ref ll, .ref lf, .int (nI n), .int (nI pl)])), (lk, .inl (cI, a, .inl gk)), (lo, .inl (cI, a, .inl go)), (tr, .inr (4, [.int (nI a2), .ref rk, .ref rv, .ref ro, .ref rp, .ref rl, .ref rf, .int (nI n2), .int (nI pl2)])), (rk, .inl (cI, a2, .inl hk)), (ro, .inl (cI, a2, .inl ho_))], rfl, (by exact Or.inl ⟨_, _, _, _, _, rfl, rfl, by assumption⟩), by rw [ht]; exact hP, hD⟩, hS.F ht⟩) hS.2.2 dX5_next_14
  · have hP : va_P D vwCl [(h0, .inr (5, [.ref tl, .ref tr, .ref cu, .ref bk, .int 1])), (cu, .inr (0, [.ref tl, .ref tr, .ref he, .ref ma, .int hm, .int kd, .long cc9_13])), (he, .inr (2, [.int (nI g0_9), .int (nI x0_10), .int (nI g1_11), .int (nI x1_12), .int (nI g0_9), .int (-1), .int (p6 + 1)])), (tl, .inr (4, [.int (nI a), .ref lk, .ref lv, .ref lo, .ref lp, .ref ll, .ref lf, .int (nI n), .int (nI pl)])), (lk, .inl (cI, a, .inl gk)), (lo, .inl (cI, a, .inl go)), (tr, .inr (4, [.int (nI a2), .ref rk, .ref rv, .ref ro, .ref rp, .ref rl, .ref rf, .int (nI n2), .int (nI pl2)])), (rk, .inl (cI, a2, .inl hk)), (ro, .inl (cI, a2, .inl ho_))] H := hP
    have hD : va_D A [(h0, .inr (5, [.ref tl, .ref tr, .ref cu, .ref bk, .int 1])), (cu, .inr (0, [.ref tl, .ref tr, .ref he, .ref ma, .int hm, .int kd, .long cc9_13])), (he, .inr (2, [.int (nI g0_9), .int (nI x0_10), .int (nI g1_11), .int (nI x1_12), .int (nI g0_9), .int (-1), .int (p6 + 1)])), (tl, .inr (4, [.int (nI a), .ref lk, .ref lv, .ref lo, .ref lp, .ref ll, .ref lf, .int (nI n), .int (nI pl)])), (lk, .inl (cI, a, .inl gk)), (lo, .inl (cI, a, .inl go)), (tr, .inr (4, [.int (nI a2), .ref rk, .ref rv, .ref ro, .ref rp, .ref rl, .ref rf, .int (nI n2), .int (nI pl2)])), (rk, .inl (cI, a2, .inl hk)), (ro, .inl (cI, a2, .inl ho_))] := hD
    refine W.widen (k := 0) (n := 0) (by omega) (by omega) ?_
    exact W.zret (v := 1) (ty := .boolean) hx hb hr rfl (fun t ht hW => ⟨⟨1, [(h0, .inr (5, [.ref tl, .ref tr, .ref cu, .ref bk, .int 1])), (cu, .inr (0, [.ref tl, .ref tr, .ref he, .ref ma, .int hm, .int kd, .long cc9_13])), (he, .inr (2, [.int (nI g0_9), .int (nI x0_10), .int (nI g1_11), .int (nI x1_12), .int (nI g0_9), .int (-1), .int (p6 + 1)])), (tl, .inr (4, [.int (nI a), .ref lk, .ref lv, .ref lo, .ref lp, .ref ll, .ref lf, .int (nI n), .int (nI pl)])), (lk, .inl (cI, a, .inl gk)), (lo, .inl (cI, a, .inl go)), (tr, .inr (4, [.int (nI a2), .ref rk, .ref rv, .ref ro, .ref rp, .ref rl, .ref rf, .int (nI n2), .int (nI pl2)])), (rk, .inl (cI, a2, .inl hk)), (ro, .inl (cI, a2, .inl ho_))], rfl, (by exact Or.inr (Or.inl ⟨_, _, _, _, _, rfl, rfl, by assumption⟩)), by rw [ht]; exact hP, hD⟩, hS.F ht⟩) hS.2.2 dX5_next_14
  · have hP : va_P D vwCl [(h0, .inr (5, [.ref tl, .ref tr, .ref cu, .ref bk, .int 1])), (cu, .inr (0, [.ref tl, .ref tr, .ref he, .ref ma, .int hm, .int kd, .long cc9_19])), (he, .inr (2, [.int (nI g0_15), .int (nI x0_16), .int (nI g1_17), .int (nI x1_18), .int (-1), .int (nI g1_17), .int (p6 + 1)])), (tl, .inr (4, [.int (nI a), .ref lk, .ref lv, .ref lo, .ref lp, .ref ll, .ref lf, .int (nI n), .int (nI pl)])), (lk, .inl (cI, a, .inl gk)), (lo, .inl (cI, a, .inl go)), (tr, .inr (4, [.int (nI a2), .ref rk, .ref rv, .ref ro, .ref rp, .ref rl, .ref rf, .int (nI n2), .int (nI pl2)])), (rk, .inl (cI, a2, .inl hk)), (ro, .inl (cI, a2, .inl ho_))] H := hP
    have hD : va_D A [(h0, .inr (5, [.ref tl, .ref tr, .ref cu, .ref bk, .int 1])), (cu, .inr (0, [.ref tl, .ref tr, .ref he, .ref ma, .int hm, .int kd, .long cc9_19])), (he, .inr (2, [.int (nI g0_15), .int (nI x0_16), .int (nI g1_17), .int (nI x1_18), .int (-1), .int (nI g1_17), .int (p6 + 1)])), (tl, .inr (4, [.int (nI a), .ref lk, .ref lv, .ref lo, .ref lp, .ref ll, .ref lf, .int (nI n), .int (nI pl)])), (lk, .inl (cI, a, .inl gk)), (lo, .inl (cI, a, .inl go)), (tr, .inr (4, [.int (nI a2), .ref rk, .ref rv, .ref ro, .ref rp, .ref rl, .ref rf, .int (nI n2), .int (nI pl2)])), (rk, .inl (cI, a2, .inl hk)), (ro, .inl (cI, a2, .inl ho_))] := hD
    refine W.widen (k := 0) (n := 0) (by omega) (by omega) ?_
    exact W.zret (v := 1) (ty := .boolean) hx hb hr rfl (fun t ht hW => ⟨⟨1, [(h0, .inr (5, [.ref tl, .ref tr, .ref cu, .ref bk, .int 1])), (cu, .inr (0, [.ref tl, .ref tr, .ref he, .ref ma, .int hm, .int kd, .long cc9_19])), (he, .inr (2, [.int (nI g0_15), .int (nI x0_16), .int (nI g1_17), .int (nI x1_18), .int (-1), .int (nI g1_17), .int (p6 + 1)])), (tl, .inr (4, [.int (nI a), .ref lk, .ref lv, .ref lo, .ref lp, .ref ll, .ref lf, .int (nI n), .int (nI pl)])), (lk, .inl (cI, a, .inl gk)), (lo, .inl (cI, a, .inl go)), (tr, .inr (4, [.int (nI a2), .ref rk, .ref rv, .ref ro, .ref rp, .ref rl, .ref rf, .int (nI n2), .int (nI pl2)])), (rk, .inl (cI, a2, .inl hk)), (ro, .inl (cI, a2, .inl ho_))], rfl, (by exact Or.inr (Or.inr (Or.inl ⟨_, _, _, _, _, rfl, rfl, by assumption⟩))), by rw [ht]; exact hP, hD⟩, hS.F ht⟩) hS.2.2 dX5_next_14
  · have hP : va_P D vwCl [(h0, .inr (5, [.ref tl, .ref tr, .ref cu, .ref bk, .int 1])), (cu, .inr (0, [.ref tl, .ref tr, .ref he, .ref ma, .int hm, .int kd, .long cc9_23])), (he, .inr (2, [.int (nI x0_21), .int (nI x0_21), .int (nI x1_22), .int (nI x1_22), .int (-1), .int (-1), .int p6])), (tl, .inr (4, [.int (nI a), .ref lk, .ref lv, .ref lo, .ref lp, .ref ll, .ref lf, .int (nI n), .int (nI pl)])), (lk, .inl (cI, a, .inl gk)), (lo, .inl (cI, a, .inl go)), (tr, .inr (4, [.int (nI a2), .ref rk, .ref rv, .ref ro, .ref rp, .ref rl, .ref rf, .int (nI n2), .int (nI pl2)])), (rk, .inl (cI, a2, .inl hk)), (ro, .inl (cI, a2, .inl ho_))] H := hP
    have hD : va_D A [(h0, .inr (5, [.ref tl, .ref tr, .ref cu, .ref bk, .int 1])), (cu, .inr (0, [.ref tl, .ref tr, .ref he, .ref ma, .int hm, .int kd, .long cc9_23])), (he, .inr (2, [.int (nI x0_21), .int (nI x0_21), .int (nI x1_22), .int (nI x1_22), .int (-1), .int (-1), .int p6])), (tl, .inr (4, [.int (nI a), .ref lk, .ref lv, .ref lo, .ref lp, .ref ll, .ref lf, .int (nI n), .int (nI pl)])), (lk, .inl (cI, a, .inl gk)), (lo, .inl (cI, a, .inl go)), (tr, .inr (4, [.int (nI a2), .ref rk, .ref rv, .ref ro, .ref rp, .ref rl, .ref rf, .int (nI n2), .int (nI pl2)])), (rk, .inl (cI, a2, .inl hk)), (ro, .inl (cI, a2, .inl ho_))] := hD
    refine W.widen (k := 0) (n := 0) (by omega) (by omega) ?_
    exact W.zret (v := 0) (ty := .boolean) hx hb hr rfl (fun t ht hW => ⟨⟨0, [(h0, .inr (5, [.ref tl, .ref tr, .ref cu, .ref bk, .int 1])), (cu, .inr (0, [.ref tl, .ref tr, .ref he, .ref ma, .int hm, .int kd, .long cc9_23])), (he, .inr (2, [.int (nI x0_21), .int (nI x0_21), .int (nI x1_22), .int (nI x1_22), .int (-1), .int (-1), .int p6])), (tl, .inr (4, [.int (nI a), .ref lk, .ref lv, .ref lo, .ref lp, .ref ll, .ref lf, .int (nI n), .int (nI pl)])), (lk, .inl (cI, a, .inl gk)), (lo, .inl (cI, a, .inl go)), (tr, .inr (4, [.int (nI a2), .ref rk, .ref rv, .ref ro, .ref rp, .ref rl, .ref rf, .int (nI n2), .int (nI pl2)])), (rk, .inl (cI, a2, .inl hk)), (ro, .inl (cI, a2, .inl ho_))], rfl, (by exact Or.inr (Or.inr (Or.inr (⟨_, _, _, rfl, rfl, by assumption⟩)))), by rw [ht]; exact hP, hD⟩, hS.F ht⟩) hS.2.2 dX5_next_14
set_option maxHeartbeats 1000000 in
set_option maxRecDepth 100000 in
theorem gJ_next_s (l : Launch) (D : va_G) (cI cL cQ : ClassId) (h0 : Nat) (tl : Nat) (tr : Nat) (cu : Nat) (bk : Nat) (he : Nat) (ma : Nat) (hm : Int32) (kd : Int32) (cc0 : Int64) (p0 : Int32) (p1 : Int32) (p2 : Int32) (p3 : Int32) (p4 : Int32) (p5 : Int32) (p6 : Int32) (y4 : Int32) (y5 : Int32) (sz : Nat) (hst : ((¬ p5 = -1 ∧ ¬ p3 ≤ p5 + 1) ∧ y4 = p4 ∧ y5 = p5 + 1) ∨ (¬ (¬ p5 = -1 ∧ ¬ p3 ≤ p5 + 1) ∧ (¬ p4 = -1 ∧ ¬ p1 ≤ p4 + 1) ∧ y4 = p4 + 1 ∧ y5 = (if p3 ≤ p2 then (-1) else p2))) : Met l yX5_next wsX5_next ({ frames := 3, cells := 0, slots := 0, locals := 61 }) (jw_P D vwCl (jT cI cL cQ) cL cQ [.ref h0] [(h0, .inr (5, [.ref tl, .ref tr, .ref cu, .ref bk, .int 1])), (cu, .inr (0, [.ref tl, .ref tr, .ref he, .ref ma, .int hm, .int kd, .long cc0])), (he, .inr (2, [.int p0, .int p1, .int p2, .int p3, .int p4, .int p5, .int p6]))] sz) (va_Qi (fun (r : Int32) (u : va_W) => r = 1 ∧ u = [(h0, .inr (5, [.ref tl, .ref tr, .ref cu, .ref bk, .int 1])), (cu, .inr (0, [.ref tl, .ref tr, .ref he, .ref ma, .int hm, .int kd, .long cc0])), (he, .inr (2, [.int p0, .int p1, .int p2, .int p3, .int y4, .int y5, .int (p6 + 1)]))]) (jw_B D vwCl (va_A [(h0, .inr (5, [.ref tl, .ref tr, .ref cu, .ref bk, .int 1])), (cu, .inr (0, [.ref tl, .ref tr, .ref he, .ref ma, .int hm, .int kd, .long cc0])), (he, .inr (2, [.int p0, .int p1, .int p2, .int p3, .int p4, .int p5, .int p6]))] sz) (fun u : va_W => u)) (va_A [(h0, .inr (5, [.ref tl, .ref tr, .ref cu, .ref bk, .int 1])), (cu, .inr (0, [.ref tl, .ref tr, .ref he, .ref ma, .int hm, .int kd, .long cc0])), (he, .inr (2, [.int p0, .int p1, .int p2, .int p3, .int p4, .int p5, .int p6]))] sz)) 0 0 (va_A [(h0, .inr (5, [.ref tl, .ref tr, .ref cu, .ref bk, .int 1])), (cu, .inr (0, [.ref tl, .ref tr, .ref he, .ref ma, .int hm, .int kd, .long cc0])), (he, .inr (2, [.int p0, .int p1, .int p2, .int p3, .int p4, .int p5, .int p6]))] sz) := by
  refine Met.ofW (cc := cX5_next) (maxL := 1) (ret := (some .boolean)) (by decide) rfl ?_
  intro p e s m args below meth c s₁ B hml hv
  obtain ⟨rfl, hsz, hP, hK, hN, hD0⟩ := hv
  have hx := B.exec
  have hb := B.bytes
  have hr := B.returns
  have hts := atoms_spec (ws := wsX5_next) B.pre
  have hown : s.vm.findClass RX5 = some m.cls := findClass_of_methodNamed B.named
  have hlocks := B.notSynchronized
  subst hsz
  have hD := hD0.self (sz := s.heap.size)
  generalize hAe : va_A [(h0, .inr (5, [.ref tl, .ref tr, .ref cu, .ref bk, .int 1])), (cu, .inr (0, [.ref tl, .ref tr, .ref he, .ref ma, .int hm, .int kd, .long cc0])), (he, .inr (2, [.int p0, .int p1, .int p2, .int p3, .int p4, .int p5, .int p6]))] s.heap.size = A at hD ⊢
  have hA : ∀ q : Nat, s.heap.size ≤ q → A q := fun q h => by rw [← hAe]; exact Or.inr h
  have hS : va_S A s.heap s.heap [] := va_S.rf
  have hl := lv_entry ([.ref h0]) (n := 1) (Nat.le_of_ble_eq_true rfl)
  rw [lg_entry_eq]
  generalize (lg_sl ([.ref h0]) ++ List.replicate (1 - (lg_sl ([.ref h0])).length) Slot.unset).toArray = ls at hl ⊢
  have hl : lv_has ls 1 [(0, .ref h0)] := hl
  refine lv_aload_n hx hb dX5_next_0 rfl (lv_at hl 0 rfl) ?_
  refine va_get (D := D) (ci := 5) (v := .int 1) (C := RX5) (T := TX5) (N := 5) hx hb hts (by decide +kernel) hown hK hP 0 rfl rfl 4 (by decide) (hts (.fieldLink RX5 41 "JoinDesk" "prepared" "Z") (by decide +kernel)) (fun _ h9 => h9) rfl dX5_next_1 ?_
  refine va_csv (va_Run.run (va_runS (As := [.int 1]) (rest := []) ⟨hx, hb, hml, hown, hts⟩ (gJ_requireState_ok l D cI cL cQ) (va_cwS 1 hts gX5_next_X5_requireState rfl rfl rfl (by decide +kernel) ⟨Nat.le_of_ble_eq_true rfl, Nat.le_of_ble_eq_true rfl⟩) (jr_S hK hN hP [] rfl) rfl rfl hl.1 rfl (lv_room (Nat.le_of_ble_eq_true rfl)) dX5_next_4 ⟨Nat.le_of_ble_eq_true rfl, Nat.le_of_ble_eq_true rfl⟩)) (fun f_1 => ?_)
  refine lv_aload_n hx hb dX5_next_7 rfl (lv_at hl 0 rfl) ?_
  refine va_get (D := D) (ci := 5) (v := .ref cu) (C := RX5) (T := TX5) (N := 5) hx hb hts (by decide +kernel) hown hK hP 0 rfl rfl 2 (by decide) (hts (.fieldLink RX5 30 "JoinDesk" "cursor" "LJoinDesk$Cursor;") (by decide +kernel)) (fun _ h9 => h9) rfl dX5_next_8 ?_
  refine jw_i (wr := [(h0, .inr (5, [.ref tl, .ref tr, .ref cu, .ref bk, .int 1]))]) (va_runV (As := []) (rest := []) ⟨hx, hb, hml, hown, hts⟩ (gC_goOn_s l D cI cL cQ cu tl tr he ma hm kd cc0 p0 p1 p2 p3 p4 p5 p6 y4 y5 _ (by first | assumption | decide | omega)) (cwV 0 hts gX5_next_X0_goOn rfl rfl rfl (by decide +kernel) ⟨Nat.le_of_ble_eq_true rfl, Nat.le_of_ble_eq_true rfl⟩) (jw_V hK hN hP hD [1, 2] (by decide) rfl 0 1 rfl rfl rfl) rfl rfl hl.1 rfl (lv_room (Nat.le_of_ble_eq_true rfl)) dX5_next_11 ⟨Nat.le_of_ble_eq_true rfl, Nat.le_of_ble_eq_true rfl⟩) hP hD hS hA [1, 2] [0] rfl rfl (by decide) (by decide) (fun r u H locs f_2 hP hD hS => ?_)
  obtain ⟨rfl, rfl⟩ := f_2
  have hP : va_P D vwCl [(h0, .inr (5, [.ref tl, .ref tr, .ref cu, .ref bk, .int 1])), (cu, .inr (0, [.ref tl, .ref tr, .ref he, .ref ma, .int hm, .int kd, .long cc0])), (he, .inr (2, [.int p0, .int p1, .int p2, .int p3, .int y4, .int y5, .int (p6 + 1)]))] H := hP
  have hD : va_D A [(h0, .inr (5, [.ref tl, .ref tr, .ref cu, .ref bk, .int 1])), (cu, .inr (0, [.ref tl, .ref tr, .ref he, .ref ma, .int hm, .int kd, .long cc0])), (he, .inr (2, [.int p0, .int p1, .int p2, .int p3, .int y4, .int y5, .int (p6 + 1)]))] := hD
  refine W.widen (k := 0) (n := 0) (by omega) (by omega) ?_
  exact W.zret (v := 1) (ty := .boolean) hx hb hr rfl (fun t ht hW => ⟨⟨1, [(h0, .inr (5, [.ref tl, .ref tr, .ref cu, .ref bk, .int 1])), (cu, .inr (0, [.ref tl, .ref tr, .ref he, .ref ma, .int hm, .int kd, .long cc0])), (he, .inr (2, [.int p0, .int p1, .int p2, .int p3, .int y4, .int y5, .int (p6 + 1)]))], rfl, (by exact ⟨rfl, rfl⟩), by rw [ht]; exact hP, hD⟩, hS.F ht⟩) hS.2.2 dX5_next_14
set_option maxHeartbeats 1000000 in
set_option maxRecDepth 100000 in
theorem gJ_seek (l : Launch) (D : va_G) (cI cL cQ : ClassId) (h0 : Nat) (tl : Nat) (tr : Nat) (cu : Nat) (bk : Nat) (he : Nat) (ma : Nat) (hm : Int32) (kd : Int32) (cc0 : Int64) (p0 : Int32) (p1 : Int32) (p2 : Int32) (p3 : Int32) (p4 : Int32) (p5 : Int32) (p6 : Int32) (a : Nat) (n : Nat) (pl : Nat) (a2 : Nat) (n2 : Nat) (pl2 : Nat) (lk : Nat) (lv : Nat) (lo : Nat) (lp : Nat) (ll : Nat) (lf : Nat) (rk : Nat) (rv : Nat) (ro : Nat) (rp : Nat) (rl : Nat) (rf : Nat) (gk : Nat → Int32) (go : Nat → Int32) (gp : Nat → Int32) (gl : Nat → Int32) (hk : Nat → Int32) (ho_ : Nat → Int32) (hl_ : Nat → Int32) (x : Int32) (K1 : Nat → Int32) (K2 : Nat → Int32) (sz : Nat) (ha : a ≤ 400) (hn : n ≤ a) (hol : jord a go) (ha2 : a2 ≤ 400) (hn2 : n2 ≤ a2) (hor : jord a2 ho_) (hk1 : ∀ i, i < n → jat n gk go (nI i) = K1 i) (hk2 : ∀ i, i < n2 → jat n2 hk ho_ (nI i) = K2 i) (hw1 : jMo n K1) (hw2 : jMo n2 K2) : Met l yX5_seek wsX5_seek ({ frames := 5, cells := 0, slots := 0, locals := 114 }) (jw_P D vwCl (jT cI cL cQ) cL cQ [.ref h0, .int x] [(h0, .inr (5, [.ref tl, .ref tr, .ref cu, .ref bk, .int 1])), (cu, .inr (0, [.ref tl, .ref tr, .ref he, .ref ma, .int hm, .int kd, .long cc0])), (he, .inr (2, [.int p0, .int p1, .int p2, .int p3, .int p4, .int p5, .int p6])), (tl, .inr (4, [.int (nI a), .ref lk, .ref lv, .ref lo, .ref lp, .ref ll, .ref lf, .int (nI n), .int (nI pl)])), (lk, .inl (cI, a, .inl gk)), (lo, .inl (cI, a, .inl go)), (lp, .inl (cI, a + 1, .inl gp)), (ll, .inl (cI, a + 1, .inl gl)), (tr, .inr (4, [.int (nI a2), .ref rk, .ref rv, .ref ro, .ref rp, .ref rl, .ref rf, .int (nI n2), .int (nI pl2)])), (rk, .inl (cI, a2, .inl hk)), (ro, .inl (cI, a2, .inl ho_)), (rl, .inl (cI, a2 + 1, .inl hl_))] sz) (va_Qi (fun (r : Int32) (u : va_W) => (∃ (l0 : Nat) (l1 : Nat) (cc9 : Int64), r = 1 ∧ u = [(h0, .inr (5, [.ref tl, .ref tr, .ref cu, .ref bk, .int 1])), (cu, .inr (0, [.ref tl, .ref tr, .ref he, .ref ma, .int hm, .int kd, .long cc9])), (he, .inr (2, [.int (nI l0), .int (nI l0), .int (nI l1), .int (nI l1), .int (-1), .int (-1), .int (jpb n n2 gp gl hl_ (nI l0) (nI l1) kd)])), (tl, .inr (4, [.int (nI a), .ref lk, .ref lv, .ref lo, .ref lp, .ref ll, .ref lf, .int (nI n), .int (nI pl)])), (lk, .inl (cI, a, .inl gk)), (lo, .inl (cI, a, .inl go)), (lp, .inl (cI, a + 1, .inl gp)), (ll, .inl (cI, a + 1, .inl gl)), (tr, .inr (4, [.int (nI a2), .ref rk, .ref rv, .ref ro, .ref rp, .ref rl, .ref rf, .int (nI n2), .int (nI pl2)])), (rk, .inl (cI, a2, .inl hk)), (ro, .inl (cI, a2, .inl ho_)), (rl, .inl (cI, a2 + 1, .inl hl_))] ∧ (jLb n K1 x l0) ∧ (jLb n2 K2 x l1) ∧ (¬ jpb n n2 gp gl hl_ (nI n) (nI n2) kd ≤ jpb n n2 gp gl hl_ (nI l0) (nI l1) kd)) ∨ (∃ (l0 : Nat) (l1 : Nat) (cc9 : Int64), r = 0 ∧ u = [(h0, .inr (5, [.ref tl, .ref tr, .ref cu, .ref bk, .int 1])), (cu, .inr (0, [.ref tl, .ref tr, .ref he, .ref ma, .int hm, .int kd, .long cc9])), (he, .inr (2, [.int (nI l0), .int (nI l0), .int (nI l1), .int (nI l1), .int (-1), .int (-1), .int (jpb n n2 gp gl hl_ (nI l0) (nI l1) kd)])), (tl, .inr (4, [.int (nI a), .ref lk, .ref lv, .ref lo, .ref lp, .ref ll, .ref lf, .int (nI n), .int (nI pl)])), (lk, .inl (cI, a, .inl gk)), (lo, .inl (cI, a, .inl go)), (lp, .inl (cI, a + 1, .inl gp)), (ll, .inl (cI, a + 1, .inl gl)), (tr, .inr (4, [.int (nI a2), .ref rk, .ref rv, .ref ro, .ref rp, .ref rl, .ref rf, .int (nI n2), .int (nI pl2)])), (rk, .inl (cI, a2, .inl hk)), (ro, .inl (cI, a2, .inl ho_)), (rl, .inl (cI, a2 + 1, .inl hl_))] ∧ (jLb n K1 x l0) ∧ (jLb n2 K2 x l1) ∧ (jpb n n2 gp gl hl_ (nI n) (nI n2) kd ≤ jpb n n2 gp gl hl_ (nI l0) (nI l1) kd))) (jw_B D vwCl (va_A [(h0, .inr (5, [.ref tl, .ref tr, .ref cu, .ref bk, .int 1])), (cu, .inr (0, [.ref tl, .ref tr, .ref he, .ref ma, .int hm, .int kd, .long cc0])), (he, .inr (2, [.int p0, .int p1, .int p2, .int p3, .int p4, .int p5, .int p6])), (tl, .inr (4, [.int (nI a), .ref lk, .ref lv, .ref lo, .ref lp, .ref ll, .ref lf, .int (nI n), .int (nI pl)])), (lk, .inl (cI, a, .inl gk)), (lo, .inl (cI, a, .inl go)), (lp, .inl (cI, a + 1, .inl gp)), (ll, .inl (cI, a + 1, .inl gl)), (tr, .inr (4, [.int (nI a2), .ref rk, .ref rv, .ref ro, .ref rp, .ref rl, .ref rf, .int (nI n2), .int (nI pl2)])), (rk, .inl (cI, a2, .inl hk)), (ro, .inl (cI, a2, .inl ho_)), (rl, .inl (cI, a2 + 1, .inl hl_))] sz) (fun u : va_W => u)) (va_A [(h0, .inr (5, [.ref tl, .ref tr, .ref cu, .ref bk, .int 1])), (cu, .inr (0, [.ref tl, .ref tr, .ref he, .ref ma, .int hm, .int kd, .long cc0])), (he, .inr (2, [.int p0, .int p1, .int p2, .int p3, .int p4, .int p5, .int p6])), (tl, .inr (4, [.int (nI a), .ref lk, .ref lv, .ref lo, .ref lp, .ref ll, .ref lf, .int (nI n), .int (nI pl)])), (lk, .inl (cI, a, .inl gk)), (lo, .inl (cI, a, .inl go)), (lp, .inl (cI, a + 1, .inl gp)), (ll, .inl (cI, a + 1, .inl gl)), (tr, .inr (4, [.int (nI a2), .ref rk, .ref rv, .ref ro, .ref rp, .ref rl, .ref rf, .int (nI n2), .int (nI pl2)])), (rk, .inl (cI, a2, .inl hk)), (ro, .inl (cI, a2, .inl ho_)), (rl, .inl (cI, a2 + 1, .inl hl_))] sz)) 0 0 (va_A [(h0, .inr (5, [.ref tl, .ref tr, .ref cu, .ref bk, .int 1])), (cu, .inr (0, [.ref tl, .ref tr, .ref he, .ref ma, .int hm, .int kd, .long cc0])), (he, .inr (2, [.int p0, .int p1, .int p2, .int p3, .int p4, .int p5, .int p6])), (tl, .inr (4, [.int (nI a), .ref lk, .ref lv, .ref lo, .ref lp, .ref ll, .ref lf, .int (nI n), .int (nI pl)])), (lk, .inl (cI, a, .inl gk)), (lo, .inl (cI, a, .inl go)), (lp, .inl (cI, a + 1, .inl gp)), (ll, .inl (cI, a + 1, .inl gl)), (tr, .inr (4, [.int (nI a2), .ref rk, .ref rv, .ref ro, .ref rp, .ref rl, .ref rf, .int (nI n2), .int (nI pl2)])), (rk, .inl (cI, a2, .inl hk)), (ro, .inl (cI, a2, .inl ho_)), (rl, .inl (cI, a2 + 1, .inl hl_))] sz) := by
  refine Met.ofW (cc := cX5_seek) (maxL := 2) (ret := (some .boolean)) (by decide) rfl ?_
  intro p e s m args below meth c s₁ B hml hv
  obtain ⟨rfl, hsz, hP, hK, hN, hD0⟩ := hv
  have hx := B.exec
  have hb := B.bytes
  have hr := B.returns
  have hts := atoms_spec (ws := wsX5_seek) B.pre
  have hown : s.vm.findClass RX5 = some m.cls := findClass_of_methodNamed B.named
  have hlocks := B.notSynchronized
  subst hsz
  have hD := hD0.self (sz := s.heap.size)
  generalize hAe : va_A [(h0, .inr (5, [.ref tl, .ref tr, .ref cu, .ref bk, .int 1])), (cu, .inr (0, [.ref tl, .ref tr, .ref he, .ref ma, .int hm, .int kd, .long cc0])), (he, .inr (2, [.int p0, .int p1, .int p2, .int p3, .int p4, .int p5, .int p6])), (tl, .inr (4, [.int (nI a), .ref lk, .ref lv, .ref lo, .ref lp, .ref ll, .ref lf, .int (nI n), .int (nI pl)])), (lk, .inl (cI, a, .inl gk)), (lo, .inl (cI, a, .inl go)), (lp, .inl (cI, a + 1, .inl gp)), (ll, .inl (cI, a + 1, .inl gl)), (tr, .inr (4, [.int (nI a2), .ref rk, .ref rv, .ref ro, .ref rp, .ref rl, .ref rf, .int (nI n2), .int (nI pl2)])), (rk, .inl (cI, a2, .inl hk)), (ro, .inl (cI, a2, .inl ho_)), (rl, .inl (cI, a2 + 1, .inl hl_))] s.heap.size = A at hD ⊢
  have hA : ∀ q : Nat, s.heap.size ≤ q → A q := fun q h => by rw [← hAe]; exact Or.inr h
  have hS : va_S A s.heap s.heap [] := va_S.rf
  have hl := lv_entry ([.ref h0, .int x]) (n := 2) (Nat.le_of_ble_eq_true rfl)
  rw [lg_entry_eq]
  generalize (lg_sl ([.ref h0, .int x]) ++ List.replicate (2 - (lg_sl ([.ref h0, .int x])).length) Slot.unset).toArray = ls at hl ⊢
  have hl : lv_has ls 2 [(0, .ref h0), (1, .int x)] := hl
  refine lv_aload_n hx hb dX5_seek_0 rfl (lv_at hl 0 rfl) ?_
  refine va_get (D := D) (ci := 5) (v := .int 1) (C := RX5) (T := TX5) (N := 5) hx hb hts (by decide +kernel) hown hK hP 0 rfl rfl 4 (by decide) (hts (.fieldLink RX5 41 "JoinDesk" "prepared" "Z") (by decide +kernel)) (fun _ h9 => h9) rfl dX5_seek_1 ?_
  refine va_csv (va_Run.run (va_runS (As := [.int 1]) (rest := []) ⟨hx, hb, hml, hown, hts⟩ (gJ_requireState_ok l D cI cL cQ) (va_cwS 1 hts gX5_seek_X5_requireState rfl rfl rfl (by decide +kernel) ⟨Nat.le_of_ble_eq_true rfl, Nat.le_of_ble_eq_true rfl⟩) (jr_S hK hN hP [] rfl) rfl rfl hl.1 rfl (lv_room (Nat.le_of_ble_eq_true rfl)) dX5_seek_4 ⟨Nat.le_of_ble_eq_true rfl, Nat.le_of_ble_eq_true rfl⟩)) (fun f_1 => ?_)
  refine lv_aload_n hx hb dX5_seek_7 rfl (lv_at hl 0 rfl) ?_
  refine va_get (D := D) (ci := 5) (v := .ref cu) (C := RX5) (T := TX5) (N := 5) hx hb hts (by decide +kernel) hown hK hP 0 rfl rfl 2 (by decide) (hts (.fieldLink RX5 30 "JoinDesk" "cursor" "LJoinDesk$Cursor;") (by decide +kernel)) (fun _ h9 => h9) rfl dX5_seek_8 ?_
  refine lv_iload_n hx hb dX5_seek_11 rfl (lv_at hl 1 rfl) ?_
  refine jw_i (wr := [(h0, .inr (5, [.ref tl, .ref tr, .ref cu, .ref bk, .int 1]))]) (va_runV (As := [.int x]) (rest := []) ⟨hx, hb, hml, hown, hts⟩ (gC_goBefore l D cI cL cQ cu tl tr he ma hm kd cc0 a n pl a2 n2 pl2 lk lv lo lp ll lf rk rv ro rp rl rf gk go gp gl hk ho_ hl_ p0 p1 p2 p3 p4 p5 p6 x K1 K2 _ (by first | assumption | decide | omega) (by first | assumption | decide | omega) (by first | assumption | decide | omega) (by first | assumption | decide | omega) (by first | assumption | decide | omega) (by first | assumption | decide | omega) (by first | assumption | decide | omega) (by first | assumption | decide | omega) (by first | assumption | decide | omega) (by first | assumption | decide | omega)) (cwV 1 hts gX5_seek_X0_goBefore rfl rfl rfl (by decide +kernel) ⟨Nat.le_of_ble_eq_true rfl, Nat.le_of_ble_eq_true rfl⟩) (jw_V hK hN hP hD [1, 2, 3, 4, 5, 6, 7, 8, 9, 10, 11] (by decide) rfl 0 1 rfl rfl rfl) rfl rfl hl.1 rfl (lv_room (Nat.le_of_ble_eq_true rfl)) dX5_seek_12 ⟨Nat.le_of_ble_eq_true rfl, Nat.le_of_ble_eq_true rfl⟩) hP hD hS hA [1, 2, 3, 4, 5, 6, 7, 8, 9, 10, 11] [0] rfl rfl (by decide) (by decide) (fun r u H locs f_2 hP hD hS => ?_)
  rcases f_2 with ⟨l0_3, l1_4, cc9_5, rfl, rfl, f_6, f_7, f_8⟩ | ⟨l0_9, l1_10, cc9_11, rfl, rfl, f_12, f_13, f_14⟩
  · have hP : va_P D vwCl [(h0, .inr (5, [.ref tl, .ref tr, .ref cu, .ref bk, .int 1])), (cu, .inr (0, [.ref tl, .ref tr, .ref he, .ref ma, .int hm, .int kd, .long cc9_5])), (he, .inr (2, [.int (nI l0_3), .int (nI l0_3), .int (nI l1_4), .int (nI l1_4), .int (-1), .int (-1), .int (jpb n n2 gp gl hl_ (nI l0_3) (nI l1_4) kd)])), (tl, .inr (4, [.int (nI a), .ref lk, .ref lv, .ref lo, .ref lp, .ref ll, .ref lf, .int (nI n), .int (nI pl)])), (lk, .inl (cI, a, .inl gk)), (lo, .inl (cI, a, .inl go)), (lp, .inl (cI, a + 1, .inl gp)), (ll, .inl (cI, a + 1, .inl gl)), (tr, .inr (4, [.int (nI a2), .ref rk, .ref rv, .ref ro, .ref rp, .ref rl, .ref rf, .int (nI n2), .int (nI pl2)])), (rk, .inl (cI, a2, .inl hk)), (ro, .inl (cI, a2, .inl ho_)), (rl, .inl (cI, a2 + 1, .inl hl_))] H := hP
    have hD : va_D A [(h0, .inr (5, [.ref tl, .ref tr, .ref cu, .ref bk, .int 1])), (cu, .inr (0, [.ref tl, .ref tr, .ref he, .ref ma, .int hm, .int kd, .long cc9_5])), (he, .inr (2, [.int (nI l0_3), .int (nI l0_3), .int (nI l1_4), .int (nI l1_4), .int (-1), .int (-1), .int (jpb n n2 gp gl hl_ (nI l0_3) (nI l1_4) kd)])), (tl, .inr (4, [.int (nI a), .ref lk, .ref lv, .ref lo, .ref lp, .ref ll, .ref lf, .int (nI n), .int (nI pl)])), (lk, .inl (cI, a, .inl gk)), (lo, .inl (cI, a, .inl go)), (lp, .inl (cI, a + 1, .inl gp)), (ll, .inl (cI, a + 1, .inl gl)), (tr, .inr (4, [.int (nI a2), .ref rk, .ref rv, .ref ro, .ref rp, .ref rl, .ref rf, .int (nI n2), .int (nI pl2)])), (rk, .inl (cI, a2, .inl hk)), (ro, .inl (cI, a2, .inl ho_)), (rl, .inl (cI, a2 + 1, .inl hl_))] := hD
    refine W.widen (k := 0) (n := 0) (by omega) (by omega) ?_
    exact W.zret (v := 1) (ty := .boolean) hx hb hr rfl (fun t ht hW => ⟨⟨1, [(h0, .inr (5, [.ref tl, .ref tr, .ref cu, .ref bk, .int 1])), (cu, .inr (0, [.ref tl, .ref tr, .ref he, .ref ma, .int hm, .int kd, .long cc9_5])), (he, .inr (2, [.int (nI l0_3), .int (nI l0_3), .int (nI l1_4), .int (nI l1_4), .int (-1), .int (-1), .int (jpb n n2 gp gl hl_ (nI l0_3) (nI l1_4) kd)])), (tl, .inr (4, [.int (nI a), .ref lk, .ref lv, .ref lo, .ref lp, .ref ll, .ref lf, .int (nI n), .int (nI pl)])), (lk, .inl (cI, a, .inl gk)), (lo, .inl (cI, a, .inl go)), (lp, .inl (cI, a + 1, .inl gp)), (ll, .inl (cI, a + 1, .inl gl)), (tr, .inr (4, [.int (nI a2), .ref rk, .ref rv, .ref ro, .ref rp, .ref rl, .ref rf, .int (nI n2), .int (nI pl2)])), (rk, .inl (cI, a2, .inl hk)), (ro, .inl (cI, a2, .inl ho_)), (rl, .inl (cI, a2 + 1, .inl hl_))], rfl, (by exact Or.inl ⟨_, _, _, rfl, rfl, by assumption, by assumption, by assumption⟩), by rw [ht]; exact hP, hD⟩, hS.F ht⟩) hS.2.2 dX5_seek_15
  · have hP : va_P D vwCl [(h0, .inr (5, [.ref tl, .ref tr, .ref cu, .ref bk, .int 1])), (cu, .inr (0, [.ref tl, .ref tr, .ref he, .ref ma, .int hm, .int kd, .long cc9_11])), (he, .inr (2, [.int (nI l0_9), .int (nI l0_9), .int (nI l1_10), .int (nI l1_10), .int (-1), .int (-1), .int (jpb n n2 gp gl hl_ (nI l0_9) (nI l1_10) kd)])), (tl, .inr (4, [.int (nI a), .ref lk, .ref lv, .ref lo, .ref lp, .ref ll, .ref lf, .int (nI n), .int (nI pl)])), (lk, .inl (cI, a, .inl gk)), (lo, .inl (cI, a, .inl go)), (lp, .inl (cI, a + 1, .inl gp)), (ll, .inl (cI, a + 1, .inl gl)), (tr, .inr (4, [.int (nI a2), .ref rk, .ref rv, .ref ro, .ref rp, .ref rl, .ref rf, .int (nI n2), .int (nI pl2)])), (rk, .inl (cI, a2, .inl hk)), (ro, .inl (cI, a2, .inl ho_)), (rl, .inl (cI, a2 + 1, .inl hl_))] H := hP
    have hD : va_D A [(h0, .inr (5, [.ref tl, .ref tr, .ref cu, .ref bk, .int 1])), (cu, .inr (0, [.ref tl, .ref tr, .ref he, .ref ma, .int hm, .int kd, .long cc9_11])), (he, .inr (2, [.int (nI l0_9), .int (nI l0_9), .int (nI l1_10), .int (nI l1_10), .int (-1), .int (-1), .int (jpb n n2 gp gl hl_ (nI l0_9) (nI l1_10) kd)])), (tl, .inr (4, [.int (nI a), .ref lk, .ref lv, .ref lo, .ref lp, .ref ll, .ref lf, .int (nI n), .int (nI pl)])), (lk, .inl (cI, a, .inl gk)), (lo, .inl (cI, a, .inl go)), (lp, .inl (cI, a + 1, .inl gp)), (ll, .inl (cI, a + 1, .inl gl)), (tr, .inr (4, [.int (nI a2), .ref rk, .ref rv, .ref ro, .ref rp, .ref rl, .ref rf, .int (nI n2), .int (nI pl2)])), (rk, .inl (cI, a2, .inl hk)), (ro, .inl (cI, a2, .inl ho_)), (rl, .inl (cI, a2 + 1, .inl hl_))] := hD
    refine W.widen (k := 0) (n := 0) (by omega) (by omega) ?_
    exact W.zret (v := 0) (ty := .boolean) hx hb hr rfl (fun t ht hW => ⟨⟨0, [(h0, .inr (5, [.ref tl, .ref tr, .ref cu, .ref bk, .int 1])), (cu, .inr (0, [.ref tl, .ref tr, .ref he, .ref ma, .int hm, .int kd, .long cc9_11])), (he, .inr (2, [.int (nI l0_9), .int (nI l0_9), .int (nI l1_10), .int (nI l1_10), .int (-1), .int (-1), .int (jpb n n2 gp gl hl_ (nI l0_9) (nI l1_10) kd)])), (tl, .inr (4, [.int (nI a), .ref lk, .ref lv, .ref lo, .ref lp, .ref ll, .ref lf, .int (nI n), .int (nI pl)])), (lk, .inl (cI, a, .inl gk)), (lo, .inl (cI, a, .inl go)), (lp, .inl (cI, a + 1, .inl gp)), (ll, .inl (cI, a + 1, .inl gl)), (tr, .inr (4, [.int (nI a2), .ref rk, .ref rv, .ref ro, .ref rp, .ref rl, .ref rf, .int (nI n2), .int (nI pl2)])), (rk, .inl (cI, a2, .inl hk)), (ro, .inl (cI, a2, .inl ho_)), (rl, .inl (cI, a2 + 1, .inl hl_))], rfl, (by exact Or.inr (⟨_, _, _, rfl, rfl, by assumption, by assumption, by assumption⟩)), by rw [ht]; exact hP, hD⟩, hS.F ht⟩) hS.2.2 dX5_seek_15
set_option maxHeartbeats 1000000 in
set_option maxRecDepth 100000 in
theorem gJ_pair_10 (l : Launch) (D : va_G) (cI cL cQ : ClassId) (h0 : Nat) (tl : Nat) (tr : Nat) (cu : Nat) (bk : Nat) (he : Nat) (ma : Nat) (hm : Int32) (kd : Int32) (cc0 : Int64) (p0 : Int32) (p1 : Int32) (p2 : Int32) (p3 : Int32) (p4 : Int32) (p5 : Int32) (p6 : Int32) (a : Nat) (n : Nat) (pl : Nat) (a2 : Nat) (n2 : Nat) (pl2 : Nat) (lk : Nat) (lv : Nat) (lo : Nat) (lp : Nat) (ll : Nat) (lf : Nat) (rk : Nat) (rv : Nat) (ro : Nat) (rp : Nat) (rl : Nat) (rf : Nat) (gk : Nat → Int32) (gv : Nat → Int32) (go : Nat → Int32) (hk : Nat → Int32) (hv : Nat → Int32) (ho_ : Nat → Int32) (ha : a ≤ 400) (hn : n ≤ a) (hol : jord a go) (ha2 : a2 ≤ 400) (hn2 : n2 ≤ a2) (hor : jord a2 ho_) : Met l yX5_pair wsX5_pair ({ frames := 2, cells := 0, slots := 0, locals := 42 }) (jr_P D vwCl (jT cI cL cQ) cL cQ [.ref h0, .int 0] [(h0, .inr (5, [.ref tl, .ref tr, .ref cu, .ref bk, .int 1])), (cu, .inr (0, [.ref tl, .ref tr, .ref he, .ref ma, .int hm, .int kd, .long cc0])), (he, .inr (2, [.int p0, .int p1, .int p2, .int p3, .int p4, .int p5, .int p6])), (tl, .inr (4, [.int (nI a), .ref lk, .ref lv, .ref lo, .ref lp, .ref ll, .ref lf, .int (nI n), .int (nI pl)])), (lk, .inl (cI, a, .inl gk)), (lv, .inl (cI, a, .inl gv)), (lo, .inl (cI, a, .inl go)), (tr, .inr (4, [.int (nI a2), .ref rk, .ref rv, .ref ro, .ref rp, .ref rl, .ref rf, .int (nI n2), .int (nI pl2)])), (rk, .inl (cI, a2, .inl hk)), (rv, .inl (cI, a2, .inl hv)), (ro, .inl (cI, a2, .inl ho_))]) (vp_Si (fun r : Int32 => r = jpk n n2 gk go hk ho_ p4 p5)) 0 0 (fun _ => False) := by
  refine Met.ofW (cc := cX5_pair) (maxL := 4) (ret := (some .int)) (by decide) rfl ?_
  intro p e s m args below meth c s₁ B hml hv
  obtain ⟨rfl, hP, hK, hN⟩ := hv
  have hx := B.exec
  have hb := B.bytes
  have hr := B.returns
  have hts := atoms_spec (ws := wsX5_pair) B.pre
  have hown : s.vm.findClass RX5 = some m.cls := findClass_of_methodNamed B.named
  have hlocks := B.notSynchronized
  have hl := lv_entry ([.ref h0, .int 0]) (n := 4) (Nat.le_of_ble_eq_true rfl)
  rw [lg_entry_eq]
  generalize (lg_sl ([.ref h0, .int 0]) ++ List.replicate (4 - (lg_sl ([.ref h0, .int 0])).length) Slot.unset).toArray = ls at hl ⊢
  have hl : lv_has ls 4 [(0, .ref h0), (1, .int 0)] := hl
  refine lv_iload_n hx hb dX5_pair_0 rfl (lv_at hl 1 rfl) ?_
  refine lv_iconst (v := 5) hx hb dX5_pair_1 (by decide) ?_
  refine vp_callSi (va_Run.run (va_runS (As := [.int 0, .int 5]) (rest := []) ⟨hx, hb, hml, hown, hts⟩ (gJ_isBelow l D cI cL cQ 0 5) (va_cwS 2 hts gX5_pair_X5_isBelow rfl rfl rfl (by decide +kernel) ⟨Nat.le_of_ble_eq_true rfl, Nat.le_of_ble_eq_true rfl⟩) (jr_S hK hN hP [] rfl) rfl rfl hl.1 rfl (lv_room (Nat.le_of_ble_eq_true rfl)) dX5_pair_2 ⟨Nat.le_of_ble_eq_true rfl, Nat.le_of_ble_eq_true rfl⟩)) (fun r f_1 => ?_)
  rcases f_1 with ⟨rfl, f_2, f_3⟩ | ⟨rfl, f_4⟩
  · refine va_csv (va_Run.run (va_runS (As := [.int 1]) (rest := []) ⟨hx, hb, hml, hown, hts⟩ (gJ_requireArgument_ok l D cI cL cQ) (va_cwS 1 hts gX5_pair_X5_requireArgument rfl rfl rfl (by decide +kernel) ⟨Nat.le_of_ble_eq_true rfl, Nat.le_of_ble_eq_true rfl⟩) (jr_S hK hN hP [] rfl) rfl rfl hl.1 rfl (lv_room (Nat.le_of_ble_eq_true rfl)) dX5_pair_5 ⟨Nat.le_of_ble_eq_true rfl, Nat.le_of_ble_eq_true rfl⟩)) (fun f_5 => ?_)
    refine lv_aload_n hx hb dX5_pair_8 rfl (lv_at hl 0 rfl) ?_
    refine va_get (D := D) (ci := 5) (v := .int 1) (C := RX5) (T := TX5) (N := 5) hx hb hts (by decide +kernel) hown hK hP 0 rfl rfl 4 (by decide) (hts (.fieldLink RX5 41 "JoinDesk" "prepared" "Z") (by decide +kernel)) (fun _ h9 => h9) rfl dX5_pair_9 ?_
    refine lv_if_eq (tgt := 25) hx hb dX5_pair_12 (by decide) (fun c_6 => absurd c_6 (by decide)) (fun c_6 => ?_)
    refine lv_aload_n hx hb dX5_pair_15 rfl (lv_at hl 0 rfl) ?_
    refine va_get (D := D) (ci := 5) (v := .ref cu) (C := RX5) (T := TX5) (N := 5) hx hb hts (by decide +kernel) hown hK hP 0 rfl rfl 2 (by decide) (hts (.fieldLink RX5 30 "JoinDesk" "cursor" "LJoinDesk$Cursor;") (by decide +kernel)) (fun _ h9 => h9) rfl dX5_pair_16 ?_
    refine vp_callSi (va_Run.run (va_runV (As := []) (rest := []) ⟨hx, hb, hml, hown, hts⟩ (gC_leftPlace l D cI cL cQ cu tl tr he ma hm kd cc0 p0 p1 p2 p3 p4 p5 p6) (cwV 0 hts gX5_pair_X0_leftPlace rfl rfl rfl (by decide +kernel) ⟨Nat.le_of_ble_eq_true rfl, Nat.le_of_ble_eq_true rfl⟩) (jr_V hK hN hP [1, 2] rfl 0 1 rfl rfl rfl) rfl rfl hl.1 rfl (lv_room (Nat.le_of_ble_eq_true rfl)) dX5_pair_19 ⟨Nat.le_of_ble_eq_true rfl, Nat.le_of_ble_eq_true rfl⟩)) (fun r f_7 => ?_)
    obtain er_8 := f_7
    subst r
    refine lv_goto (tgt := 26) hx hb dX5_pair_22 (by decide) ?_
    refine lv_istore_n (lv' := [(2, .int p4), (0, .ref h0), (1, .int 0)]) hx hb dX5_pair_26 rfl hl (by decide) rfl (fun ls hl => ?_)
    refine lv_aload_n hx hb dX5_pair_27 rfl (lv_at hl 1 rfl) ?_
    refine va_get (D := D) (ci := 5) (v := .int 1) (C := RX5) (T := TX5) (N := 5) hx hb hts (by decide +kernel) hown hK hP 0 rfl rfl 4 (by decide) (hts (.fieldLink RX5 41 "JoinDesk" "prepared" "Z") (by decide +kernel)) (fun _ h9 => h9) rfl dX5_pair_28 ?_
    refine lv_if_eq (tgt := 44) hx hb dX5_pair_31 (by decide) (fun c_9 => absurd c_9 (by decide)) (fun c_9 => ?_)
    refine lv_aload_n hx hb dX5_pair_34 rfl (lv_at hl 1 rfl) ?_
    refine va_get (D := D) (ci := 5) (v := .ref cu) (C := RX5) (T := TX5) (N := 5) hx hb hts (by decide +kernel) hown hK hP 0 rfl rfl 2 (by decide) (hts (.fieldLink RX5 30 "JoinDesk" "cursor" "LJoinDesk$Cursor;") (by decide +kernel)) (fun _ h9 => h9) rfl dX5_pair_35 ?_
    refine vp_callSi (va_Run.run (va_runV (As := []) (rest := []) ⟨hx, hb, hml, hown, hts⟩ (gC_rightPlace l D cI cL cQ cu tl tr he ma hm kd cc0 p0 p1 p2 p3 p4 p5 p6) (cwV 0 hts gX5_pair_X0_rightPlace rfl rfl rfl (by decide +kernel) ⟨Nat.le_of_ble_eq_true rfl, Nat.le_of_ble_eq_true rfl⟩) (jr_V hK hN hP [1, 2] rfl 0 1 rfl rfl rfl) rfl rfl hl.1 rfl (lv_room (Nat.le_of_ble_eq_true rfl)) dX5_pair_38 ⟨Nat.le_of_ble_eq_true rfl, Nat.le_of_ble_eq_true rfl⟩)) (fun r f_10 => ?_)
    obtain er_11 := f_10
    subst r
    refine lv_goto (tgt := 45) hx hb dX5_pair_41 (by decide) ?_
    refine lv_istore_n (lv' := [(3, .int p5), (2, .int p4), (0, .ref h0), (1, .int 0)]) hx hb dX5_pair_45 rfl hl (by decide) rfl (fun ls hl => ?_)
    refine lv_iload_n hx hb dX5_pair_46 rfl (lv_at hl 3 rfl) ?_
    refine lv_tableIn (tgt := 76) hx hb dX5_pair_47 (by decide) (by decide) rfl (by decide) ?_
    refine lv_aload_n hx hb dX5_pair_76 rfl (lv_at hl 2 rfl) ?_
    refine va_get (D := D) (ci := 5) (v := .ref tl) (C := RX5) (T := TX5) (N := 5) hx hb hts (by decide +kernel) hown hK hP 0 rfl rfl 0 (by decide) (hts (.fieldLink RX5 18 "JoinDesk" "left" "LJoinDesk$Table;") (by decide +kernel)) (fun _ h9 => h9) rfl dX5_pair_77 ?_
    refine lv_iload_n hx hb dX5_pair_80 rfl (lv_at hl 1 rfl) ?_
    refine vp_callSi (va_Run.run (va_runV (As := [.int p4]) (rest := []) ⟨hx, hb, hml, hown, hts⟩ (gT_has l D cI cL cQ tl a n pl lk lv lo lp ll lf p4) (cwV 1 hts gX5_pair_X4_has rfl rfl rfl (by decide +kernel) ⟨Nat.le_of_ble_eq_true rfl, Nat.le_of_ble_eq_true rfl⟩) (jr_V hK hN hP [3] rfl 4 3 rfl rfl rfl) rfl rfl hl.1 rfl (lv_room (Nat.le_of_ble_eq_true rfl)) dX5_pair_81 ⟨Nat.le_of_ble_eq_true rfl, Nat.le_of_ble_eq_true rfl⟩)) (fun r f_12 => ?_)
    rcases f_12 with ⟨rfl, f_13, f_14⟩ | ⟨rfl, f_15⟩
    · refine lv_if_eq (tgt := 98) hx hb dX5_pair_84 (by decide) (fun c_16 => absurd c_16 (by decide)) (fun c_16 => ?_)
      refine lv_aload_n hx hb dX5_pair_87 rfl (lv_at hl 2 rfl) ?_
      refine va_get (D := D) (ci := 5) (v := .ref tl) (C := RX5) (T := TX5) (N := 5) hx hb hts (by decide +kernel) hown hK hP 0 rfl rfl 0 (by decide) (hts (.fieldLink RX5 18 "JoinDesk" "left" "LJoinDesk$Table;") (by decide +kernel)) (fun _ h9 => h9) rfl dX5_pair_88 ?_
      refine lv_iload_n hx hb dX5_pair_91 rfl (lv_at hl 1 rfl) ?_
      refine vp_callSi (va_Run.run (va_runV (As := [.int p4]) (rest := []) ⟨hx, hb, hml, hown, hts⟩ (gT_keyAt l D cI cL cQ tl a n pl lk lv lo lp ll lf gk go p4 (by first | assumption | decide | omega) (by first | assumption | decide | omega) (by first | assumption | decide | omega)) (cwV 1 hts gX5_pair_X4_keyAt rfl rfl rfl (by decide +kernel) ⟨Nat.le_of_ble_eq_true rfl, Nat.le_of_ble_eq_true rfl⟩) (jr_V hK hN hP [3, 4, 6] rfl 4 3 rfl rfl rfl) rfl rfl hl.1 rfl (lv_room (Nat.le_of_ble_eq_true rfl)) dX5_pair_92 ⟨Nat.le_of_ble_eq_true rfl, Nat.le_of_ble_eq_true rfl⟩)) (fun r f_17 => ?_)
      obtain rfl := f_17
      refine lv_goto (tgt := 106) hx hb dX5_pair_95 (by decide) ?_
      exact W.iret (v := jat n gk go p4) hx hb hr (fun t ht hW => ⟨(jat n gk go p4), rfl, (by first | exact jpk_o (by assumption) | exact jpk_i (by assumption) (by assumption)), ht⟩) (fun _ h => nomatch h) dX5_pair_106
    · refine lv_if_eq (tgt := 98) hx hb dX5_pair_84 (by decide) (fun c_18 => ?_) (fun c_18 => absurd c_18 (by decide))
      refine lv_aload_n hx hb dX5_pair_98 rfl (lv_at hl 2 rfl) ?_
      refine va_get (D := D) (ci := 5) (v := .ref tr) (C := RX5) (T := TX5) (N := 5) hx hb hts (by decide +kernel) hown hK hP 0 rfl rfl 1 (by decide) (hts (.fieldLink RX5 22 "JoinDesk" "right" "LJoinDesk$Table;") (by decide +kernel)) (fun _ h9 => h9) rfl dX5_pair_99 ?_
      refine lv_iload_n hx hb dX5_pair_102 rfl (lv_at hl 0 rfl) ?_
      refine vp_callSi (va_Run.run (va_runV (As := [.int p5]) (rest := []) ⟨hx, hb, hml, hown, hts⟩ (gT_keyAt l D cI cL cQ tr a2 n2 pl2 rk rv ro rp rl rf hk ho_ p5 (by first | assumption | decide | omega) (by first | assumption | decide | omega) (by first | assumption | decide | omega)) (cwV 1 hts gX5_pair_X4_keyAt rfl rfl rfl (by decide +kernel) ⟨Nat.le_of_ble_eq_true rfl, Nat.le_of_ble_eq_true rfl⟩) (jr_V hK hN hP [7, 8, 10] rfl 4 7 rfl rfl rfl) rfl rfl hl.1 rfl (lv_room (Nat.le_of_ble_eq_true rfl)) dX5_pair_103 ⟨Nat.le_of_ble_eq_true rfl, Nat.le_of_ble_eq_true rfl⟩)) (fun r f_19 => ?_)
      obtain rfl := f_19
      exact W.iret (v := jat n2 hk ho_ p5) hx hb hr (fun t ht hW => ⟨(jat n2 hk ho_ p5), rfl, (by first | exact jpk_o (by assumption) | exact jpk_i (by assumption) (by assumption)), ht⟩) (fun _ h => nomatch h) dX5_pair_106
  · exact False.elim (by revert f_4; decide)
set_option maxHeartbeats 1000000 in
set_option maxRecDepth 100000 in
theorem gJ_pair_11 (l : Launch) (D : va_G) (cI cL cQ : ClassId) (h0 : Nat) (tl : Nat) (tr : Nat) (cu : Nat) (bk : Nat) (he : Nat) (ma : Nat) (hm : Int32) (kd : Int32) (cc0 : Int64) (p0 : Int32) (p1 : Int32) (p2 : Int32) (p3 : Int32) (p4 : Int32) (p5 : Int32) (p6 : Int32) (a : Nat) (n : Nat) (pl : Nat) (a2 : Nat) (n2 : Nat) (pl2 : Nat) (lk : Nat) (lv : Nat) (lo : Nat) (lp : Nat) (ll : Nat) (lf : Nat) (rk : Nat) (rv : Nat) (ro : Nat) (rp : Nat) (rl : Nat) (rf : Nat) (gk : Nat → Int32) (gv : Nat → Int32) (go : Nat → Int32) (hk : Nat → Int32) (hv : Nat → Int32) (ho_ : Nat → Int32) (ha : a ≤ 400) (hn : n ≤ a) (hol : jord a go) (ha2 : a2 ≤ 400) (hn2 : n2 ≤ a2) (hor : jord a2 ho_) : Met l yX5_pair wsX5_pair ({ frames := 2, cells := 0, slots := 0, locals := 42 }) (jr_P D vwCl (jT cI cL cQ) cL cQ [.ref h0, .int 1] [(h0, .inr (5, [.ref tl, .ref tr, .ref cu, .ref bk, .int 1])), (cu, .inr (0, [.ref tl, .ref tr, .ref he, .ref ma, .int hm, .int kd, .long cc0])), (he, .inr (2, [.int p0, .int p1, .int p2, .int p3, .int p4, .int p5, .int p6])), (tl, .inr (4, [.int (nI a), .ref lk, .ref lv, .ref lo, .ref lp, .ref ll, .ref lf, .int (nI n), .int (nI pl)])), (lk, .inl (cI, a, .inl gk)), (lv, .inl (cI, a, .inl gv)), (lo, .inl (cI, a, .inl go)), (tr, .inr (4, [.int (nI a2), .ref rk, .ref rv, .ref ro, .ref rp, .ref rl, .ref rf, .int (nI n2), .int (nI pl2)])), (rk, .inl (cI, a2, .inl hk)), (rv, .inl (cI, a2, .inl hv)), (ro, .inl (cI, a2, .inl ho_))]) (vp_Si (fun r : Int32 => r = jat n gv go p4)) 0 0 (fun _ => False) := by
  refine Met.ofW (cc := cX5_pair) (maxL := 4) (ret := (some .int)) (by decide) rfl ?_
  intro p e s m args below meth c s₁ B hml hv
  obtain ⟨rfl, hP, hK, hN⟩ := hv
  have hx := B.exec
  have hb := B.bytes
  have hr := B.returns
  have hts := atoms_spec (ws := wsX5_pair) B.pre
  have hown : s.vm.findClass RX5 = some m.cls := findClass_of_methodNamed B.named
  have hlocks := B.notSynchronized
  have hl := lv_entry ([.ref h0, .int 1]) (n := 4) (Nat.le_of_ble_eq_true rfl)
  rw [lg_entry_eq]
  generalize (lg_sl ([.ref h0, .int 1]) ++ List.replicate (4 - (lg_sl ([.ref h0, .int 1])).length) Slot.unset).toArray = ls at hl ⊢
  have hl : lv_has ls 4 [(0, .ref h0), (1, .int 1)] := hl
  refine lv_iload_n hx hb dX5_pair_0 rfl (lv_at hl 1 rfl) ?_
  refine lv_iconst (v := 5) hx hb dX5_pair_1 (by decide) ?_
  refine vp_callSi (va_Run.run (va_runS (As := [.int 1, .int 5]) (rest := []) ⟨hx, hb, hml, hown, hts⟩ (gJ_isBelow l D cI cL cQ 1 5) (va_cwS 2 hts gX5_pair_X5_isBelow rfl rfl rfl (by decide +kernel) ⟨Nat.le_of_ble_eq_true rfl, Nat.le_of_ble_eq_true rfl⟩) (jr_S hK hN hP [] rfl) rfl rfl hl.1 rfl (lv_room (Nat.le_of_ble_eq_true rfl)) dX5_pair_2 ⟨Nat.le_of_ble_eq_true rfl, Nat.le_of_ble_eq_true rfl⟩)) (fun r f_1 => ?_)
  rcases f_1 with ⟨rfl, f_2, f_3⟩ | ⟨rfl, f_4⟩
  · refine va_csv (va_Run.run (va_runS (As := [.int 1]) (rest := []) ⟨hx, hb, hml, hown, hts⟩ (gJ_requireArgument_ok l D cI cL cQ) (va_cwS 1 hts gX5_pair_X5_requireArgument rfl rfl rfl (by decide +kernel) ⟨Nat.le_of_ble_eq_true rfl, Nat.le_of_ble_eq_true rfl⟩) (jr_S hK hN hP [] rfl) rfl rfl hl.1 rfl (lv_room (Nat.le_of_ble_eq_true rfl)) dX5_pair_5 ⟨Nat.le_of_ble_eq_true rfl, Nat.le_of_ble_eq_true rfl⟩)) (fun f_5 => ?_)
    refine lv_aload_n hx hb dX5_pair_8 rfl (lv_at hl 0 rfl) ?_
    refine va_get (D := D) (ci := 5) (v := .int 1) (C := RX5) (T := TX5) (N := 5) hx hb hts (by decide +kernel) hown hK hP 0 rfl rfl 4 (by decide) (hts (.fieldLink RX5 41 "JoinDesk" "prepared" "Z") (by decide +kernel)) (fun _ h9 => h9) rfl dX5_pair_9 ?_
    refine lv_if_eq (tgt := 25) hx hb dX5_pair_12 (by decide) (fun c_6 => absurd c_6 (by decide)) (fun c_6 => ?_)
    refine lv_aload_n hx hb dX5_pair_15 rfl (lv_at hl 0 rfl) ?_
    refine va_get (D := D) (ci := 5) (v := .ref cu) (C := RX5) (T := TX5) (N := 5) hx hb hts (by decide +kernel) hown hK hP 0 rfl rfl 2 (by decide) (hts (.fieldLink RX5 30 "JoinDesk" "cursor" "LJoinDesk$Cursor;") (by decide +kernel)) (fun _ h9 => h9) rfl dX5_pair_16 ?_
    refine vp_callSi (va_Run.run (va_runV (As := []) (rest := []) ⟨hx, hb, hml, hown, hts⟩ (gC_leftPlace l D cI cL cQ cu tl tr he ma hm kd cc0 p0 p1 p2 p3 p4 p5 p6) (cwV 0 hts gX5_pair_X0_leftPlace rfl rfl rfl (by decide +kernel) ⟨Nat.le_of_ble_eq_true rfl, Nat.le_of_ble_eq_true rfl⟩) (jr_V hK hN hP [1, 2] rfl 0 1 rfl rfl rfl) rfl rfl hl.1 rfl (lv_room (Nat.le_of_ble_eq_true rfl)) dX5_pair_19 ⟨Nat.le_of_ble_eq_true rfl, Nat.le_of_ble_eq_true rfl⟩)) (fun r f_7 => ?_)
    obtain er_8 := f_7
    subst r
    refine lv_goto (tgt := 26) hx hb dX5_pair_22 (by decide) ?_
    refine lv_istore_n (lv' := [(2, .int p4), (0, .ref h0), (1, .int 1)]) hx hb dX5_pair_26 rfl hl (by decide) rfl (fun ls hl => ?_)
    refine lv_aload_n hx hb dX5_pair_27 rfl (lv_at hl 1 rfl) ?_
    refine va_get (D := D) (ci := 5) (v := .int 1) (C := RX5) (T := TX5) (N := 5) hx hb hts (by decide +kernel) hown hK hP 0 rfl rfl 4 (by decide) (hts (.fieldLink RX5 41 "JoinDesk" "prepared" "Z") (by decide +kernel)) (fun _ h9 => h9) rfl dX5_pair_28 ?_
    refine lv_if_eq (tgt := 44) hx hb dX5_pair_31 (by decide) (fun c_9 => absurd c_9 (by decide)) (fun c_9 => ?_)
    refine lv_aload_n hx hb dX5_pair_34 rfl (lv_at hl 1 rfl) ?_
    refine va_get (D := D) (ci := 5) (v := .ref cu) (C := RX5) (T := TX5) (N := 5) hx hb hts (by decide +kernel) hown hK hP 0 rfl rfl 2 (by decide) (hts (.fieldLink RX5 30 "JoinDesk" "cursor" "LJoinDesk$Cursor;") (by decide +kernel)) (fun _ h9 => h9) rfl dX5_pair_35 ?_
    refine vp_callSi (va_Run.run (va_runV (As := []) (rest := []) ⟨hx, hb, hml, hown, hts⟩ (gC_rightPlace l D cI cL cQ cu tl tr he ma hm kd cc0 p0 p1 p2 p3 p4 p5 p6) (cwV 0 hts gX5_pair_X0_rightPlace rfl rfl rfl (by decide +kernel) ⟨Nat.le_of_ble_eq_true rfl, Nat.le_of_ble_eq_true rfl⟩) (jr_V hK hN hP [1, 2] rfl 0 1 rfl rfl rfl) rfl rfl hl.1 rfl (lv_room (Nat.le_of_ble_eq_true rfl)) dX5_pair_38 ⟨Nat.le_of_ble_eq_true rfl, Nat.le_of_ble_eq_true rfl⟩)) (fun r f_10 => ?_)
    obtain er_11 := f_10
    subst r
    refine lv_goto (tgt := 45) hx hb dX5_pair_41 (by decide) ?_
    refine lv_istore_n (lv' := [(3, .int p5), (2, .int p4), (0, .ref h0), (1, .int 1)]) hx hb dX5_pair_45 rfl hl (by decide) rfl (fun ls hl => ?_)
    refine lv_iload_n hx hb dX5_pair_46 rfl (lv_at hl 3 rfl) ?_
    refine lv_tableIn (tgt := 107) hx hb dX5_pair_47 (by decide) (by decide) rfl (by decide) ?_
    refine lv_aload_n hx hb dX5_pair_107 rfl (lv_at hl 2 rfl) ?_
    refine va_get (D := D) (ci := 5) (v := .ref tl) (C := RX5) (T := TX5) (N := 5) hx hb hts (by decide +kernel) hown hK hP 0 rfl rfl 0 (by decide) (hts (.fieldLink RX5 18 "JoinDesk" "left" "LJoinDesk$Table;") (by decide +kernel)) (fun _ h9 => h9) rfl dX5_pair_108 ?_
    refine lv_iload_n hx hb dX5_pair_111 rfl (lv_at hl 1 rfl) ?_
    refine vp_callSi (va_Run.run (va_runV (As := [.int p4]) (rest := []) ⟨hx, hb, hml, hown, hts⟩ (gT_valueAt l D cI cL cQ tl a n pl lk lv lo lp ll lf gv go p4 (by first | assumption | decide | omega) (by first | assumption | decide | omega) (by first | assumption | decide | omega)) (cwV 1 hts gX5_pair_X4_valueAt rfl rfl rfl (by decide +kernel) ⟨Nat.le_of_ble_eq_true rfl, Nat.le_of_ble_eq_true rfl⟩) (jr_V hK hN hP [3, 5, 6] rfl 4 3 rfl rfl rfl) rfl rfl hl.1 rfl (lv_room (Nat.le_of_ble_eq_true rfl)) dX5_pair_112 ⟨Nat.le_of_ble_eq_true rfl, Nat.le_of_ble_eq_true rfl⟩)) (fun r f_12 => ?_)
    obtain rfl := f_12
    exact W.iret (v := jat n gv go p4) hx hb hr (fun t ht hW => ⟨(jat n gv go p4), rfl, rfl, ht⟩) (fun _ h => nomatch h) dX5_pair_115
  · exact False.elim (by revert f_4; decide)
set_option maxHeartbeats 1000000 in
set_option maxRecDepth 100000 in
theorem gJ_pair_12 (l : Launch) (D : va_G) (cI cL cQ : ClassId) (h0 : Nat) (tl : Nat) (tr : Nat) (cu : Nat) (bk : Nat) (he : Nat) (ma : Nat) (hm : Int32) (kd : Int32) (cc0 : Int64) (p0 : Int32) (p1 : Int32) (p2 : Int32) (p3 : Int32) (p4 : Int32) (p5 : Int32) (p6 : Int32) (a : Nat) (n : Nat) (pl : Nat) (a2 : Nat) (n2 : Nat) (pl2 : Nat) (lk : Nat) (lv : Nat) (lo : Nat) (lp : Nat) (ll : Nat) (lf : Nat) (rk : Nat) (rv : Nat) (ro : Nat) (rp : Nat) (rl : Nat) (rf : Nat) (gk : Nat → Int32) (gv : Nat → Int32) (go : Nat → Int32) (hk : Nat → Int32) (hv : Nat → Int32) (ho_ : Nat → Int32) (ha : a ≤ 400) (hn : n ≤ a) (hol : jord a go) (ha2 : a2 ≤ 400) (hn2 : n2 ≤ a2) (hor : jord a2 ho_) : Met l yX5_pair wsX5_pair ({ frames := 2, cells := 0, slots := 0, locals := 42 }) (jr_P D vwCl (jT cI cL cQ) cL cQ [.ref h0, .int 2] [(h0, .inr (5, [.ref tl, .ref tr, .ref cu, .ref bk, .int 1])), (cu, .inr (0, [.ref tl, .ref tr, .ref he, .ref ma, .int hm, .int kd, .long cc0])), (he, .inr (2, [.int p0, .int p1, .int p2, .int p3, .int p4, .int p5, .int p6])), (tl, .inr (4, [.int (nI a), .ref lk, .ref lv, .ref lo, .ref lp, .ref ll, .ref lf, .int (nI n), .int (nI pl)])), (lk, .inl (cI, a, .inl gk)), (lv, .inl (cI, a, .inl gv)), (lo, .inl (cI, a, .inl go)), (tr, .inr (4, [.int (nI a2), .ref rk, .ref rv, .ref ro, .ref rp, .ref rl, .ref rf, .int (nI n2), .int (nI pl2)])), (rk, .inl (cI, a2, .inl hk)), (rv, .inl (cI, a2, .inl hv)), (ro, .inl (cI, a2, .inl ho_))]) (vp_Si (fun r : Int32 => r = jat n2 hv ho_ p5)) 0 0 (fun _ => False) := by
  refine Met.ofW (cc := cX5_pair) (maxL := 4) (ret := (some .int)) (by decide) rfl ?_
  intro p e s m args below meth c s₁ B hml hv
  obtain ⟨rfl, hP, hK, hN⟩ := hv
  have hx := B.exec
  have hb := B.bytes
  have hr := B.returns
  have hts := atoms_spec (ws := wsX5_pair) B.pre
  have hown : s.vm.findClass RX5 = some m.cls := findClass_of_methodNamed B.named
  have hlocks := B.notSynchronized
  have hl := lv_entry ([.ref h0, .int 2]) (n := 4) (Nat.le_of_ble_eq_true rfl)
  rw [lg_entry_eq]
  generalize (lg_sl ([.ref h0, .int 2]) ++ List.replicate (4 - (lg_sl ([.ref h0, .int 2])).length) Slot.unset).toArray = ls at hl ⊢
  have hl : lv_has ls 4 [(0, .ref h0), (1, .int 2)] := hl
  refine lv_iload_n hx hb dX5_pair_0 rfl (lv_at hl 1 rfl) ?_
  refine lv_iconst (v := 5) hx hb dX5_pair_1 (by decide) ?_
  refine vp_callSi (va_Run.run (va_runS (As := [.int 2, .int 5]) (rest := []) ⟨hx, hb, hml, hown, hts⟩ (gJ_isBelow l D cI cL cQ 2 5) (va_cwS 2 hts gX5_pair_X5_isBelow rfl rfl rfl (by decide +kernel) ⟨Nat.le_of_ble_eq_true rfl, Nat.le_of_ble_eq_true rfl⟩) (jr_S hK hN hP [] rfl) rfl rfl hl.1 rfl (lv_room (Nat.le_of_ble_eq_true rfl)) dX5_pair_2 ⟨Nat.le_of_ble_eq_true rfl, Nat.le_of_ble_eq_true rfl⟩)) (fun r f_1 => ?_)
  rcases f_1 with ⟨rfl, f_2, f_3⟩ | ⟨rfl, f_4⟩
  · refine va_csv (va_Run.run (va_runS (As := [.int 1]) (rest := []) ⟨hx, hb, hml, hown, hts⟩ (gJ_requireArgument_ok l D cI cL cQ) (va_cwS 1 hts gX5_pair_X5_requireArgument rfl rfl rfl (by decide +kernel) ⟨Nat.le_of_ble_eq_true rfl, Nat.le_of_ble_eq_true rfl⟩) (jr_S hK hN hP [] rfl) rfl rfl hl.1 rfl (lv_room (Nat.le_of_ble_eq_true rfl)) dX5_pair_5 ⟨Nat.le_of_ble_eq_true rfl, Nat.le_of_ble_eq_true rfl⟩)) (fun f_5 => ?_)
    refine lv_aload_n hx hb dX5_pair_8 rfl (lv_at hl 0 rfl) ?_
    refine va_get (D := D) (ci := 5) (v := .int 1) (C := RX5) (T := TX5) (N := 5) hx hb hts (by decide +kernel) hown hK hP 0 rfl rfl 4 (by decide) (hts (.fieldLink RX5 41 "JoinDesk" "prepared" "Z") (by decide +kernel)) (fun _ h9 => h9) rfl dX5_pair_9 ?_
    refine lv_if_eq (tgt := 25) hx hb dX5_pair_12 (by decide) (fun c_6 => absurd c_6 (by decide)) (fun c_6 => ?_)
    refine lv_aload_n hx hb dX5_pair_15 rfl (lv_at hl 0 rfl) ?_
    refine va_get (D := D) (ci := 5) (v := .ref cu) (C := RX5) (T := TX5) (N := 5) hx hb hts (by decide +kernel) hown hK hP 0 rfl rfl 2 (by decide) (hts (.fieldLink RX5 30 "JoinDesk" "cursor" "LJoinDesk$Cursor;") (by decide +kernel)) (fun _ h9 => h9) rfl dX5_pair_16 ?_
    refine vp_callSi (va_Run.run (va_runV (As := []) (rest := []) ⟨hx, hb, hml, hown, hts⟩ (gC_leftPlace l D cI cL cQ cu tl tr he ma hm kd cc0 p0 p1 p2 p3 p4 p5 p6) (cwV 0 hts gX5_pair_X0_leftPlace rfl rfl rfl (by decide +kernel) ⟨Nat.le_of_ble_eq_true rfl, Nat.le_of_ble_eq_true rfl⟩) (jr_V hK hN hP [1, 2] rfl 0 1 rfl rfl rfl) rfl rfl hl.1 rfl (lv_room (Nat.le_of_ble_eq_true rfl)) dX5_pair_19 ⟨Nat.le_of_ble_eq_true rfl, Nat.le_of_ble_eq_true rfl⟩)) (fun r f_7 => ?_)
    obtain er_8 := f_7
    subst r
    refine lv_goto (tgt := 26) hx hb dX5_pair_22 (by decide) ?_
    refine lv_istore_n (lv' := [(2, .int p4), (0, .ref h0), (1, .int 2)]) hx hb dX5_pair_26 rfl hl (by decide) rfl (fun ls hl => ?_)
    refine lv_aload_n hx hb dX5_pair_27 rfl (lv_at hl 1 rfl) ?_
    refine va_get (D := D) (ci := 5) (v := .int 1) (C := RX5) (T := TX5) (N := 5) hx hb hts (by decide +kernel) hown hK hP 0 rfl rfl 4 (by decide) (hts (.fieldLink RX5 41 "JoinDesk" "prepared" "Z") (by decide +kernel)) (fun _ h9 => h9) rfl dX5_pair_28 ?_
    refine lv_if_eq (tgt := 44) hx hb dX5_pair_31 (by decide) (fun c_9 => absurd c_9 (by decide)) (fun c_9 => ?_)
    refine lv_aload_n hx hb dX5_pair_34 rfl (lv_at hl 1 rfl) ?_
    refine va_get (D := D) (ci := 5) (v := .ref cu) (C := RX5) (T := TX5) (N := 5) hx hb hts (by decide +kernel) hown hK hP 0 rfl rfl 2 (by decide) (hts (.fieldLink RX5 30 "JoinDesk" "cursor" "LJoinDesk$Cursor;") (by decide +kernel)) (fun _ h9 => h9) rfl dX5_pair_35 ?_
    refine vp_callSi (va_Run.run (va_runV (As := []) (rest := []) ⟨hx, hb, hml, hown, hts⟩ (gC_rightPlace l D cI cL cQ cu tl tr he ma hm kd cc0 p0 p1 p2 p3 p4 p5 p6) (cwV 0 hts gX5_pair_X0_rightPlace rfl rfl rfl (by decide +kernel) ⟨Nat.le_of_ble_eq_true rfl, Nat.le_of_ble_eq_true rfl⟩) (jr_V hK hN hP [1, 2] rfl 0 1 rfl rfl rfl) rfl rfl hl.1 rfl (lv_room (Nat.le_of_ble_eq_true rfl)) dX5_pair_38 ⟨Nat.le_of_ble_eq_true rfl, Nat.le_of_ble_eq_true rfl⟩)) (fun r f_10 => ?_)
    obtain er_11 := f_10
    subst r
    refine lv_goto (tgt := 45) hx hb dX5_pair_41 (by decide) ?_
    refine lv_istore_n (lv' := [(3, .int p5), (2, .int p4), (0, .ref h0), (1, .int 2)]) hx hb dX5_pair_45 rfl hl (by decide) rfl (fun ls hl => ?_)
    refine lv_iload_n hx hb dX5_pair_46 rfl (lv_at hl 3 rfl) ?_
    refine lv_tableIn (tgt := 116) hx hb dX5_pair_47 (by decide) (by decide) rfl (by decide) ?_
    refine lv_aload_n hx hb dX5_pair_116 rfl (lv_at hl 2 rfl) ?_
    refine va_get (D := D) (ci := 5) (v := .ref tr) (C := RX5) (T := TX5) (N := 5) hx hb hts (by decide +kernel) hown hK hP 0 rfl rfl 1 (by decide) (hts (.fieldLink RX5 22 "JoinDesk" "right" "LJoinDesk$Table;") (by decide +kernel)) (fun _ h9 => h9) rfl dX5_pair_117 ?_
    refine lv_iload_n hx hb dX5_pair_120 rfl (lv_at hl 0 rfl) ?_
    refine vp_callSi (va_Run.run (va_runV (As := [.int p5]) (rest := []) ⟨hx, hb, hml, hown, hts⟩ (gT_valueAt l D cI cL cQ tr a2 n2 pl2 rk rv ro rp rl rf hv ho_ p5 (by first | assumption | decide | omega) (by first | assumption | decide | omega) (by first | assumption | decide | omega)) (cwV 1 hts gX5_pair_X4_valueAt rfl rfl rfl (by decide +kernel) ⟨Nat.le_of_ble_eq_true rfl, Nat.le_of_ble_eq_true rfl⟩) (jr_V hK hN hP [7, 9, 10] rfl 4 7 rfl rfl rfl) rfl rfl hl.1 rfl (lv_room (Nat.le_of_ble_eq_true rfl)) dX5_pair_121 ⟨Nat.le_of_ble_eq_true rfl, Nat.le_of_ble_eq_true rfl⟩)) (fun r f_12 => ?_)
    obtain rfl := f_12
    exact W.iret (v := jat n2 hv ho_ p5) hx hb hr (fun t ht hW => ⟨(jat n2 hv ho_ p5), rfl, rfl, ht⟩) (fun _ h => nomatch h) dX5_pair_124
  · exact False.elim (by revert f_4; decide)
set_option maxHeartbeats 1000000 in
set_option maxRecDepth 100000 in
theorem gJ_pair_13 (l : Launch) (D : va_G) (cI cL cQ : ClassId) (h0 : Nat) (tl : Nat) (tr : Nat) (cu : Nat) (bk : Nat) (he : Nat) (ma : Nat) (hm : Int32) (kd : Int32) (cc0 : Int64) (p0 : Int32) (p1 : Int32) (p2 : Int32) (p3 : Int32) (p4 : Int32) (p5 : Int32) (p6 : Int32) (a : Nat) (n : Nat) (pl : Nat) (a2 : Nat) (n2 : Nat) (pl2 : Nat) (lk : Nat) (lv : Nat) (lo : Nat) (lp : Nat) (ll : Nat) (lf : Nat) (rk : Nat) (rv : Nat) (ro : Nat) (rp : Nat) (rl : Nat) (rf : Nat) (gk : Nat → Int32) (gv : Nat → Int32) (go : Nat → Int32) (hk : Nat → Int32) (hv : Nat → Int32) (ho_ : Nat → Int32) (ha : a ≤ 400) (hn : n ≤ a) (hol : jord a go) (ha2 : a2 ≤ 400) (hn2 : n2 ≤ a2) (hor : jord a2 ho_) : Met l yX5_pair wsX5_pair ({ frames := 2, cells := 0, slots := 0, locals := 42 }) (jr_P D vwCl (jT cI cL cQ) cL cQ [.ref h0, .int 3] [(h0, .inr (5, [.ref tl, .ref tr, .ref cu, .ref bk, .int 1])), (cu, .inr (0, [.ref tl, .ref tr, .ref he, .ref ma, .int hm, .int kd, .long cc0])), (he, .inr (2, [.int p0, .int p1, .int p2, .int p3, .int p4, .int p5, .int p6])), (tl, .inr (4, [.int (nI a), .ref lk, .ref lv, .ref lo, .ref lp, .ref ll, .ref lf, .int (nI n), .int (nI pl)])), (lk, .inl (cI, a, .inl gk)), (lv, .inl (cI, a, .inl gv)), (lo, .inl (cI, a, .inl go)), (tr, .inr (4, [.int (nI a2), .ref rk, .ref rv, .ref ro, .ref rp, .ref rl, .ref rf, .int (nI n2), .int (nI pl2)])), (rk, .inl (cI, a2, .inl hk)), (rv, .inl (cI, a2, .inl hv)), (ro, .inl (cI, a2, .inl ho_))]) (vp_Si (fun r : Int32 => r = jnum n go p4)) 0 0 (fun _ => False) := by
  refine Met.ofW (cc := cX5_pair) (maxL := 4) (ret := (some .int)) (by decide) rfl ?_
  intro p e s m args below meth c s₁ B hml hv
  obtain ⟨rfl, hP, hK, hN⟩ := hv
  have hx := B.exec
  have hb := B.bytes
  have hr := B.returns
  have hts := atoms_spec (ws := wsX5_pair) B.pre
  have hown : s.vm.findClass RX5 = some m.cls := findClass_of_methodNamed B.named
  have hlocks := B.notSynchronized
  have hl := lv_entry ([.ref h0, .int 3]) (n := 4) (Nat.le_of_ble_eq_true rfl)
  rw [lg_entry_eq]
  generalize (lg_sl ([.ref h0, .int 3]) ++ List.replicate (4 - (lg_sl ([.ref h0, .int 3])).length) Slot.unset).toArray = ls at hl ⊢
  have hl : lv_has ls 4 [(0, .ref h0), (1, .int 3)] := hl
  refine lv_iload_n hx hb dX5_pair_0 rfl (lv_at hl 1 rfl) ?_
  refine lv_iconst (v := 5) hx hb dX5_pair_1 (by decide) ?_
  refine vp_callSi (va_Run.run (va_runS (As := [.int 3, .int 5]) (rest := []) ⟨hx, hb, hml, hown, hts⟩ (gJ_isBelow l D cI cL cQ 3 5) (va_cwS 2 hts gX5_pair_X5_isBelow rfl rfl rfl (by decide +kernel) ⟨Nat.le_of_ble_eq_true rfl, Nat.le_of_ble_eq_true rfl⟩) (jr_S hK hN hP [] rfl) rfl rfl hl.1 rfl (lv_room (Nat.le_of_ble_eq_true rfl)) dX5_pair_2 ⟨Nat.le_of_ble_eq_true rfl, Nat.le_of_ble_eq_true rfl⟩)) (fun r f_1 => ?_)
  rcases f_1 with ⟨rfl, f_2, f_3⟩ | ⟨rfl, f_4⟩
  · refine va_csv (va_Run.run (va_runS (As := [.int 1]) (rest := []) ⟨hx, hb, hml, hown, hts⟩ (gJ_requireArgument_ok l D cI cL cQ) (va_cwS 1 hts gX5_pair_X5_requireArgument rfl rfl rfl (by decide +kernel) ⟨Nat.le_of_ble_eq_true rfl, Nat.le_of_ble_eq_true rfl⟩) (jr_S hK hN hP [] rfl) rfl rfl hl.1 rfl (lv_room (Nat.le_of_ble_eq_true rfl)) dX5_pair_5 ⟨Nat.le_of_ble_eq_true rfl, Nat.le_of_ble_eq_true rfl⟩)) (fun f_5 => ?_)
    refine lv_aload_n hx hb dX5_pair_8 rfl (lv_at hl 0 rfl) ?_
    refine va_get (D := D) (ci := 5) (v := .int 1) (C := RX5) (T := TX5) (N := 5) hx hb hts (by decide +kernel) hown hK hP 0 rfl rfl 4 (by decide) (hts (.fieldLink RX5 41 "JoinDesk" "prepared" "Z") (by decide +kernel)) (fun _ h9 => h9) rfl dX5_pair_9 ?_
    refine lv_if_eq (tgt := 25) hx hb dX5_pair_12 (by decide) (fun c_6 => absurd c_6 (by decide)) (fun c_6 => ?_)
    refine lv_aload_n hx hb dX5_pair_15 rfl (lv_at hl 0 rfl) ?_
    refine va_get (D := D) (ci := 5) (v := .ref cu) (C := RX5) (T := TX5) (N := 5) hx hb hts (by decide +kernel) hown hK hP 0 rfl rfl 2 (by decide) (hts (.fieldLink RX5 30 "JoinDesk" "cursor" "LJoinDesk$Cursor;") (by decide +kernel)) (fun _ h9 => h9) rfl dX5_pair_16 ?_
    refine vp_callSi (va_Run.run (va_runV (As := []) (rest := []) ⟨hx, hb, hml, hown, hts⟩ (gC_leftPlace l D cI cL cQ cu tl tr he ma hm kd cc0 p0 p1 p2 p3 p4 p5 p6) (cwV 0 hts gX5_pair_X0_leftPlace rfl rfl rfl (by decide +kernel) ⟨Nat.le_of_ble_eq_true rfl, Nat.le_of_ble_eq_true rfl⟩) (jr_V hK hN hP [1, 2] rfl 0 1 rfl rfl rfl) rfl rfl hl.1 rfl (lv_room (Nat.le_of_ble_eq_true rfl)) dX5_pair_19 ⟨Nat.le_of_ble_eq_true rfl, Nat.le_of_ble_eq_true rfl⟩)) (fun r f_7 => ?_)
    obtain er_8 := f_7
    subst r
    refine lv_goto (tgt := 26) hx hb dX5_pair_22 (by decide) ?_
    refine lv_istore_n (lv' := [(2, .int p4), (0, .ref h0), (1, .int 3)]) hx hb dX5_pair_26 rfl hl (by decide) rfl (fun ls hl => ?_)
    refine lv_aload_n hx hb dX5_pair_27 rfl (lv_at hl 1 rfl) ?_
    refine va_get (D := D) (ci := 5) (v := .int 1) (C := RX5) (T := TX5) (N := 5) hx hb hts (by decide +kernel) hown hK hP 0 rfl rfl 4 (by decide) (hts (.fieldLink RX5 41 "JoinDesk" "prepared" "Z") (by decide +kernel)) (fun _ h9 => h9) rfl dX5_pair_28 ?_
    refine lv_if_eq (tgt := 44) hx hb dX5_pair_31 (by decide) (fun c_9 => absurd c_9 (by decide)) (fun c_9 => ?_)
    refine lv_aload_n hx hb dX5_pair_34 rfl (lv_at hl 1 rfl) ?_
    refine va_get (D := D) (ci := 5) (v := .ref cu) (C := RX5) (T := TX5) (N := 5) hx hb hts (by decide +kernel) hown hK hP 0 rfl rfl 2 (by decide) (hts (.fieldLink RX5 30 "JoinDesk" "cursor" "LJoinDesk$Cursor;") (by decide +kernel)) (fun _ h9 => h9) rfl dX5_pair_35 ?_
    refine vp_callSi (va_Run.run (va_runV (As := []) (rest := []) ⟨hx, hb, hml, hown, hts⟩ (gC_rightPlace l D cI cL cQ cu tl tr he ma hm kd cc0 p0 p1 p2 p3 p4 p5 p6) (cwV 0 hts gX5_pair_X0_rightPlace rfl rfl rfl (by decide +kernel) ⟨Nat.le_of_ble_eq_true rfl, Nat.le_of_ble_eq_true rfl⟩) (jr_V hK hN hP [1, 2] rfl 0 1 rfl rfl rfl) rfl rfl hl.1 rfl (lv_room (Nat.le_of_ble_eq_true rfl)) dX5_pair_38 ⟨Nat.le_of_ble_eq_true rfl, Nat.le_of_ble_eq_true rfl⟩)) (fun r f_10 => ?_)
    obtain er_11 := f_10
    subst r
    refine lv_goto (tgt := 45) hx hb dX5_pair_41 (by decide) ?_
    refine lv_istore_n (lv' := [(3, .int p5), (2, .int p4), (0, .ref h0), (1, .int 3)]) hx hb dX5_pair_45 rfl hl (by decide) rfl (fun ls hl => ?_)
    refine lv_iload_n hx hb dX5_pair_46 rfl (lv_at hl 3 rfl) ?_
    refine lv_tableIn (tgt := 125) hx hb dX5_pair_47 (by decide) (by decide) rfl (by decide) ?_
    refine lv_aload_n hx hb dX5_pair_125 rfl (lv_at hl 2 rfl) ?_
    refine va_get (D := D) (ci := 5) (v := .ref tl) (C := RX5) (T := TX5) (N := 5) hx hb hts (by decide +kernel) hown hK hP 0 rfl rfl 0 (by decide) (hts (.fieldLink RX5 18 "JoinDesk" "left" "LJoinDesk$Table;") (by decide +kernel)) (fun _ h9 => h9) rfl dX5_pair_126 ?_
    refine lv_iload_n hx hb dX5_pair_129 rfl (lv_at hl 1 rfl) ?_
    refine vp_callSi (va_Run.run (va_runV (As := [.int p4]) (rest := []) ⟨hx, hb, hml, hown, hts⟩ (gT_numberAt l D cI cL cQ tl a n pl lk lv lo lp ll lf go p4 (by first | assumption | decide | omega) (by first | assumption | decide | omega)) (cwV 1 hts gX5_pair_X4_numberAt rfl rfl rfl (by decide +kernel) ⟨Nat.le_of_ble_eq_true rfl, Nat.le_of_ble_eq_true rfl⟩) (jr_V hK hN hP [3, 6] rfl 4 3 rfl rfl rfl) rfl rfl hl.1 rfl (lv_room (Nat.le_of_ble_eq_true rfl)) dX5_pair_130 ⟨Nat.le_of_ble_eq_true rfl, Nat.le_of_ble_eq_true rfl⟩)) (fun r f_12 => ?_)
    obtain rfl := f_12
    exact W.iret (v := jnum n go p4) hx hb hr (fun t ht hW => ⟨(jnum n go p4), rfl, rfl, ht⟩) (fun _ h => nomatch h) dX5_pair_133
  · exact False.elim (by revert f_4; decide)
set_option maxHeartbeats 1000000 in
set_option maxRecDepth 100000 in
theorem gJ_pair_14 (l : Launch) (D : va_G) (cI cL cQ : ClassId) (h0 : Nat) (tl : Nat) (tr : Nat) (cu : Nat) (bk : Nat) (he : Nat) (ma : Nat) (hm : Int32) (kd : Int32) (cc0 : Int64) (p0 : Int32) (p1 : Int32) (p2 : Int32) (p3 : Int32) (p4 : Int32) (p5 : Int32) (p6 : Int32) (a : Nat) (n : Nat) (pl : Nat) (a2 : Nat) (n2 : Nat) (pl2 : Nat) (lk : Nat) (lv : Nat) (lo : Nat) (lp : Nat) (ll : Nat) (lf : Nat) (rk : Nat) (rv : Nat) (ro : Nat) (rp : Nat) (rl : Nat) (rf : Nat) (gk : Nat → Int32) (gv : Nat → Int32) (go : Nat → Int32) (hk : Nat → Int32) (hv : Nat → Int32) (ho_ : Nat → Int32) (ha : a ≤ 400) (hn : n ≤ a) (hol : jord a go) (ha2 : a2 ≤ 400) (hn2 : n2 ≤ a2) (hor : jord a2 ho_) : Met l yX5_pair wsX5_pair ({ frames := 2, cells := 0, slots := 0, locals := 42 }) (jr_P D vwCl (jT cI cL cQ) cL cQ [.ref h0, .int 4] [(h0, .inr (5, [.ref tl, .ref tr, .ref cu, .ref bk, .int 1])), (cu, .inr (0, [.ref tl, .ref tr, .ref he, .ref ma, .int hm, .int kd, .long cc0])), (he, .inr (2, [.int p0, .int p1, .int p2, .int p3, .int p4, .int p5, .int p6])), (tl, .inr (4, [.int (nI a), .ref lk, .ref lv, .ref lo, .ref lp, .ref ll, .ref lf, .int (nI n), .int (nI pl)])), (lk, .inl (cI, a, .inl gk)), (lv, .inl (cI, a, .inl gv)), (lo, .inl (cI, a, .inl go)), (tr, .inr (4, [.int (nI a2), .ref rk, .ref rv, .ref ro, .ref rp, .ref rl, .ref rf, .int (nI n2), .int (nI pl2)])), (rk, .inl (cI, a2, .inl hk)), (rv, .inl (cI, a2, .inl hv)), (ro, .inl (cI, a2, .inl ho_))]) (vp_Si (fun r : Int32 => r = jnum n2 ho_ p5)) 0 0 (fun _ => False) := by
  refine Met.ofW (cc := cX5_pair) (maxL := 4) (ret := (some .int)) (by decide) rfl ?_
  intro p e s m args below meth c s₁ B hml hv
  obtain ⟨rfl, hP, hK, hN⟩ := hv
  have hx := B.exec
  have hb := B.bytes
  have hr := B.returns
  have hts := atoms_spec (ws := wsX5_pair) B.pre
  have hown : s.vm.findClass RX5 = some m.cls := findClass_of_methodNamed B.named
  have hlocks := B.notSynchronized
  have hl := lv_entry ([.ref h0, .int 4]) (n := 4) (Nat.le_of_ble_eq_true rfl)
  rw [lg_entry_eq]
  generalize (lg_sl ([.ref h0, .int 4]) ++ List.replicate (4 - (lg_sl ([.ref h0, .int 4])).length) Slot.unset).toArray = ls at hl ⊢
  have hl : lv_has ls 4 [(0, .ref h0), (1, .int 4)] := hl
  refine lv_iload_n hx hb dX5_pair_0 rfl (lv_at hl 1 rfl) ?_
  refine lv_iconst (v := 5) hx hb dX5_pair_1 (by decide) ?_
  refine vp_callSi (va_Run.run (va_runS (As := [.int 4, .int 5]) (rest := []) ⟨hx, hb, hml, hown, hts⟩ (gJ_isBelow l D cI cL cQ 4 5) (va_cwS 2 hts gX5_pair_X5_isBelow rfl rfl rfl (by decide +kernel) ⟨Nat.le_of_ble_eq_true rfl, Nat.le_of_ble_eq_true rfl⟩) (jr_S hK hN hP [] rfl) rfl rfl hl.1 rfl (lv_room (Nat.le_of_ble_eq_true rfl)) dX5_pair_2 ⟨Nat.le_of_ble_eq_true rfl, Nat.le_of_ble_eq_true rfl⟩)) (fun r f_1 => ?_)
  rcases f_1 with ⟨rfl, f_2, f_3⟩ | ⟨rfl, f_4⟩
  · refine va_csv (va_Run.run (va_runS (As := [.int 1]) (rest := []) ⟨hx, hb, hml, hown, hts⟩ (gJ_requireArgument_ok l D cI cL cQ) (va_cwS 1 hts gX5_pair_X5_requireArgument rfl rfl rfl (by decide +kernel) ⟨Nat.le_of_ble_eq_true rfl, Nat.le_of_ble_eq_true rfl⟩) (jr_S hK hN hP [] rfl) rfl rfl hl.1 rfl (lv_room (Nat.le_of_ble_eq_true rfl)) dX5_pair_5 ⟨Nat.le_of_ble_eq_true rfl, Nat.le_of_ble_eq_true rfl⟩)) (fun f_5 => ?_)
    refine lv_aload_n hx hb dX5_pair_8 rfl (lv_at hl 0 rfl) ?_
    refine va_get (D := D) (ci := 5) (v := .int 1) (C := RX5) (T := TX5) (N := 5) hx hb hts (by decide +kernel) hown hK hP 0 rfl rfl 4 (by decide) (hts (.fieldLink RX5 41 "JoinDesk" "prepared" "Z") (by decide +kernel)) (fun _ h9 => h9) rfl dX5_pair_9 ?_
    refine lv_if_eq (tgt := 25) hx hb dX5_pair_12 (by decide) (fun c_6 => absurd c_6 (by decide)) (fun c_6 => ?_)
    refine lv_aload_n hx hb dX5_pair_15 rfl (lv_at hl 0 rfl) ?_
    refine va_get (D := D) (ci := 5) (v := .ref cu) (C := RX5) (T := TX5) (N := 5) hx hb hts (by decide +kernel) hown hK hP 0 rfl rfl 2 (by decide) (hts (.fieldLink RX5 30 "JoinDesk" "cursor" "LJoinDesk$Cursor;") (by decide +kernel)) (fun _ h9 => h9) rfl dX5_pair_16 ?_
    refine vp_callSi (va_Run.run (va_runV (As := []) (rest := []) ⟨hx, hb, hml, hown, hts⟩ (gC_leftPlace l D cI cL cQ cu tl tr he ma hm kd cc0 p0 p1 p2 p3 p4 p5 p6) (cwV 0 hts gX5_pair_X0_leftPlace rfl rfl rfl (by decide +kernel) ⟨Nat.le_of_ble_eq_true rfl, Nat.le_of_ble_eq_true rfl⟩) (jr_V hK hN hP [1, 2] rfl 0 1 rfl rfl rfl) rfl rfl hl.1 rfl (lv_room (Nat.le_of_ble_eq_true rfl)) dX5_pair_19 ⟨Nat.le_of_ble_eq_true rfl, Nat.le_of_ble_eq_true rfl⟩)) (fun r f_7 => ?_)
    obtain er_8 := f_7
    subst r
    refine lv_goto (tgt := 26) hx hb dX5_pair_22 (by decide) ?_
    refine lv_istore_n (lv' := [(2, .int p4), (0, .ref h0), (1, .int 4)]) hx hb dX5_pair_26 rfl hl (by decide) rfl (fun ls hl => ?_)
    refine lv_aload_n hx hb dX5_pair_27 rfl (lv_at hl 1 rfl) ?_
    refine va_get (D := D) (ci := 5) (v := .int 1) (C := RX5) (T := TX5) (N := 5) hx hb hts (by decide +kernel) hown hK hP 0 rfl rfl 4 (by decide) (hts (.fieldLink RX5 41 "JoinDesk" "prepared" "Z") (by decide +kernel)) (fun _ h9 => h9) rfl dX5_pair_28 ?_
    refine lv_if_eq (tgt := 44) hx hb dX5_pair_31 (by decide) (fun c_9 => absurd c_9 (by decide)) (fun c_9 => ?_)
    refine lv_aload_n hx hb dX5_pair_34 rfl (lv_at hl 1 rfl) ?_
    refine va_get (D := D) (ci := 5) (v := .ref cu) (C := RX5) (T := TX5) (N := 5) hx hb hts (by decide +kernel) hown hK hP 0 rfl rfl 2 (by decide) (hts (.fieldLink RX5 30 "JoinDesk" "cursor" "LJoinDesk$Cursor;") (by decide +kernel)) (fun _ h9 => h9) rfl dX5_pair_35 ?_
    refine vp_callSi (va_Run.run (va_runV (As := []) (rest := []) ⟨hx, hb, hml, hown, hts⟩ (gC_rightPlace l D cI cL cQ cu tl tr he ma hm kd cc0 p0 p1 p2 p3 p4 p5 p6) (cwV 0 hts gX5_pair_X0_rightPlace rfl rfl rfl (by decide +kernel) ⟨Nat.le_of_ble_eq_true rfl, Nat.le_of_ble_eq_true rfl⟩) (jr_V hK hN hP [1, 2] rfl 0 1 rfl rfl rfl) rfl rfl hl.1 rfl (lv_room (Nat.le_of_ble_eq_true rfl)) dX5_pair_38 ⟨Nat.le_of_ble_eq_true rfl, Nat.le_of_ble_eq_true rfl⟩)) (fun r f_10 => ?_)
    obtain er_11 := f_10
    subst r
    refine lv_goto (tgt := 45) hx hb dX5_pair_41 (by decide) ?_
    refine lv_istore_n (lv' := [(3, .int p5), (2, .int p4), (0, .ref h0), (1, .int 4)]) hx hb dX5_pair_45 rfl hl (by decide) rfl (fun ls hl => ?_)
    refine lv_iload_n hx hb dX5_pair_46 rfl (lv_at hl 3 rfl) ?_
    refine lv_tableOut (tgt := 134) hx hb dX5_pair_47 (by decide) (by decide) ?_
    refine lv_aload_n hx hb dX5_pair_134 rfl (lv_at hl 2 rfl) ?_
    refine va_get (D := D) (ci := 5) (v := .ref tr) (C := RX5) (T := TX5) (N := 5) hx hb hts (by decide +kernel) hown hK hP 0 rfl rfl 1 (by decide) (hts (.fieldLink RX5 22 "JoinDesk" "right" "LJoinDesk$Table;") (by decide +kernel)) (fun _ h9 => h9) rfl dX5_pair_135 ?_
    refine lv_iload_n hx hb dX5_pair_138 rfl (lv_at hl 0 rfl) ?_
    refine vp_callSi (va_Run.run (va_runV (As := [.int p5]) (rest := []) ⟨hx, hb, hml, hown, hts⟩ (gT_numberAt l D cI cL cQ tr a2 n2 pl2 rk rv ro rp rl rf ho_ p5 (by first | assumption | decide | omega) (by first | assumption | decide | omega)) (cwV 1 hts gX5_pair_X4_numberAt rfl rfl rfl (by decide +kernel) ⟨Nat.le_of_ble_eq_true rfl, Nat.le_of_ble_eq_true rfl⟩) (jr_V hK hN hP [7, 10] rfl 4 7 rfl rfl rfl) rfl rfl hl.1 rfl (lv_room (Nat.le_of_ble_eq_true rfl)) dX5_pair_139 ⟨Nat.le_of_ble_eq_true rfl, Nat.le_of_ble_eq_true rfl⟩)) (fun r f_12 => ?_)
    obtain rfl := f_12
    exact W.iret (v := jnum n2 ho_ p5) hx hb hr (fun t ht hW => ⟨(jnum n2 ho_ p5), rfl, rfl, ht⟩) (fun _ h => nomatch h) dX5_pair_142
  · exact False.elim (by revert f_4; decide)
set_option maxHeartbeats 1000000 in
set_option maxRecDepth 100000 in
theorem gJ_pair_00 (l : Launch) (D : va_G) (cI cL cQ : ClassId) (h0 : Nat) (tl : Nat) (tr : Nat) (cu : Nat) (bk : Nat) (he : Nat) (ma : Nat) (hm : Int32) (kd : Int32) (cc0 : Int64) (p0 : Int32) (p1 : Int32) (p2 : Int32) (p3 : Int32) (p4 : Int32) (p5 : Int32) (p6 : Int32) (a : Nat) (n : Nat) (pl : Nat) (a2 : Nat) (n2 : Nat) (pl2 : Nat) (lk : Nat) (lv : Nat) (lo : Nat) (lp : Nat) (ll : Nat) (lf : Nat) (rk : Nat) (rv : Nat) (ro : Nat) (rp : Nat) (rl : Nat) (rf : Nat) (gk : Nat → Int32) (gv : Nat → Int32) (go : Nat → Int32) (hk : Nat → Int32) (hv : Nat → Int32) (ho_ : Nat → Int32) (ha : a ≤ 400) (hn : n ≤ a) (hol : jord a go) (ha2 : a2 ≤ 400) (hn2 : n2 ≤ a2) (hor : jord a2 ho_) : Met l yX5_pair wsX5_pair ({ frames := 2, cells := 0, slots := 0, locals := 42 }) (jr_P D vwCl (jT cI cL cQ) cL cQ [.ref h0, .int 0] [(h0, .inr (5, [.ref tl, .ref tr, .ref cu, .ref bk, .int 0])), (cu, .inr (0, [.ref tl, .ref tr, .ref he, .ref ma, .int hm, .int kd, .long cc0])), (he, .inr (2, [.int p0, .int p1, .int p2, .int p3, .int p4, .int p5, .int p6])), (tl, .inr (4, [.int (nI a), .ref lk, .ref lv, .ref lo, .ref lp, .ref ll, .ref lf, .int (nI n), .int (nI pl)])), (lk, .inl (cI, a, .inl gk)), (lv, .inl (cI, a, .inl gv)), (lo, .inl (cI, a, .inl go)), (tr, .inr (4, [.int (nI a2), .ref rk, .ref rv, .ref ro, .ref rp, .ref rl, .ref rf, .int (nI n2), .int (nI pl2)])), (rk, .inl (cI, a2, .inl hk)), (rv, .inl (cI, a2, .inl hv)), (ro, .inl (cI, a2, .inl ho_))]) (vp_Si (fun r : Int32 => r = jpk n n2 gk go hk ho_ (-1) (-1))) 0 0 (fun _ => False) := by
  refine Met.ofW (cc := cX5_pair) (maxL := 4) (ret := (some .int)) (by decide) rfl ?_
  intro p e s m args below meth c s₁ B hml hv
  obtain ⟨rfl, hP, hK, hN⟩ := hv
  have hx := B.exec
  have hb := B.bytes
  have hr := B.returns
  have hts := atoms_spec (ws := wsX5_pair) B.pre
  have hown : s.vm.findClass RX5 = some m.cls := findClass_of_methodNamed B.named
  have hlocks := B.notSynchronized
  have hl := lv_entry ([.ref h0, .int 0]) (n := 4) (Nat.le_of_ble_eq_true rfl)
  rw [lg_entry_eq]
  generalize (lg_sl ([.ref h0, .int 0]) ++ List.replicate (4 - (lg_sl ([.ref h0, .int 0])).length) Slot.unset).toArray = ls at hl ⊢
  have hl : lv_has ls 4 [(0, .ref h0), (1, .int 0)] := hl
  refine lv_iload_n hx hb dX5_pair_0 rfl (lv_at hl 1 rfl) ?_
  refine lv_iconst (v := 5) hx hb dX5_pair_1 (by decide) ?_
  refine vp_callSi (va_Run.run (va_runS (As := [.int 0, .int 5]) (rest := []) ⟨hx, hb, hml, hown, hts⟩ (gJ_isBelow l D cI cL cQ 0 5) (va_cwS 2 hts gX5_pair_X5_isBelow rfl rfl rfl (by decide +kernel) ⟨Nat.le_of_ble_eq_true rfl, Nat.le_of_ble_eq_true rfl⟩) (jr_S hK hN hP [] rfl) rfl rfl hl.1 rfl (lv_room (Nat.le_of_ble_eq_true rfl)) dX5_pair_2 ⟨Nat.le_of_ble_eq_true rfl, Nat.le_of_ble_eq_true rfl⟩)) (fun r f_1 => ?_)
  rcases f_1 with ⟨rfl, f_2, f_3⟩ | ⟨rfl, f_4⟩
  · refine va_csv (va_Run.run (va_runS (As := [.int 1]) (rest := []) ⟨hx, hb, hml, hown, hts⟩ (gJ_requireArgument_ok l D cI cL cQ) (va_cwS 1 hts gX5_pair_X5_requireArgument rfl rfl rfl (by decide +kernel) ⟨Nat.le_of_ble_eq_true rfl, Nat.le_of_ble_eq_true rfl⟩) (jr_S hK hN hP [] rfl) rfl rfl hl.1 rfl (lv_room (Nat.le_of_ble_eq_true rfl)) dX5_pair_5 ⟨Nat.le_of_ble_eq_true rfl, Nat.le_of_ble_eq_true rfl⟩)) (fun f_5 => ?_)
    refine lv_aload_n hx hb dX5_pair_8 rfl (lv_at hl 0 rfl) ?_
    refine va_get (D := D) (ci := 5) (v := .int 0) (C := RX5) (T := TX5) (N := 5) hx hb hts (by decide +kernel) hown hK hP 0 rfl rfl 4 (by decide) (hts (.fieldLink RX5 41 "JoinDesk" "prepared" "Z") (by decide +kernel)) (fun _ h9 => h9) rfl dX5_pair_9 ?_
    refine lv_if_eq (tgt := 25) hx hb dX5_pair_12 (by decide) (fun c_6 => ?_) (fun c_6 => absurd c_6 (by decide))
    refine lv_iconst (v := (-1)) hx hb dX5_pair_25 (by decide) ?_
    refine lv_istore_n (lv' := [(2, .int (-1)), (0, .ref h0), (1, .int 0)]) hx hb dX5_pair_26 rfl hl (by decide) rfl (fun ls hl => ?_)
    refine lv_aload_n hx hb dX5_pair_27 rfl (lv_at hl 1 rfl) ?_
    refine va_get (D := D) (ci := 5) (v := .int 0) (C := RX5) (T := TX5) (N := 5) hx hb hts (by decide +kernel) hown hK hP 0 rfl rfl 4 (by decide) (hts (.fieldLink RX5 41 "JoinDesk" "prepared" "Z") (by decide +kernel)) (fun _ h9 => h9) rfl dX5_pair_28 ?_
    refine lv_if_eq (tgt := 44) hx hb dX5_pair_31 (by decide) (fun c_7 => ?_) (fun c_7 => absurd c_7 (by decide))
    refine lv_iconst (v := (-1)) hx hb dX5_pair_44 (by decide) ?_
    refine lv_istore_n (lv' := [(3, .int (-1)), (2, .int (-1)), (0, .ref h0), (1, .int 0)]) hx hb dX5_pair_45 rfl hl (by decide) rfl (fun ls hl => ?_)
    refine lv_iload_n hx hb dX5_pair_46 rfl (lv_at hl 3 rfl) ?_
    refine lv_tableIn (tgt := 76) hx hb dX5_pair_47 (by decide) (by decide) rfl (by decide) ?_
    refine lv_aload_n hx hb dX5_pair_76 rfl (lv_at hl 2 rfl) ?_
    refine va_get (D := D) (ci := 5) (v := .ref tl) (C := RX5) (T := TX5) (N := 5) hx hb hts (by decide +kernel) hown hK hP 0 rfl rfl 0 (by decide) (hts (.fieldLink RX5 18 "JoinDesk" "left" "LJoinDesk$Table;") (by decide +kernel)) (fun _ h9 => h9) rfl dX5_pair_77 ?_
    refine lv_iload_n hx hb dX5_pair_80 rfl (lv_at hl 1 rfl) ?_
    refine vp_callSi (va_Run.run (va_runV (As := [.int (-1)]) (rest := []) ⟨hx, hb, hml, hown, hts⟩ (gT_has l D cI cL cQ tl a n pl lk lv lo lp ll lf (-1)) (cwV 1 hts gX5_pair_X4_has rfl rfl rfl (by decide +kernel) ⟨Nat.le_of_ble_eq_true rfl, Nat.le_of_ble_eq_true rfl⟩) (jr_V hK hN hP [3] rfl 4 3 rfl rfl rfl) rfl rfl hl.1 rfl (lv_room (Nat.le_of_ble_eq_true rfl)) dX5_pair_81 ⟨Nat.le_of_ble_eq_true rfl, Nat.le_of_ble_eq_true rfl⟩)) (fun r f_8 => ?_)
    rcases f_8 with ⟨rfl, f_9, f_10⟩ | ⟨rfl, f_11⟩
    · refine lv_if_eq (tgt := 98) hx hb dX5_pair_84 (by decide) (fun c_12 => absurd c_12 (by decide)) (fun c_12 => ?_)
      refine lv_aload_n hx hb dX5_pair_87 rfl (lv_at hl 2 rfl) ?_
      refine va_get (D := D) (ci := 5) (v := .ref tl) (C := RX5) (T := TX5) (N := 5) hx hb hts (by decide +kernel) hown hK hP 0 rfl rfl 0 (by decide) (hts (.fieldLink RX5 18 "JoinDesk" "left" "LJoinDesk$Table;") (by decide +kernel)) (fun _ h9 => h9) rfl dX5_pair_88 ?_
      refine lv_iload_n hx hb dX5_pair_91 rfl (lv_at hl 1 rfl) ?_
      refine vp_callSi (va_Run.run (va_runV (As := [.int (-1)]) (rest := []) ⟨hx, hb, hml, hown, hts⟩ (gT_keyAt l D cI cL cQ tl a n pl lk lv lo lp ll lf gk go (-1) (by first | assumption | decide | omega) (by first | assumption | decide | omega) (by first | assumption | decide | omega)) (cwV 1 hts gX5_pair_X4_keyAt rfl rfl rfl (by decide +kernel) ⟨Nat.le_of_ble_eq_true rfl, Nat.le_of_ble_eq_true rfl⟩) (jr_V hK hN hP [3, 4, 6] rfl 4 3 rfl rfl rfl) rfl rfl hl.1 rfl (lv_room (Nat.le_of_ble_eq_true rfl)) dX5_pair_92 ⟨Nat.le_of_ble_eq_true rfl, Nat.le_of_ble_eq_true rfl⟩)) (fun r f_13 => ?_)
      obtain rfl := f_13
      refine lv_goto (tgt := 106) hx hb dX5_pair_95 (by decide) ?_
      exact W.iret (v := jat n gk go (-1)) hx hb hr (fun t ht hW => ⟨(jat n gk go (-1)), rfl, (by first | exact jpk_o (by assumption) | exact jpk_i (by assumption) (by assumption)), ht⟩) (fun _ h => nomatch h) dX5_pair_106
    · refine lv_if_eq (tgt := 98) hx hb dX5_pair_84 (by decide) (fun c_14 => ?_) (fun c_14 => absurd c_14 (by decide))
      refine lv_aload_n hx hb dX5_pair_98 rfl (lv_at hl 2 rfl) ?_
      refine va_get (D := D) (ci := 5) (v := .ref tr) (C := RX5) (T := TX5) (N := 5) hx hb hts (by decide +kernel) hown hK hP 0 rfl rfl 1 (by decide) (hts (.fieldLink RX5 22 "JoinDesk" "right" "LJoinDesk$Table;") (by decide +kernel)) (fun _ h9 => h9) rfl dX5_pair_99 ?_
      refine lv_iload_n hx hb dX5_pair_102 rfl (lv_at hl 0 rfl) ?_
      refine vp_callSi (va_Run.run (va_runV (As := [.int (-1)]) (rest := []) ⟨hx, hb, hml, hown, hts⟩ (gT_keyAt l D cI cL cQ tr a2 n2 pl2 rk rv ro rp rl rf hk ho_ (-1) (by first | assumption | decide | omega) (by first | assumption | decide | omega) (by first | assumption | decide | omega)) (cwV 1 hts gX5_pair_X4_keyAt rfl rfl rfl (by decide +kernel) ⟨Nat.le_of_ble_eq_true rfl, Nat.le_of_ble_eq_true rfl⟩) (jr_V hK hN hP [7, 8, 10] rfl 4 7 rfl rfl rfl) rfl rfl hl.1 rfl (lv_room (Nat.le_of_ble_eq_true rfl)) dX5_pair_103 ⟨Nat.le_of_ble_eq_true rfl, Nat.le_of_ble_eq_true rfl⟩)) (fun r f_15 => ?_)
      obtain rfl := f_15
      exact W.iret (v := jat n2 hk ho_ (-1)) hx hb hr (fun t ht hW => ⟨(jat n2 hk ho_ (-1)), rfl, (by first | exact jpk_o (by assumption) | exact jpk_i (by assumption) (by assumption)), ht⟩) (fun _ h => nomatch h) dX5_pair_106
  · exact False.elim (by revert f_4; decide)
set_option maxHeartbeats 1000000 in
set_option maxRecDepth 100000 in
theorem gJ_pair_01 (l : Launch) (D : va_G) (cI cL cQ : ClassId) (h0 : Nat) (tl : Nat) (tr : Nat) (cu : Nat) (bk : Nat) (he : Nat) (ma : Nat) (hm : Int32) (kd : Int32) (cc0 : Int64) (p0 : Int32) (p1 : Int32) (p2 : Int32) (p3 : Int32) (p4 : Int32) (p5 : Int32) (p6 : Int32) (a : Nat) (n : Nat) (pl : Nat) (a2 : Nat) (n2 : Nat) (pl2 : Nat) (lk : Nat) (lv : Nat) (lo : Nat) (lp : Nat) (ll : Nat) (lf : Nat) (rk : Nat) (rv : Nat) (ro : Nat) (rp : Nat) (rl : Nat) (rf : Nat) (gk : Nat → Int32) (gv : Nat → Int32) (go : Nat → Int32) (hk : Nat → Int32) (hv : Nat → Int32) (ho_ : Nat → Int32) (ha : a ≤ 400) (hn : n ≤ a) (hol : jord a go) (ha2 : a2 ≤ 400) (hn2 : n2 ≤ a2) (hor : jord a2 ho_) : Met l yX5_pair wsX5_pair ({ frames := 2, cells := 0, slots := 0, locals := 42 }) (jr_P D vwCl (jT cI cL cQ) cL cQ [.ref h0, .int 1] [(h0, .inr (5, [.ref tl, .ref tr, .ref cu, .ref bk, .int 0])), (cu, .inr (0, [.ref tl, .ref tr, .ref he, .ref ma, .int hm, .int kd, .long cc0])), (he, .inr (2, [.int p0, .int p1, .int p2, .int p3, .int p4, .int p5, .int p6])), (tl, .inr (4, [.int (nI a), .ref lk, .ref lv, .ref lo, .ref lp, .ref ll, .ref lf, .int (nI n), .int (nI pl)])), (lk, .inl (cI, a, .inl gk)), (lv, .inl (cI, a, .inl gv)), (lo, .inl (cI, a, .inl go)), (tr, .inr (4, [.int (nI a2), .ref rk, .ref rv, .ref ro, .ref rp, .ref rl, .ref rf, .int (nI n2), .int (nI pl2)])), (rk, .inl (cI, a2, .inl hk)), (rv, .inl (cI, a2, .inl hv)), (ro, .inl (cI, a2, .inl ho_))]) (vp_Si (fun r : Int32 => r = jat n gv go (-1))) 0 0 (fun _ => False) := by
  refine Met.ofW (cc := cX5_pair) (maxL := 4) (ret := (some .int)) (by decide) rfl ?_
  intro p e s m args below meth c s₁ B hml hv
  obtain ⟨rfl, hP, hK, hN⟩ := hv
  have hx := B.exec
  have hb := B.bytes
  have hr := B.returns
  have hts := atoms_spec (ws := wsX5_pair) B.pre
  have hown : s.vm.findClass RX5 = some m.cls := findClass_of_methodNamed B.named
  have hlocks := B.notSynchronized
  have hl := lv_entry ([.ref h0, .int 1]) (n := 4) (Nat.le_of_ble_eq_true rfl)
  rw [lg_entry_eq]
  generalize (lg_sl ([.ref h0, .int 1]) ++ List.replicate (4 - (lg_sl ([.ref h0, .int 1])).length) Slot.unset).toArray = ls at hl ⊢
  have hl : lv_has ls 4 [(0, .ref h0), (1, .int 1)] := hl
  refine lv_iload_n hx hb dX5_pair_0 rfl (lv_at hl 1 rfl) ?_
  refine lv_iconst (v := 5) hx hb dX5_pair_1 (by decide) ?_
  refine vp_callSi (va_Run.run (va_runS (As := [.int 1, .int 5]) (rest := []) ⟨hx, hb, hml, hown, hts⟩ (gJ_isBelow l D cI cL cQ 1 5) (va_cwS 2 hts gX5_pair_X5_isBelow rfl rfl rfl (by decide +kernel) ⟨Nat.le_of_ble_eq_true rfl, Nat.le_of_ble_eq_true rfl⟩) (jr_S hK hN hP [] rfl) rfl rfl hl.1 rfl (lv_room (Nat.le_of_ble_eq_true rfl)) dX5_pair_2 ⟨Nat.le_of_ble_eq_true rfl, Nat.le_of_ble_eq_true rfl⟩)) (fun r f_1 => ?_)
  rcases f_1 with ⟨rfl, f_2, f_3⟩ | ⟨rfl, f_4⟩
  · refine va_csv (va_Run.run (va_runS (As := [.int 1]) (rest := []) ⟨hx, hb, hml, hown, hts⟩ (gJ_requireArgument_ok l D cI cL cQ) (va_cwS 1 hts gX5_pair_X5_requireArgument rfl rfl rfl (by decide +kernel) ⟨Nat.le_of_ble_eq_true rfl, Nat.le_of_ble_eq_true rfl⟩) (jr_S hK hN hP [] rfl) rfl rfl hl.1 rfl (lv_room (Nat.le_of_ble_eq_true rfl)) dX5_pair_5 ⟨Nat.le_of_ble_eq_true rfl, Nat.le_of_ble_eq_true rfl⟩)) (fun f_5 => ?_)
    refine lv_aload_n hx hb dX5_pair_8 rfl (lv_at hl 0 rfl) ?_
    refine va_get (D := D) (ci := 5) (v := .int 0) (C := RX5) (T := TX5) (N := 5) hx hb hts (by decide +kernel) hown hK hP 0 rfl rfl 4 (by decide) (hts (.fieldLink RX5 41 "JoinDesk" "prepared" "Z") (by decide +kernel)) (fun _ h9 => h9) rfl dX5_pair_9 ?_
    refine lv_if_eq (tgt := 25) hx hb dX5_pair_12 (by decide) (fun c_6 => ?_) (fun c_6 => absurd c_6 (by decide))
    refine lv_iconst (v := (-1)) hx hb dX5_pair_25 (by decide) ?_
    refine lv_istore_n (lv' := [(2, .int (-1)), (0, .ref h0), (1, .int 1)]) hx hb dX5_pair_26 rfl hl (by decide) rfl (fun ls hl => ?_)
    refine lv_aload_n hx hb dX5_pair_27 rfl (lv_at hl 1 rfl) ?_
    refine va_get (D := D) (ci := 5) (v := .int 0) (C := RX5) (T := TX5) (N := 5) hx hb hts (by decide +kernel) hown hK hP 0 rfl rfl 4 (by decide) (hts (.fieldLink RX5 41 "JoinDesk" "prepared" "Z") (by decide +kernel)) (fun _ h9 => h9) rfl dX5_pair_28 ?_
    refine lv_if_eq (tgt := 44) hx hb dX5_pair_31 (by decide) (fun c_7 => ?_) (fun c_7 => absurd c_7 (by decide))
    refine lv_iconst (v := (-1)) hx hb dX5_pair_44 (by decide) ?_
    refine lv_istore_n (lv' := [(3, .int (-1)), (2, .int (-1)), (0, .ref h0), (1, .int 1)]) hx hb dX5_pair_45 rfl hl (by decide) rfl (fun ls hl => ?_)
    refine lv_iload_n hx hb dX5_pair_46 rfl (lv_at hl 3 rfl) ?_
    refine lv_tableIn (tgt := 107) hx hb dX5_pair_47 (by decide) (by decide) rfl (by decide) ?_
    refine lv_aload_n hx hb dX5_pair_107 rfl (lv_at hl 2 rfl) ?_
    refine va_get (D := D) (ci := 5) (v := .ref tl) (C := RX5) (T := TX5) (N := 5) hx hb hts (by decide +kernel) hown hK hP 0 rfl rfl 0 (by decide) (hts (.fieldLink RX5 18 "JoinDesk" "left" "LJoinDesk$Table;") (by decide +kernel)) (fun _ h9 => h9) rfl dX5_pair_108 ?_
    refine lv_iload_n hx hb dX5_pair_111 rfl (lv_at hl 1 rfl) ?_
    refine vp_callSi (va_Run.run (va_runV (As := [.int (-1)]) (rest := []) ⟨hx, hb, hml, hown, hts⟩ (gT_valueAt l D cI cL cQ tl a n pl lk lv lo lp ll lf gv go (-1) (by first | assumption | decide | omega) (by first | assumption | decide | omega) (by first | assumption | decide | omega)) (cwV 1 hts gX5_pair_X4_valueAt rfl rfl rfl (by decide +kernel) ⟨Nat.le_of_ble_eq_true rfl, Nat.le_of_ble_eq_true rfl⟩) (jr_V hK hN hP [3, 5, 6] rfl 4 3 rfl rfl rfl) rfl rfl hl.1 rfl (lv_room (Nat.le_of_ble_eq_true rfl)) dX5_pair_112 ⟨Nat.le_of_ble_eq_true rfl, Nat.le_of_ble_eq_true rfl⟩)) (fun r f_8 => ?_)
    obtain rfl := f_8
    exact W.iret (v := jat n gv go (-1)) hx hb hr (fun t ht hW => ⟨(jat n gv go (-1)), rfl, rfl, ht⟩) (fun _ h => nomatch h) dX5_pair_115
  · exact False.elim (by revert f_4; decide)
set_option maxHeartbeats 1000000 in
set_option maxRecDepth 100000 in
theorem gJ_pair_02 (l : Launch) (D : va_G) (cI cL cQ : ClassId) (h0 : Nat) (tl : Nat) (tr : Nat) (cu : Nat) (bk : Nat) (he : Nat) (ma : Nat) (hm : Int32) (kd : Int32) (cc0 : Int64) (p0 : Int32) (p1 : Int32) (p2 : Int32) (p3 : Int32) (p4 : Int32) (p5 : Int32) (p6 : Int32) (a : Nat) (n : Nat) (pl : Nat) (a2 : Nat) (n2 : Nat) (pl2 : Nat) (lk : Nat) (lv : Nat) (lo : Nat) (lp : Nat) (ll : Nat) (lf : Nat) (rk : Nat) (rv : Nat) (ro : Nat) (rp : Nat) (rl : Nat) (rf : Nat) (gk : Nat → Int32) (gv : Nat → Int32) (go : Nat → Int32) (hk : Nat → Int32) (hv : Nat → Int32) (ho_ : Nat → Int32) (ha : a ≤ 400) (hn : n ≤ a) (hol : jord a go) (ha2 : a2 ≤ 400) (hn2 : n2 ≤ a2) (hor : jord a2 ho_) : Met l yX5_pair wsX5_pair ({ frames := 2, cells := 0, slots := 0, locals := 42 }) (jr_P D vwCl (jT cI cL cQ) cL cQ [.ref h0, .int 2] [(h0, .inr (5, [.ref tl, .ref tr, .ref cu, .ref bk, .int 0])), (cu, .inr (0, [.ref tl, .ref tr, .ref he, .ref ma, .int hm, .int kd, .long cc0])), (he, .inr (2, [.int p0, .int p1, .int p2, .int p3, .int p4, .int p5, .int p6])), (tl, .inr (4, [.int (nI a), .ref lk, .ref lv, .ref lo, .ref lp, .ref ll, .ref lf, .int (nI n), .int (nI pl)])), (lk, .inl (cI, a, .inl gk)), (lv, .inl (cI, a, .inl gv)), (lo, .inl (cI, a, .inl go)), (tr, .inr (4, [.int (nI a2), .ref rk, .ref rv, .ref ro, .ref rp, .ref rl, .ref rf, .int (nI n2), .int (nI pl2)])), (rk, .inl (cI, a2, .inl hk)), (rv, .inl (cI, a2, .inl hv)), (ro, .inl (cI, a2, .inl ho_))]) (vp_Si (fun r : Int32 => r = jat n2 hv ho_ (-1))) 0 0 (fun _ => False) := by
  refine Met.ofW (cc := cX5_pair) (maxL := 4) (ret := (some .int)) (by decide) rfl ?_
  intro p e s m args below meth c s₁ B hml hv
  obtain ⟨rfl, hP, hK, hN⟩ := hv
  have hx := B.exec
  have hb := B.bytes
  have hr := B.returns
  have hts := atoms_spec (ws := wsX5_pair) B.pre
  have hown : s.vm.findClass RX5 = some m.cls := findClass_of_methodNamed B.named
  have hlocks := B.notSynchronized
  have hl := lv_entry ([.ref h0, .int 2]) (n := 4) (Nat.le_of_ble_eq_true rfl)
  rw [lg_entry_eq]
  generalize (lg_sl ([.ref h0, .int 2]) ++ List.replicate (4 - (lg_sl ([.ref h0, .int 2])).length) Slot.unset).toArray = ls at hl ⊢
  have hl : lv_has ls 4 [(0, .ref h0), (1, .int 2)] := hl
  refine lv_iload_n hx hb dX5_pair_0 rfl (lv_at hl 1 rfl) ?_
  refine lv_iconst (v := 5) hx hb dX5_pair_1 (by decide) ?_
  refine vp_callSi (va_Run.run (va_runS (As := [.int 2, .int 5]) (rest := []) ⟨hx, hb, hml, hown, hts⟩ (gJ_isBelow l D cI cL cQ 2 5) (va_cwS 2 hts gX5_pair_X5_isBelow rfl rfl rfl (by decide +kernel) ⟨Nat.le_of_ble_eq_true rfl, Nat.le_of_ble_eq_true rfl⟩) (jr_S hK hN hP [] rfl) rfl rfl hl.1 rfl (lv_room (Nat.le_of_ble_eq_true rfl)) dX5_pair_2 ⟨Nat.le_of_ble_eq_true rfl, Nat.le_of_ble_eq_true rfl⟩)) (fun r f_1 => ?_)
  rcases f_1 with ⟨rfl, f_2, f_3⟩ | ⟨rfl, f_4⟩
  · refine va_csv (va_Run.run (va_runS (As := [.int 1]) (rest := []) ⟨hx, hb, hml, hown, hts⟩ (gJ_requireArgument_ok l D cI cL cQ) (va_cwS 1 hts gX5_pair_X5_requireArgument rfl rfl rfl (by decide +kernel) ⟨Nat.le_of_ble_eq_true rfl, Nat.le_of_ble_eq_true rfl⟩) (jr_S hK hN hP [] rfl) rfl rfl hl.1 rfl (lv_room (Nat.le_of_ble_eq_true rfl)) dX5_pair_5 ⟨Nat.le_of_ble_eq_true rfl, Nat.le_of_ble_eq_true rfl⟩)) (fun f_5 => ?_)
    refine lv_aload_n hx hb dX5_pair_8 rfl (lv_at hl 0 rfl) ?_
    refine va_get (D := D) (ci := 5) (v := .int 0) (C := RX5) (T := TX5) (N := 5) hx hb hts (by decide +kernel) hown hK hP 0 rfl rfl 4 (by decide) (hts (.fieldLink RX5 41 "JoinDesk" "prepared" "Z") (by decide +kernel)) (fun _ h9 => h9) rfl dX5_pair_9 ?_
    refine lv_if_eq (tgt := 25) hx hb dX5_pair_12 (by decide) (fun c_6 => ?_) (fun c_6 => absurd c_6 (by decide))
    refine lv_iconst (v := (-1)) hx hb dX5_pair_25 (by decide) ?_
    refine lv_istore_n (lv' := [(2, .int (-1)), (0, .ref h0), (1, .int 2)]) hx hb dX5_pair_26 rfl hl (by decide) rfl (fun ls hl => ?_)
    refine lv_aload_n hx hb dX5_pair_27 rfl (lv_at hl 1 rfl) ?_
    refine va_get (D := D) (ci := 5) (v := .int 0) (C := RX5) (T := TX5) (N := 5) hx hb hts (by decide +kernel) hown hK hP 0 rfl rfl 4 (by decide) (hts (.fieldLink RX5 41 "JoinDesk" "prepared" "Z") (by decide +kernel)) (fun _ h9 => h9) rfl dX5_pair_28 ?_
    refine lv_if_eq (tgt := 44) hx hb dX5_pair_31 (by decide) (fun c_7 => ?_) (fun c_7 => absurd c_7 (by decide))
    refine lv_iconst (v := (-1)) hx hb dX5_pair_44 (by decide) ?_
    refine lv_istore_n (lv' := [(3, .int (-1)), (2, .int (-1)), (0, .ref h0), (1, .int 2)]) hx hb dX5_pair_45 rfl hl (by decide) rfl (fun ls hl => ?_)
    refine lv_iload_n hx hb dX5_pair_46 rfl (lv_at hl 3 rfl) ?_
    refine lv_tableIn (tgt := 116) hx hb dX5_pair_47 (by decide) (by decide) rfl (by decide) ?_
    refine lv_aload_n hx hb dX5_pair_116 rfl (lv_at hl 2 rfl) ?_
    refine va_get (D := D) (ci := 5) (v := .ref tr) (C := RX5) (T := TX5) (N := 5) hx hb hts (by decide +kernel) hown hK hP 0 rfl rfl 1 (by decide) (hts (.fieldLink RX5 22 "JoinDesk" "right" "LJoinDesk$Table;") (by decide +kernel)) (fun _ h9 => h9) rfl dX5_pair_117 ?_
    refine lv_iload_n hx hb dX5_pair_120 rfl (lv_at hl 0 rfl) ?_
    refine vp_callSi (va_Run.run (va_runV (As := [.int (-1)]) (rest := []) ⟨hx, hb, hml, hown, hts⟩ (gT_valueAt l D cI cL cQ tr a2 n2 pl2 rk rv ro rp rl rf hv ho_ (-1) (by first | assumption | decide | omega) (by first | assumption | decide | omega) (by first | assumption | decide | omega)) (cwV 1 hts gX5_pair_X4_valueAt rfl rfl rfl (by decide +kernel) ⟨Nat.le_of_ble_eq_true rfl, Nat.le_of_ble_eq_true rfl⟩) (jr_V hK hN hP [7, 9, 10] rfl 4 7 rfl rfl rfl) rfl rfl hl.1 rfl (lv_room (Nat.le_of_ble_eq_true rfl)) dX5_pair_121 ⟨Nat.le_of_ble_eq_true rfl, Nat.le_of_ble_eq_true rfl⟩)) (fun r f_8 => ?_)
    obtain rfl := f_8
    exact W.iret (v := jat n2 hv ho_ (-1)) hx hb hr (fun t ht hW => ⟨(jat n2 hv ho_ (-1)), rfl, rfl, ht⟩) (fun _ h => nomatch h) dX5_pair_124
  · exact False.elim (by revert f_4; decide)
set_option maxHeartbeats 1000000 in
set_option maxRecDepth 100000 in
theorem gJ_pair_03 (l : Launch) (D : va_G) (cI cL cQ : ClassId) (h0 : Nat) (tl : Nat) (tr : Nat) (cu : Nat) (bk : Nat) (he : Nat) (ma : Nat) (hm : Int32) (kd : Int32) (cc0 : Int64) (p0 : Int32) (p1 : Int32) (p2 : Int32) (p3 : Int32) (p4 : Int32) (p5 : Int32) (p6 : Int32) (a : Nat) (n : Nat) (pl : Nat) (a2 : Nat) (n2 : Nat) (pl2 : Nat) (lk : Nat) (lv : Nat) (lo : Nat) (lp : Nat) (ll : Nat) (lf : Nat) (rk : Nat) (rv : Nat) (ro : Nat) (rp : Nat) (rl : Nat) (rf : Nat) (gk : Nat → Int32) (gv : Nat → Int32) (go : Nat → Int32) (hk : Nat → Int32) (hv : Nat → Int32) (ho_ : Nat → Int32) (ha : a ≤ 400) (hn : n ≤ a) (hol : jord a go) (ha2 : a2 ≤ 400) (hn2 : n2 ≤ a2) (hor : jord a2 ho_) : Met l yX5_pair wsX5_pair ({ frames := 2, cells := 0, slots := 0, locals := 42 }) (jr_P D vwCl (jT cI cL cQ) cL cQ [.ref h0, .int 3] [(h0, .inr (5, [.ref tl, .ref tr, .ref cu, .ref bk, .int 0])), (cu, .inr (0, [.ref tl, .ref tr, .ref he, .ref ma, .int hm, .int kd, .long cc0])), (he, .inr (2, [.int p0, .int p1, .int p2, .int p3, .int p4, .int p5, .int p6])), (tl, .inr (4, [.int (nI a), .ref lk, .ref lv, .ref lo, .ref lp, .ref ll, .ref lf, .int (nI n), .int (nI pl)])), (lk, .inl (cI, a, .inl gk)), (lv, .inl (cI, a, .inl gv)), (lo, .inl (cI, a, .inl go)), (tr, .inr (4, [.int (nI a2), .ref rk, .ref rv, .ref ro, .ref rp, .ref rl, .ref rf, .int (nI n2), .int (nI pl2)])), (rk, .inl (cI, a2, .inl hk)), (rv, .inl (cI, a2, .inl hv)), (ro, .inl (cI, a2, .inl ho_))]) (vp_Si (fun r : Int32 => r = jnum n go (-1))) 0 0 (fun _ => False) := by
  refine Met.ofW (cc := cX5_pair) (maxL := 4) (ret := (some .int)) (by decide) rfl ?_
  intro p e s m args below meth c s₁ B hml hv
  obtain ⟨rfl, hP, hK, hN⟩ := hv
  have hx := B.exec
  have hb := B.bytes
  have hr := B.returns
  have hts := atoms_spec (ws := wsX5_pair) B.pre
  have hown : s.vm.findClass RX5 = some m.cls := findClass_of_methodNamed B.named
  have hlocks := B.notSynchronized
  have hl := lv_entry ([.ref h0, .int 3]) (n := 4) (Nat.le_of_ble_eq_true rfl)
  rw [lg_entry_eq]
  generalize (lg_sl ([.ref h0, .int 3]) ++ List.replicate (4 - (lg_sl ([.ref h0, .int 3])).length) Slot.unset).toArray = ls at hl ⊢
  have hl : lv_has ls 4 [(0, .ref h0), (1, .int 3)] := hl
  refine lv_iload_n hx hb dX5_pair_0 rfl (lv_at hl 1 rfl) ?_
  refine lv_iconst (v := 5) hx hb dX5_pair_1 (by decide) ?_
  refine vp_callSi (va_Run.run (va_runS (As := [.int 3, .int 5]) (rest := []) ⟨hx, hb, hml, hown, hts⟩ (gJ_isBelow l D cI cL cQ 3 5) (va_cwS 2 hts gX5_pair_X5_isBelow rfl rfl rfl (by decide +kernel) ⟨Nat.le_of_ble_eq_true rfl, Nat.le_of_ble_eq_true rfl⟩) (jr_S hK hN hP [] rfl) rfl rfl hl.1 rfl (lv_room (Nat.le_of_ble_eq_true rfl)) dX5_pair_2 ⟨Nat.le_of_ble_eq_true rfl, Nat.le_of_ble_eq_true rfl⟩)) (fun r f_1 => ?_)
  rcases f_1 with ⟨rfl, f_2, f_3⟩ | ⟨rfl, f_4⟩
  · refine va_csv (va_Run.run (va_runS (As := [.int 1]) (rest := []) ⟨hx, hb, hml, hown, hts⟩ (gJ_requireArgument_ok l D cI cL cQ) (va_cwS 1 hts gX5_pair_X5_requireArgument rfl rfl rfl (by decide +kernel) ⟨Nat.le_of_ble_eq_true rfl, Nat.le_of_ble_eq_true rfl⟩) (jr_S hK hN hP [] rfl) rfl rfl hl.1 rfl (lv_room (Nat.le_of_ble_eq_true rfl)) dX5_pair_5 ⟨Nat.le_of_ble_eq_true rfl, Nat.le_of_ble_eq_true rfl⟩)) (fun f_5 => ?_)
    refine lv_aload_n hx hb dX5_pair_8 rfl (lv_at hl 0 rfl) ?_
    refine va_get (D := D) (ci := 5) (v := .int 0) (C := RX5) (T := TX5) (N := 5) hx hb hts (by decide +kernel) hown hK hP 0 rfl rfl 4 (by decide) (hts (.fieldLink RX5 41 "JoinDesk" "prepared" "Z") (by decide +kernel)) (fun _ h9 => h9) rfl dX5_pair_9 ?_
    refine lv_if_eq (tgt := 25) hx hb dX5_pair_12 (by decide) (fun c_6 => ?_) (fun c_6 => absurd c_6 (by decide))
    refine lv_iconst (v := (-1)) hx hb dX5_pair_25 (by decide) ?_
    refine lv_istore_n (lv' := [(2, .int (-1)), (0, .ref h0), (1, .int 3)]) hx hb dX5_pair_26 rfl hl (by decide) rfl (fun ls hl => ?_)
    refine lv_aload_n hx hb dX5_pair_27 rfl (lv_at hl 1 rfl) ?_
    refine va_get (D := D) (ci := 5) (v := .int 0) (C := RX5) (T := TX5) (N := 5) hx hb hts (by decide +kernel) hown hK hP 0 rfl rfl 4 (by decide) (hts (.fieldLink RX5 41 "JoinDesk" "prepared" "Z") (by decide +kernel)) (fun _ h9 => h9) rfl dX5_pair_28 ?_
    refine lv_if_eq (tgt := 44) hx hb dX5_pair_31 (by decide) (fun c_7 => ?_) (fun c_7 => absurd c_7 (by decide))
    refine lv_iconst (v := (-1)) hx hb dX5_pair_44 (by decide) ?_
    refine lv_istore_n (lv' := [(3, .int (-1)), (2, .int (-1)), (0, .ref h0), (1, .int 3)]) hx hb dX5_pair_45 rfl hl (by decide) rfl (fun ls hl => ?_)
    refine lv_iload_n hx hb dX5_pair_46 rfl (lv_at hl 3 rfl) ?_
    refine lv_tableIn (tgt := 125) hx hb dX5_pair_47 (by decide) (by decide) rfl (by decide) ?_
    refine lv_aload_n hx hb dX5_pair_125 rfl (lv_at hl 2 rfl) ?_
    refine va_get (D := D) (ci := 5) (v := .ref tl) (C := RX5) (T := TX5) (N := 5) hx hb hts (by decide +kernel) hown hK hP 0 rfl rfl 0 (by decide) (hts (.fieldLink RX5 18 "JoinDesk" "left" "LJoinDesk$Table;") (by decide +kernel)) (fun _ h9 => h9) rfl dX5_pair_126 ?_
    refine lv_iload_n hx hb dX5_pair_129 rfl (lv_at hl 1 rfl) ?_
    refine vp_callSi (va_Run.run (va_runV (As := [.int (-1)]) (rest := []) ⟨hx, hb, hml, hown, hts⟩ (gT_numberAt l D cI cL cQ tl a n pl lk lv lo lp ll lf go (-1) (by first | assumption | decide | omega) (by first | assumption | decide | omega)) (cwV 1 hts gX5_pair_X4_numberAt rfl rfl rfl (by decide +kernel) ⟨Nat.le_of_ble_eq_true rfl, Nat.le_of_ble_eq_true rfl⟩) (jr_V hK hN hP [3, 6] rfl 4 3 rfl rfl rfl) rfl rfl hl.1 rfl (lv_room (Nat.le_of_ble_eq_true rfl)) dX5_pair_130 ⟨Nat.le_of_ble_eq_true rfl, Nat.le_of_ble_eq_true rfl⟩)) (fun r f_8 => ?_)
    obtain rfl := f_8
    exact W.iret (v := jnum n go (-1)) hx hb hr (fun t ht hW => ⟨(jnum n go (-1)), rfl, rfl, ht⟩) (fun _ h => nomatch h) dX5_pair_133
  · exact False.elim (by revert f_4; decide)
set_option maxHeartbeats 1000000 in
set_option maxRecDepth 100000 in
theorem gJ_pair_04 (l : Launch) (D : va_G) (cI cL cQ : ClassId) (h0 : Nat) (tl : Nat) (tr : Nat) (cu : Nat) (bk : Nat) (he : Nat) (ma : Nat) (hm : Int32) (kd : Int32) (cc0 : Int64) (p0 : Int32) (p1 : Int32) (p2 : Int32) (p3 : Int32) (p4 : Int32) (p5 : Int32) (p6 : Int32) (a : Nat) (n : Nat) (pl : Nat) (a2 : Nat) (n2 : Nat) (pl2 : Nat) (lk : Nat) (lv : Nat) (lo : Nat) (lp : Nat) (ll : Nat) (lf : Nat) (rk : Nat) (rv : Nat) (ro : Nat) (rp : Nat) (rl : Nat) (rf : Nat) (gk : Nat → Int32) (gv : Nat → Int32) (go : Nat → Int32) (hk : Nat → Int32) (hv : Nat → Int32) (ho_ : Nat → Int32) (ha : a ≤ 400) (hn : n ≤ a) (hol : jord a go) (ha2 : a2 ≤ 400) (hn2 : n2 ≤ a2) (hor : jord a2 ho_) : Met l yX5_pair wsX5_pair ({ frames := 2, cells := 0, slots := 0, locals := 42 }) (jr_P D vwCl (jT cI cL cQ) cL cQ [.ref h0, .int 4] [(h0, .inr (5, [.ref tl, .ref tr, .ref cu, .ref bk, .int 0])), (cu, .inr (0, [.ref tl, .ref tr, .ref he, .ref ma, .int hm, .int kd, .long cc0])), (he, .inr (2, [.int p0, .int p1, .int p2, .int p3, .int p4, .int p5, .int p6])), (tl, .inr (4, [.int (nI a), .ref lk, .ref lv, .ref lo, .ref lp, .ref ll, .ref lf, .int (nI n), .int (nI pl)])), (lk, .inl (cI, a, .inl gk)), (lv, .inl (cI, a, .inl gv)), (lo, .inl (cI, a, .inl go)), (tr, .inr (4, [.int (nI a2), .ref rk, .ref rv, .ref ro, .ref rp, .ref rl, .ref rf, .int (nI n2), .int (nI pl2)])), (rk, .inl (cI, a2, .inl hk)), (rv, .inl (cI, a2, .inl hv)), (ro, .inl (cI, a2, .inl ho_))]) (vp_Si (fun r : Int32 => r = jnum n2 ho_ (-1))) 0 0 (fun _ => False) := by
  refine Met.ofW (cc := cX5_pair) (maxL := 4) (ret := (some .int)) (by decide) rfl ?_
  intro p e s m args below meth c s₁ B hml hv
  obtain ⟨rfl, hP, hK, hN⟩ := hv
  have hx := B.exec
  have hb := B.bytes
  have hr := B.returns
  have hts := atoms_spec (ws := wsX5_pair) B.pre
  have hown : s.vm.findClass RX5 = some m.cls := findClass_of_methodNamed B.named
  have hlocks := B.notSynchronized
  have hl := lv_entry ([.ref h0, .int 4]) (n := 4) (Nat.le_of_ble_eq_true rfl)
  rw [lg_entry_eq]
  generalize (lg_sl ([.ref h0, .int 4]) ++ List.replicate (4 - (lg_sl ([.ref h0, .int 4])).length) Slot.unset).toArray = ls at hl ⊢
  have hl : lv_has ls 4 [(0, .ref h0), (1, .int 4)] := hl
  refine lv_iload_n hx hb dX5_pair_0 rfl (lv_at hl 1 rfl) ?_
  refine lv_iconst (v := 5) hx hb dX5_pair_1 (by decide) ?_
  refine vp_callSi (va_Run.run (va_runS (As := [.int 4, .int 5]) (rest := []) ⟨hx, hb, hml, hown, hts⟩ (gJ_isBelow l D cI cL cQ 4 5) (va_cwS 2 hts gX5_pair_X5_isBelow rfl rfl rfl (by decide +kernel) ⟨Nat.le_of_ble_eq_true rfl, Nat.le_of_ble_eq_true rfl⟩) (jr_S hK hN hP [] rfl) rfl rfl hl.1 rfl (lv_room (Nat.le_of_ble_eq_true rfl)) dX5_pair_2 ⟨Nat.le_of_ble_eq_true rfl, Nat.le_of_ble_eq_true rfl⟩)) (fun r f_1 => ?_)
  rcases f_1 with ⟨rfl, f_2, f_3⟩ | ⟨rfl, f_4⟩
  · refine va_csv (va_Run.run (va_runS (As := [.int 1]) (rest := []) ⟨hx, hb, hml, hown, hts⟩ (gJ_requireArgument_ok l D cI cL cQ) (va_cwS 1 hts gX5_pair_X5_requireArgument rfl rfl rfl (by decide +kernel) ⟨Nat.le_of_ble_eq_true rfl, Nat.le_of_ble_eq_true rfl⟩) (jr_S hK hN hP [] rfl) rfl rfl hl.1 rfl (lv_room (Nat.le_of_ble_eq_true rfl)) dX5_pair_5 ⟨Nat.le_of_ble_eq_true rfl, Nat.le_of_ble_eq_true rfl⟩)) (fun f_5 => ?_)
    refine lv_aload_n hx hb dX5_pair_8 rfl (lv_at hl 0 rfl) ?_
    refine va_get (D := D) (ci := 5) (v := .int 0) (C := RX5) (T := TX5) (N := 5) hx hb hts (by decide +kernel) hown hK hP 0 rfl rfl 4 (by decide) (hts (.fieldLink RX5 41 "JoinDesk" "prepared" "Z") (by decide +kernel)) (fun _ h9 => h9) rfl dX5_pair_9 ?_
    refine lv_if_eq (tgt := 25) hx hb dX5_pair_12 (by decide) (fun c_6 => ?_) (fun c_6 => absurd c_6 (by decide))
    refine lv_iconst (v := (-1)) hx hb dX5_pair_25 (by decide) ?_
    refine lv_istore_n (lv' := [(2, .int (-1)), (0, .ref h0), (1, .int 4)]) hx hb dX5_pair_26 rfl hl (by decide) rfl (fun ls hl => ?_)
    refine lv_aload_n hx hb dX5_pair_27 rfl (lv_at hl 1 rfl) ?_
    refine va_get (D := D) (ci := 5) (v := .int 0) (C := RX5) (T := TX5) (N := 5) hx hb hts (by decide +kernel) hown hK hP 0 rfl rfl 4 (by decide) (hts (.fieldLink RX5 41 "JoinDesk" "prepared" "Z") (by decide +kernel)) (fun _ h9 => h9) rfl dX5_pair_28 ?_
    refine lv_if_eq (tgt := 44) hx hb dX5_pair_31 (by decide) (fun c_7 => ?_) (fun c_7 => absurd c_7 (by decide))
    refine lv_iconst (v := (-1)) hx hb dX5_pair_44 (by decide) ?_
    refine lv_istore_n (lv' := [(3, .int (-1)), (2, .int (-1)), (0, .ref h0), (1, .int 4)]) hx hb dX5_pair_45 rfl hl (by decide) rfl (fun ls hl => ?_)
    refine lv_iload_n hx hb dX5_pair_46 rfl (lv_at hl 3 rfl) ?_
    refine lv_tableOut (tgt := 134) hx hb dX5_pair_47 (by decide) (by decide) ?_
    refine lv_aload_n hx hb dX5_pair_134 rfl (lv_at hl 2 rfl) ?_
    refine va_get (D := D) (ci := 5) (v := .ref tr) (C := RX5) (T := TX5) (N := 5) hx hb hts (by decide +kernel) hown hK hP 0 rfl rfl 1 (by decide) (hts (.fieldLink RX5 22 "JoinDesk" "right" "LJoinDesk$Table;") (by decide +kernel)) (fun _ h9 => h9) rfl dX5_pair_135 ?_
    refine lv_iload_n hx hb dX5_pair_138 rfl (lv_at hl 0 rfl) ?_
    refine vp_callSi (va_Run.run (va_runV (As := [.int (-1)]) (rest := []) ⟨hx, hb, hml, hown, hts⟩ (gT_numberAt l D cI cL cQ tr a2 n2 pl2 rk rv ro rp rl rf ho_ (-1) (by first | assumption | decide | omega) (by first | assumption | decide | omega)) (cwV 1 hts gX5_pair_X4_numberAt rfl rfl rfl (by decide +kernel) ⟨Nat.le_of_ble_eq_true rfl, Nat.le_of_ble_eq_true rfl⟩) (jr_V hK hN hP [7, 10] rfl 4 7 rfl rfl rfl) rfl rfl hl.1 rfl (lv_room (Nat.le_of_ble_eq_true rfl)) dX5_pair_139 ⟨Nat.le_of_ble_eq_true rfl, Nat.le_of_ble_eq_true rfl⟩)) (fun r f_8 => ?_)
    obtain rfl := f_8
    exact W.iret (v := jnum n2 ho_ (-1)) hx hb hr (fun t ht hW => ⟨(jnum n2 ho_ (-1)), rfl, rfl, ht⟩) (fun _ h => nomatch h) dX5_pair_142
  · exact False.elim (by revert f_4; decide)
