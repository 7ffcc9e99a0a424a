set_option maxHeartbeats 1000000 in
set_option maxRecDepth 100000 in
theorem gJ_pairsBefore (l : Launch) (D : va_G) (cI cL cQ : ClassId) (tl : Nat) (a : Nat) (n : Nat) (pl : Nat) (tr : Nat) (a2 : Nat) (n2 : Nat) (pl2 : Nat) (lk : Nat) (lv : Nat) (lo : Nat) (lp : Nat) (ll : Nat) (lf : Nat) (rk : Nat) (rv : Nat) (ro : Nat) (rp : Nat) (rl : Nat) (rf : Nat) (gp : Nat → Int32) (gl : Nat → Int32) (hl_ : Nat → Int32) (x : Int32) (y : Int32) (kd : Int32) (ha : a ≤ 400) (hn : n ≤ a) (ha2 : a2 ≤ 400) (hn2 : n2 ≤ a2) : Met l yX5_pairsBefore wsX5_pairsBefore ({ frames := 1, cells := 0, slots := 0, locals := 21 }) (jr_P D vwCl (jT cI cL cQ) cL cQ [.ref tl, .ref tr, .int x, .int y, .int kd] [(tl, .inr (4, [.int (nI a), .ref lk, .ref lv, .ref lo, .ref lp, .ref ll, .ref lf, .int (nI n), .int (nI pl)])), (lp, .inl (cI, a + 1, .inl gp)), (ll, .inl (cI, a + 1, .inl gl)), (tr, .inr (4, [.int (nI a2), .ref rk, .ref rv, .ref ro, .ref rp, .ref rl, .ref rf, .int (nI n2), .int (nI pl2)])), (rl, .inl (cI, a2 + 1, .inl hl_))]) (vp_Si (fun r : Int32 => r = jpb n n2 gp gl hl_ x y kd)) 0 0 (fun _ => False) := by
  refine Met.ofW (cc := cX5_pairsBefore) (maxL := 6) (ret := (some .int)) (by decide) rfl ?_
  intro p e s m args below meth c s₁ B hml hv
  obtain ⟨rfl, hP, hK, hN⟩ := hv
  have hx := B.exec
  have hb := B.bytes
  have hr := B.returns
  have hts := atoms_spec (ws := wsX5_pairsBefore) B.pre
  have hown : s.vm.findClass RX5 = some m.cls := findClass_of_methodNamed B.named
  have hlocks := B.notSynchronized
  have hl := lv_entry ([.ref tl, .ref tr, .int x, .int y, .int kd]) (n := 6) (Nat.le_of_ble_eq_true rfl)
  rw [lg_entry_eq]
  generalize (lg_sl ([.ref tl, .ref tr, .int x, .int y, .int kd]) ++ List.replicate (6 - (lg_sl ([.ref tl, .ref tr, .int x, .int y, .int kd])).length) Slot.unset).toArray = ls at hl ⊢
  have hl : lv_has ls 6 [(0, .ref tl), (1, .ref tr), (2, .int x), (3, .int y), (4, .int kd)] := hl
  refine lv_aload_n hx hb dX5_pairsBefore_0 rfl (lv_at hl 0 rfl) ?_
  refine lv_iload_n hx hb dX5_pairsBefore_1 rfl (lv_at hl 2 rfl) ?_
  refine vp_callSi (va_Run.run (va_runV (As := [.int x]) (rest := []) ⟨hx, hb, hml, hown, hts⟩ (gT_partnersBefore l D cI cL cQ tl a n pl lk lv lo lp ll lf gp x (by first | assumption | decide | omega) (by first | assumption | decide | omega)) (cwV 1 hts gX5_pairsBefore_X4_partnersBefore rfl rfl rfl (by decide +kernel) ⟨Nat.le_of_ble_eq_true rfl, Nat.le_of_ble_eq_true rfl⟩) (jr_V hK hN hP [0, 1] rfl 4 0 rfl rfl rfl) rfl rfl hl.1 rfl (lv_room (Nat.le_of_ble_eq_true rfl)) dX5_pairsBefore_2 ⟨Nat.le_of_ble_eq_true rfl, Nat.le_of_ble_eq_true rfl⟩)) (fun r f_1 => ?_)
  obtain rfl := f_1
  refine lv_istore (lv' := [(5, .int (jsum n gp x)), (0, .ref tl), (1, .ref tr), (2, .int x), (3, .int y), (4, .int kd)]) hx hb dX5_pairsBefore_5 hl (by decide) rfl (fun ls hl => ?_)
  refine lv_iload hx hb dX5_pairsBefore_7 (lv_at hl 5 rfl) ?_
  refine lv_iconst (v := 1) hx hb dX5_pairsBefore_9 (by decide) ?_
  refine lv_iand hx hb dX5_pairsBefore_10 ?_
  refine lv_if_eq (tgt := 24) hx hb dX5_pairsBefore_11 (by decide) (fun c_2 => ?_) (fun c_2 => ?_)
  · refine lv_iload hx hb dX5_pairsBefore_24 (lv_at hl 5 rfl) ?_
    refine lv_iconst (v := 2) hx hb dX5_pairsBefore_26 (by decide) ?_
    refine lv_iand hx hb dX5_pairsBefore_27 ?_
    refine lv_if_eq (tgt := 41) hx hb dX5_pairsBefore_28 (by decide) (fun c_3 => ?_) (fun c_3 => ?_)
    · refine lv_iload hx hb dX5_pairsBefore_41 (lv_at hl 0 rfl) ?_
      exact W.iret (v := jsum n gp x) hx hb hr (fun t ht hW => ⟨(jsum n gp x), rfl, (jpb_a (by assumption) (by assumption)), ht⟩) (fun _ h => nomatch h) dX5_pairsBefore_43
    · refine lv_iload hx hb dX5_pairsBefore_31 (lv_at hl 0 rfl) ?_
      refine lv_aload_n hx hb dX5_pairsBefore_33 rfl (lv_at hl 2 rfl) ?_
      refine lv_iload_n hx hb dX5_pairsBefore_34 rfl (lv_at hl 4 rfl) ?_
      refine vp_callSi (va_Run.run (va_runV (As := [.int y]) (rest := [.int (jsum n gp x)]) ⟨hx, hb, hml, hown, hts⟩ (gT_loneBefore l D cI cL cQ tr a2 n2 pl2 rk rv ro rp rl rf hl_ y (by first | assumption | decide | omega) (by first | assumption | decide | omega)) (cwV 1 hts gX5_pairsBefore_X4_loneBefore rfl rfl rfl (by decide +kernel) ⟨Nat.le_of_ble_eq_true rfl, Nat.le_of_ble_eq_true rfl⟩) (jr_V hK hN hP [3, 4] rfl 4 3 rfl rfl rfl) rfl rfl hl.1 rfl (lv_room (Nat.le_of_ble_eq_true rfl)) dX5_pairsBefore_35 ⟨Nat.le_of_ble_eq_true rfl, Nat.le_of_ble_eq_true rfl⟩)) (fun r f_4 => ?_)
      obtain rfl := f_4
      refine lv_iadd hx hb dX5_pairsBefore_38 ?_
      refine lv_istore (lv' := [(5, .int ((jsum n gp x) + (jsum n2 hl_ y))), (0, .ref tl), (1, .ref tr), (2, .int x), (3, .int y), (4, .int kd)]) hx hb dX5_pairsBefore_39 hl (by decide) rfl (fun ls hl => ?_)
      refine lv_iload hx hb dX5_pairsBefore_41 (lv_at hl 0 rfl) ?_
      exact W.iret (v := (jsum n gp x) + (jsum n2 hl_ y)) hx hb hr (fun t ht hW => ⟨((jsum n gp x) + (jsum n2 hl_ y)), rfl, (jpb_b (by assumption) (by assumption)), ht⟩) (fun _ h => nomatch h) dX5_pairsBefore_43
  · refine lv_iload hx hb dX5_pairsBefore_14 (lv_at hl 0 rfl) ?_
    refine lv_aload_n hx hb dX5_pairsBefore_16 rfl (lv_at hl 1 rfl) ?_
    refine lv_iload_n hx hb dX5_pairsBefore_17 rfl (lv_at hl 3 rfl) ?_
    refine vp_callSi (va_Run.run (va_runV (As := [.int x]) (rest := [.int (jsum n gp x)]) ⟨hx, hb, hml, hown, hts⟩ (gT_loneBefore l D cI cL cQ tl a n pl lk lv lo lp ll lf gl x (by first | assumption | decide | omega) (by first | assumption | decide | omega)) (cwV 1 hts gX5_pairsBefore_X4_loneBefore rfl rfl rfl (by decide +kernel) ⟨Nat.le_of_ble_eq_true rfl, Nat.le_of_ble_eq_true rfl⟩) (jr_V hK hN hP [0, 2] rfl 4 0 rfl rfl rfl) rfl rfl hl.1 rfl (lv_room (Nat.le_of_ble_eq_true rfl)) dX5_pairsBefore_18 ⟨Nat.le_of_ble_eq_true rfl, Nat.le_of_ble_eq_true rfl⟩)) (fun r f_5 => ?_)
    obtain rfl := f_5
    refine lv_iadd hx hb dX5_pairsBefore_21 ?_
    refine lv_istore (lv' := [(5, .int ((jsum n gp x) + (jsum n gl x))), (0, .ref tl), (1, .ref tr), (2, .int x), (3, .int y), (4, .int kd)]) hx hb dX5_pairsBefore_22 hl (by decide) rfl (fun ls hl => ?_)
    refine lv_iload hx hb dX5_pairsBefore_24 (lv_at hl 5 rfl) ?_
    refine lv_iconst (v := 2) hx hb dX5_pairsBefore_26 (by decide) ?_
    refine lv_iand hx hb dX5_pairsBefore_27 ?_
    refine lv_if_eq (tgt := 41) hx hb dX5_pairsBefore_28 (by decide) (fun c_6 => ?_) (fun c_6 => ?_)
    · refine lv_iload hx hb dX5_pairsBefore_41 (lv_at hl 0 rfl) ?_
      exact W.iret (v := (jsum n gp x) + (jsum n gl x)) hx hb hr (fun t ht hW => ⟨((jsum n gp x) + (jsum n gl x)), rfl, (jpb_c (by assumption) (by assumption)), ht⟩) (fun _ h => nomatch h) dX5_pairsBefore_43
    · refine lv_iload hx hb dX5_pairsBefore_31 (lv_at hl 0 rfl) ?_
      refine lv_aload_n hx hb dX5_pairsBefore_33 rfl (lv_at hl 2 rfl) ?_
      refine lv_iload_n hx hb dX5_pairsBefore_34 rfl (lv_at hl 4 rfl) ?_
      refine vp_callSi (va_Run.run (va_runV (As := [.int y]) (rest := [.int ((jsum n gp x) + (jsum n gl x))]) ⟨hx, hb, hml, hown, hts⟩ (gT_loneBefore l D cI cL cQ tr a2 n2 pl2 rk rv ro rp rl rf hl_ y (by first | assumption | decide | omega) (by first | assumption | decide | omega)) (cwV 1 hts gX5_pairsBefore_X4_loneBefore rfl rfl rfl (by decide +kernel) ⟨Nat.le_of_ble_eq_true rfl, Nat.le_of_ble_eq_true rfl⟩) (jr_V hK hN hP [3, 4] rfl 4 3 rfl rfl rfl) rfl rfl hl.1 rfl (lv_room (Nat.le_of_ble_eq_true rfl)) dX5_pairsBefore_35 ⟨Nat.le_of_ble_eq_true rfl, Nat.le_of_ble_eq_true rfl⟩)) (fun r f_7 => ?_)
      obtain rfl := f_7
      refine lv_iadd hx hb dX5_pairsBefore_38 ?_
      refine lv_istore (lv' := [(5, .int (((jsum n gp x) + (jsum n gl x)) + (jsum n2 hl_ y))), (0, .ref tl), (1, .ref tr), (2, .int x), (3, .int y), (4, .int kd)]) hx hb dX5_pairsBefore_39 hl (by decide) rfl (fun ls hl => ?_)
      refine lv_iload hx hb dX5_pairsBefore_41 (lv_at hl 0 rfl) ?_
      exact W.iret (v := ((jsum n gp x) + (jsum n gl x)) + (jsum n2 hl_ y)) hx hb hr (fun t ht hW => ⟨(((jsum n gp x) + (jsum n gl x)) + (jsum n2 hl_ y)), rfl, (jpb_d (by assumption) (by assumption)), ht⟩) (fun _ h => nomatch h) dX5_pairsBefore_43
