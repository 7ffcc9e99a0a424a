set_option maxHeartbeats 1000000 in
set_option maxRecDepth 100000 in
theorem gJ_groups (l : Launch) (D : va_G) (cI cL cQ : ClassId) (h0 : Nat) (tl : Nat) (tr : Nat) (cu : Nat) (bk : Nat) (a : Nat) (n : Nat) (pl : Nat) (a2 : Nat) (n2 : Nat) (pl2 : Nat) (lk : Nat) (lv : Nat) (lo : Nat) (lp : Nat) (ll : Nat) (lf : Nat) (rk : Nat) (rv : Nat) (ro : Nat) (rp : Nat) (rl : Nat) (rf : Nat) (gk : Nat → Int32) (gv : Nat → Int32) (go : Nat → Int32) (gp : Nat → Int32) (gf : Nat → Int32) (hk : Nat → Int32) (hv : Nat → Int32) (ho_ : Nat → Int32) (g : Nat) (fa : Nat) (s1 : Nat) (s2 : Nat) (gs : Nat) (gt : Int32) (sz1 : Int32) (sz2 : Int32) (sa1 : Int64) (sb1 : Int64) (sc1 : Int64) (sa2 : Int64) (sb2 : Int64) (sc2 : Int64) (e0 : Nat → Int64) (e1 : Nat → Int64) (e2 : Nat → Int64) (e3 : Nat → Int64) (e4 : Nat → Int64) (K1 : Nat → Int32) (V1 : Nat → Int32) (K2 : Nat → Int32) (V2 : Nat → Int32) (sz : Nat) (ha : a ≤ 400) (hn : n ≤ a) (hol : jord a go) (ha2 : a2 ≤ 400) (hn2 : n2 ≤ a2) (hor : jord a2 ho_) (hg : g ≤ 400) (hfl : ∀ j, ∃ k, k ≤ 400 ∧ gf j = nI k) (hq : jgs n gk go gp n ≤ g) (hk1 : ∀ i, i < n → jat n gk go (nI i) = K1 i) (hv1 : ∀ i, i < n → jat n gv go (nI i) = V1 i) (hk2 : ∀ i, i < n2 → jat n2 hk ho_ (nI i) = K2 i) (hv2 : ∀ i, i < n2 → jat n2 hv ho_ (nI i) = V2 i) (hw1 : jMo n K1) (hw2 : jMo n2 K2) (hp : ∀ k, k ≤ n → gp k = nI (jPS n2 K1 K2 k)) (hf : ∀ k, k < n → ∃ z, gf k = nI z ∧ jLb n2 K2 (K1 k) z) : Met l yX5_groups wsX5_groups ({ frames := 4, cells := 0, slots := 0, locals := 91 }) (jw_P D vwCl (jT cI cL cQ) cL cQ [.ref h0] [(h0, .inr (5, [.ref tl, .ref tr, .ref cu, .ref bk, .int 1])), (bk, .inr (1, [.int (nI g), .ref fa, .ref s1, .ref s2, .int (nI gs), .int gt])), (s1, .inr (3, [.int sz1, .long sa1, .long sb1, .long sc1])), (s2, .inr (3, [.int sz2, .long sa2, .long sb2, .long sc2])), (fa, .inl (cQ, 5, .inr (.inr (.inr (.inr (fun j => if j < 5 then some (fa + 1 + j) else none)))))), (fa + 1, .inl (cL, g, .inr (.inl e0))), (fa + 2, .inl (cL, g, .inr (.inl e1))), (fa + 3, .inl (cL, g, .inr (.inl e2))), (fa + 4, .inl (cL, g, .inr (.inl e3))), (fa + 5, .inl (cL, g, .inr (.inl e4))), (tl, .inr (4, [.int (nI a), .ref lk, .ref lv, .ref lo, .ref lp, .ref ll, .ref lf, .int (nI n), .int (nI pl)])), (lk, .inl (cI, a, .inl gk)), (lv, .inl (cI, a, .inl gv)), (lo, .inl (cI, a, .inl go)), (lp, .inl (cI, a + 1, .inl gp)), (lf, .inl (cI, a, .inl gf)), (tr, .inr (4, [.int (nI a2), .ref rk, .ref rv, .ref ro, .ref rp, .ref rl, .ref rf, .int (nI n2), .int (nI pl2)])), (rk, .inl (cI, a2, .inl hk)), (rv, .inl (cI, a2, .inl hv)), (ro, .inl (cI, a2, .inl ho_))] sz) (va_Qi (fun (r : Int32) (u : va_W) => ∃ (xz1 : Int32) (xz2 : Int32) (xa1 : Int64) (xb1 : Int64) (xc1 : Int64) (xa2 : Int64) (xb2 : Int64) (xc2 : Int64) (x0 : Nat → Int64) (x1 : Nat → Int64) (x2 : Nat → Int64) (x3 : Nat → Int64) (x4 : Nat → Int64), r = nI (jgs n gk go gp n) ∧ u = [(h0, .inr (5, [.ref tl, .ref tr, .ref cu, .ref bk, .int 1])), (bk, .inr (1, [.int (nI g), .ref fa, .ref s1, .ref s2, .int (nI (jgs n gk go gp n)), .int 1])), (s1, .inr (3, [.int xz1, .long xa1, .long xb1, .long xc1])), (s2, .inr (3, [.int xz2, .long xa2, .long xb2, .long xc2])), (fa, .inl (cQ, 5, .inr (.inr (.inr (.inr (fun j => if j < 5 then some (fa + 1 + j) else none)))))), (fa + 1, .inl (cL, g, .inr (.inl x0))), (fa + 2, .inl (cL, g, .inr (.inl x1))), (fa + 3, .inl (cL, g, .inr (.inl x2))), (fa + 4, .inl (cL, g, .inr (.inl x3))), (fa + 5, .inl (cL, g, .inr (.inl x4))), (tl, .inr (4, [.int (nI a), .ref lk, .ref lv, .ref lo, .ref lp, .ref ll, .ref lf, .int (nI n), .int (nI pl)])), (lk, .inl (cI, a, .inl gk)), (lv, .inl (cI, a, .inl gv)), (lo, .inl (cI, a, .inl go)), (lp, .inl (cI, a + 1, .inl gp)), (lf, .inl (cI, a, .inl gf)), (tr, .inr (4, [.int (nI a2), .ref rk, .ref rv, .ref ro, .ref rp, .ref rl, .ref rf, .int (nI n2), .int (nI pl2)])), (rk, .inl (cI, a2, .inl hk)), (rv, .inl (cI, a2, .inl hv)), (ro, .inl (cI, a2, .inl ho_))] ∧ (jBk n n2 K1 V1 K2 V2 x0 x1 x2 x3 x4 n)) (jw_B D vwCl (va_A [(h0, .inr (5, [.ref tl, .ref tr, .ref cu, .ref bk, .int 1])), (bk, .inr (1, [.int (nI g), .ref fa, .ref s1, .ref s2, .int (nI gs), .int gt])), (s1, .inr (3, [.int sz1, .long sa1, .long sb1, .long sc1])), (s2, .inr (3, [.int sz2, .long sa2, .long sb2, .long sc2])), (fa, .inl (cQ, 5, .inr (.inr (.inr (.inr (fun j => if j < 5 then some (fa + 1 + j) else none)))))), (fa + 1, .inl (cL, g, .inr (.inl e0))), (fa + 2, .inl (cL, g, .inr (.inl e1))), (fa + 3, .inl (cL, g, .inr (.inl e2))), (fa + 4, .inl (cL, g, .inr (.inl e3))), (fa + 5, .inl (cL, g, .inr (.inl e4))), (tl, .inr (4, [.int (nI a), .ref lk, .ref lv, .ref lo, .ref lp, .ref ll, .ref lf, .int (nI n), .int (nI pl)])), (lk, .inl (cI, a, .inl gk)), (lv, .inl (cI, a, .inl gv)), (lo, .inl (cI, a, .inl go)), (lp, .inl (cI, a + 1, .inl gp)), (lf, .inl (cI, a, .inl gf)), (tr, .inr (4, [.int (nI a2), .ref rk, .ref rv, .ref ro, .ref rp, .ref rl, .ref rf, .int (nI n2), .int (nI pl2)])), (rk, .inl (cI, a2, .inl hk)), (rv, .inl (cI, a2, .inl hv)), (ro, .inl (cI, a2, .inl ho_))] sz) (fun u : va_W => u)) (va_A [(h0, .inr (5, [.ref tl, .ref tr, .ref cu, .ref bk, .int 1])), (bk, .inr (1, [.int (nI g), .ref fa, .ref s1, .ref s2, .int (nI gs), .int gt])), (s1, .inr (3, [.int sz1, .long sa1, .long sb1, .long sc1])), (s2, .inr (3, [.int sz2, .long sa2, .long sb2, .long sc2])), (fa, .inl (cQ, 5, .inr (.inr (.inr (.inr (fun j => if j < 5 then some (fa + 1 + j) else none)))))), (fa + 1, .inl (cL, g, .inr (.inl e0))), (fa + 2, .inl (cL, g, .inr (.inl e1))), (fa + 3, .inl (cL, g, .inr (.inl e2))), (fa + 4, .inl (cL, g, .inr (.inl e3))), (fa + 5, .inl (cL, g, .inr (.inl e4))), (tl, .inr (4, [.int (nI a), .ref lk, .ref lv, .ref lo, .ref lp, .ref ll, .ref lf, .int (nI n), .int (nI pl)])), (lk, .inl (cI, a, .inl gk)), (lv, .inl (cI, a, .inl gv)), (lo, .inl (cI, a, .inl go)), (lp, .inl (cI, a + 1, .inl gp)), (lf, .inl (cI, a, .inl gf)), (tr, .inr (4, [.int (nI a2), .ref rk, .ref rv, .ref ro, .ref rp, .ref rl, .ref rf, .int (nI n2), .int (nI pl2)])), (rk, .inl (cI, a2, .inl hk)), (rv, .inl (cI, a2, .inl hv)), (ro, .inl (cI, a2, .inl ho_))] sz)) 0 0 (va_A [(h0, .inr (5, [.ref tl, .ref tr, .ref cu, .ref bk, .int 1])), (bk, .inr (1, [.int (nI g), .ref fa, .ref s1, .ref s2, .int (nI gs), .int gt])), (s1, .inr (3, [.int sz1, .long sa1, .long sb1, .long sc1])), (s2, .inr (3, [.int sz2, .long sa2, .long sb2, .long sc2])), (fa, .inl (cQ, 5, .inr (.inr (.inr (.inr (fun j => if j < 5 then some (fa + 1 + j) else none)))))), (fa + 1, .inl (cL, g, .inr (.inl e0))), (fa + 2, .inl (cL, g, .inr (.inl e1))), (fa + 3, .inl (cL, g, .inr (.inl e2))), (fa + 4, .inl (cL, g, .inr (.inl e3))), (fa + 5, .inl (cL, g, .inr (.inl e4))), (tl, .inr (4, [.int (nI a), .ref lk, .ref lv, .ref lo, .ref lp, .ref ll, .ref lf, .int (nI n), .int (nI pl)])), (lk, .inl (cI, a, .inl gk)), (lv, .inl (cI, a, .inl gv)), (lo, .inl (cI, a, .inl go)), (lp, .inl (cI, a + 1, .inl gp)), (lf, .inl (cI, a, .inl gf)), (tr, .inr (4, [.int (nI a2), .ref rk, .ref rv, .ref ro, .ref rp, .ref rl, .ref rf, .int (nI n2), .int (nI pl2)])), (rk, .inl (cI, a2, .inl hk)), (rv, .inl (cI, a2, .inl hv)), (ro, .inl (cI, a2, .inl ho_))] sz) := by
  refine Met.ofW (cc := cX5_groups) (maxL := 1) (ret := (some .int)) (by decide) rfl ?_
  intro p e s m args below meth c s₁ B hml hv
  obtain ⟨rfl, hsz, hP, hK, hN, hD0⟩ := hv
  have hx := B.exec
  have hb := B.bytes
  have hr := B.returns
  have hts := atoms_spec (ws := wsX5_groups) B.pre
  have hown : s.vm.findClass RX5 = some m.cls := findClass_of_methodNamed B.named
  have hlocks := B.notSynchronized
  subst hsz
  have hD := hD0.self (sz := s.heap.size)
  generalize hAe : va_A [(h0, .inr (5, [.ref tl, .ref tr, .ref cu, .ref bk, .int 1])), (bk, .inr (1, [.int (nI g), .ref fa, .ref s1, .ref s2, .int (nI gs), .int gt])), (s1, .inr (3, [.int sz1, .long sa1, .long sb1, .long sc1])), (s2, .inr (3, [.int sz2, .long sa2, .long sb2, .long sc2])), (fa, .inl (cQ, 5, .inr (.inr (.inr (.inr (fun j => if j < 5 then some (fa + 1 + j) else none)))))), (fa + 1, .inl (cL, g, .inr (.inl e0))), (fa + 2, .inl (cL, g, .inr (.inl e1))), (fa + 3, .inl (cL, g, .inr (.inl e2))), (fa + 4, .inl (cL, g, .inr (.inl e3))), (fa + 5, .inl (cL, g, .inr (.inl e4))), (tl, .inr (4, [.int (nI a), .ref lk, .ref lv, .ref lo, .ref lp, .ref ll, .ref lf, .int (nI n), .int (nI pl)])), (lk, .inl (cI, a, .inl gk)), (lv, .inl (cI, a, .inl gv)), (lo, .inl (cI, a, .inl go)), (lp, .inl (cI, a + 1, .inl gp)), (lf, .inl (cI, a, .inl gf)), (tr, .inr (4, [.int (nI a2), .ref rk, .ref rv, .ref ro, .ref rp, .ref rl, .ref rf, .int (nI n2), .int (nI pl2)])), (rk, .inl (cI, a2, .inl hk)), (rv, .inl (cI, a2, .inl hv)), (ro, .inl (cI, a2, .inl ho_))] s.heap.size = A at hD ⊢
  have hA : ∀ q : Nat, s.heap.size ≤ q → A q := fun q h => by rw [← hAe]; exact Or.inr h
  have hS : va_S A s.heap s.heap [] := va_S.rf
  have hl := lv_entry ([.ref h0]) (n := 1) (Nat.le_of_ble_eq_true rfl)
  rw [lg_entry_eq]
  generalize (lg_sl ([.ref h0]) ++ List.replicate (1 - (lg_sl ([.ref h0])).length) Slot.unset).toArray = ls at hl ⊢
  have hl : lv_has ls 1 [(0, .ref h0)] := hl
  refine lv_aload_n hx hb dX5_groups_0 rfl (lv_at hl 0 rfl) ?_
  refine va_get (D := D) (ci := 5) (v := .int 1) (C := RX5) (T := TX5) (N := 5) hx hb hts (by decide +kernel) hown hK hP 0 rfl rfl 4 (by decide) (hts (.fieldLink RX5 41 "JoinDesk" "prepared" "Z") (by decide +kernel)) (fun _ h9 => h9) rfl dX5_groups_1 ?_
  refine va_csv (va_Run.run (va_runS (As := [.int 1]) (rest := []) ⟨hx, hb, hml, hown, hts⟩ (gJ_requireState_ok l D cI cL cQ) (va_cwS 1 hts gX5_groups_X5_requireState rfl rfl rfl (by decide +kernel) ⟨Nat.le_of_ble_eq_true rfl, Nat.le_of_ble_eq_true rfl⟩) (jr_S hK hN hP [] rfl) rfl rfl hl.1 rfl (lv_room (Nat.le_of_ble_eq_true rfl)) dX5_groups_4 ⟨Nat.le_of_ble_eq_true rfl, Nat.le_of_ble_eq_true rfl⟩)) (fun f_1 => ?_)
  refine lv_aload_n hx hb dX5_groups_7 rfl (lv_at hl 0 rfl) ?_
  refine va_get (D := D) (ci := 5) (v := .ref tl) (C := RX5) (T := TX5) (N := 5) hx hb hts (by decide +kernel) hown hK hP 0 rfl rfl 0 (by decide) (hts (.fieldLink RX5 18 "JoinDesk" "left" "LJoinDesk$Table;") (by decide +kernel)) (fun _ h9 => h9) rfl dX5_groups_8 ?_
  refine vp_callSi (va_Run.run (va_runV (As := []) (rest := []) ⟨hx, hb, hml, hown, hts⟩ (gT_groupStarts l D cI cL cQ tl a n pl lk lv lo lp ll lf gk go gp (by first | assumption | decide | omega) (by first | assumption | decide | omega) (by first | assumption | decide | omega)) (cwV 0 hts gX5_groups_X4_groupStarts rfl rfl rfl (by decide +kernel) ⟨Nat.le_of_ble_eq_true rfl, Nat.le_of_ble_eq_true rfl⟩) (jr_V hK hN hP [10, 11, 13, 14] rfl 4 10 rfl rfl rfl) rfl rfl hl.1 rfl (lv_room (Nat.le_of_ble_eq_true rfl)) dX5_groups_11 ⟨Nat.le_of_ble_eq_true rfl, Nat.le_of_ble_eq_true rfl⟩)) (fun r f_2 => ?_)
  obtain rfl := f_2
  refine lv_aload_n hx hb dX5_groups_14 rfl (lv_at hl 0 rfl) ?_
  refine va_get (D := D) (ci := 5) (v := .ref bk) (C := RX5) (T := TX5) (N := 5) hx hb hts (by decide +kernel) hown hK hP 0 rfl rfl 3 (by decide) (hts (.fieldLink RX5 37 "JoinDesk" "book" "LJoinDesk$GroupBook;") (by decide +kernel)) (fun _ h9 => h9) rfl dX5_groups_15 ?_
  refine vp_callSi (va_Run.run (va_runV (As := []) (rest := [.int (nI (jgs n gk go gp n))]) ⟨hx, hb, hml, hown, hts⟩ (gB_room l D cI cL cQ bk g fa s1 s2 gs gt) (cwV 0 hts gX5_groups_X1_room rfl rfl rfl (by decide +kernel) ⟨Nat.le_of_ble_eq_true rfl, Nat.le_of_ble_eq_true rfl⟩) (jr_V hK hN hP [1] rfl 1 1 rfl rfl rfl) rfl rfl hl.1 rfl (lv_room (Nat.le_of_ble_eq_true rfl)) dX5_groups_18 ⟨Nat.le_of_ble_eq_true rfl, Nat.le_of_ble_eq_true rfl⟩)) (fun r f_3 => ?_)
  obtain rfl := f_3
  refine lv_icmp_le (tgt := 34) hx hb dX5_groups_21 (by decide) (fun c_4 => ?_) (fun c_4 => absurd c_4 (by exact fun h => h (nI_le hq (by omega))))
  refine lv_aload_n hx hb dX5_groups_34 rfl (lv_at hl 0 rfl) ?_
  refine va_get (D := D) (ci := 5) (v := .ref bk) (C := RX5) (T := TX5) (N := 5) hx hb hts (by decide +kernel) hown hK hP 0 rfl rfl 3 (by decide) (hts (.fieldLink RX5 37 "JoinDesk" "book" "LJoinDesk$GroupBook;") (by decide +kernel)) (fun _ h9 => h9) rfl dX5_groups_35 ?_
  refine lv_aload_n hx hb dX5_groups_38 rfl (lv_at hl 0 rfl) ?_
  refine va_get (D := D) (ci := 5) (v := .ref tl) (C := RX5) (T := TX5) (N := 5) hx hb hts (by decide +kernel) hown hK hP 0 rfl rfl 0 (by decide) (hts (.fieldLink RX5 18 "JoinDesk" "left" "LJoinDesk$Table;") (by decide +kernel)) (fun _ h9 => h9) rfl dX5_groups_39 ?_
  refine lv_aload_n hx hb dX5_groups_42 rfl (lv_at hl 0 rfl) ?_
  refine va_get (D := D) (ci := 5) (v := .ref tr) (C := RX5) (T := TX5) (N := 5) hx hb hts (by decide +kernel) hown hK hP 0 rfl rfl 1 (by decide) (hts (.fieldLink RX5 22 "JoinDesk" "right" "LJoinDesk$Table;") (by decide +kernel)) (fun _ h9 => h9) rfl dX5_groups_43 ?_
  refine jw_i (wr := [(h0, .inr (5, [.ref tl, .ref tr, .ref cu, .ref bk, .int 1]))]) (va_runV (As := [.ref tl, .ref tr]) (rest := []) ⟨hx, hb, hml, hown, hts⟩ (gB_tell l D cI cL cQ bk g fa s1 s2 gs gt sz1 sz2 sa1 sb1 sc1 sa2 sb2 sc2 e0 e1 e2 e3 e4 tl a n pl tr a2 n2 pl2 lk lv lo lp ll lf rk rv ro rp rl rf gk gv go gp gf hk hv ho_ K1 V1 K2 V2 _ (by first | assumption | decide | omega) (by first | assumption | decide | omega) (by first | assumption | decide | omega) (by first | assumption | decide | omega) (by first | assumption | decide | omega) (by first | assumption | decide | omega) (by first | assumption | decide | omega) (by first | assumption | decide | omega) (by first | assumption | decide | omega) (by first | assumption | decide | omega) (by first | assumption | decide | omega) (by first | assumption | decide | omega) (by first | assumption | decide | omega) (by first | assumption | decide | omega) (by first | assumption | decide | omega) (by first | assumption | decide | omega) (by first | assumption | decide | omega)) (cwV 2 hts gX5_groups_X1_tell rfl rfl rfl (by decide +kernel) ⟨Nat.le_of_ble_eq_true rfl, Nat.le_of_ble_eq_true rfl⟩) (jw_V hK hN hP hD [1, 2, 3, 4, 5, 6, 7, 8, 9, 10, 11, 12, 13, 14, 15, 16, 17, 18, 19] (by decide) rfl 1 1 rfl rfl rfl) rfl rfl hl.1 rfl (lv_room (Nat.le_of_ble_eq_true rfl)) dX5_groups_46 ⟨Nat.le_of_ble_eq_true rfl, Nat.le_of_ble_eq_true rfl⟩) hP hD hS hA [1, 2, 3, 4, 5, 6, 7, 8, 9, 10, 11, 12, 13, 14, 15, 16, 17, 18, 19] [0] rfl rfl (by decide) (by decide) (fun r u H locs f_5 hP hD hS => ?_)
  obtain ⟨xz1_6, xz2_7, xa1_8, xb1_9, xc1_10, xa2_11, xb2_12, xc2_13, x0_14, x1_15, x2_16, x3_17, x4_18, rfl, rfl, f_19⟩ := f_5
  have hP : va_P D vwCl [(h0, .inr (5, [.ref tl, .ref tr, .ref cu, .ref bk, .int 1])), (bk, .inr (1, [.int (nI g), .ref fa, .ref s1, .ref s2, .int (nI (jgs n gk go gp n)), .int 1])), (s1, .inr (3, [.int xz1_6, .long xa1_8, .long xb1_9, .long xc1_10])), (s2, .inr (3, [.int xz2_7, .long xa2_11, .long xb2_12, .long xc2_13])), (fa, .inl (cQ, 5, .inr (.inr (.inr (.inr (fun j => if j < 5 then some (fa + 1 + j) else none)))))), (fa + 1, .inl (cL, g, .inr (.inl x0_14))), (fa + 2, .inl (cL, g, .inr (.inl x1_15))), (fa + 3, .inl (cL, g, .inr (.inl x2_16))), (fa + 4, .inl (cL, g, .inr (.inl x3_17))), (fa + 5, .inl (cL, g, .inr (.inl x4_18))), (tl, .inr (4, [.int (nI a), .ref lk, .ref lv, .ref lo, .ref lp, .ref ll, .ref lf, .int (nI n), .int (nI pl)])), (lk, .inl (cI, a, .inl gk)), (lv, .inl (cI, a, .inl gv)), (lo, .inl (cI, a, .inl go)), (lp, .inl (cI, a + 1, .inl gp)), (lf, .inl (cI, a, .inl gf)), (tr, .inr (4, [.int (nI a2), .ref rk, .ref rv, .ref ro, .ref rp, .ref rl, .ref rf, .int (nI n2), .int (nI pl2)])), (rk, .inl (cI, a2, .inl hk)), (rv, .inl (cI, a2, .inl hv)), (ro, .inl (cI, a2, .inl ho_))] H := hP
  have hD : va_D A [(h0, .inr (5, [.ref tl, .ref tr, .ref cu, .ref bk, .int 1])), (bk, .inr (1, [.int (nI g), .ref fa, .ref s1, .ref s2, .int (nI (jgs n gk go gp n)), .int 1])), (s1, .inr (3, [.int xz1_6, .long xa1_8, .long xb1_9, .long xc1_10])), (s2, .inr (3, [.int xz2_7, .long xa2_11, .long xb2_12, .long xc2_13])), (fa, .inl (cQ, 5, .inr (.inr (.inr (.inr (fun j => if j < 5 then some (fa + 1 + j) else none)))))), (fa + 1, .inl (cL, g, .inr (.inl x0_14))), (fa + 2, .inl (cL, g, .inr (.inl x1_15))), (fa + 3, .inl (cL, g, .inr (.inl x2_16))), (fa + 4, .inl (cL, g, .inr (.inl x3_17))), (fa + 5, .inl (cL, g, .inr (.inl x4_18))), (tl, .inr (4, [.int (nI a), .ref lk, .ref lv, .ref lo, .ref lp, .ref ll, .ref lf, .int (nI n), .int (nI pl)])), (lk, .inl (cI, a, .inl gk)), (lv, .inl (cI, a, .inl gv)), (lo, .inl (cI, a, .inl go)), (lp, .inl (cI, a + 1, .inl gp)), (lf, .inl (cI, a, .inl gf)), (tr, .inr (4, [.int (nI a2), .ref rk, .ref rv, .ref ro, .ref rp, .ref rl, .ref rf, .int (nI n2), .int (nI pl2)])), (rk, .inl (cI, a2, .inl hk)), (rv, .inl (cI, a2, .inl hv)), (ro, .inl (cI, a2, .inl ho_))] := hD
  refine W.widen (k := 0) (n := 0) (by omega) (by omega) ?_
  exact W.iret (v := nI (jgs n gk go gp n)) hx hb hr (fun t ht hW => ⟨⟨(nI (jgs n gk go gp n)), [(h0, .inr (5, [.ref tl, .ref tr, .ref cu, .ref bk, .int 1])), (bk, .inr (1, [.int (nI g), .ref fa, .ref s1, .ref s2, .int (nI (jgs n gk go gp n)), .int 1])), (s1, .inr (3, [.int xz1_6, .long xa1_8, .long xb1_9, .long xc1_10])), (s2, .inr (3, [.int xz2_7, .long xa2_11, .long xb2_12, .long xc2_13])), (fa, .inl (cQ, 5, .inr (.inr (.inr (.inr (fun j => if j < 5 then some (fa + 1 + j) else none)))))), (fa + 1, .inl (cL, g, .inr (.inl x0_14))), (fa + 2, .inl (cL, g, .inr (.inl x1_15))), (fa + 3, .inl (cL, g, .inr (.inl x2_16))), (fa + 4, .inl (cL, g, .inr (.inl x3_17))), (fa + 5, .inl (cL, g, .inr (.inl x4_18))), (tl, .inr (4, [.int (nI a), .ref lk, .ref lv, .ref lo, .ref lp, .ref ll, .ref lf, .int (nI n), .int (nI pl)])), (lk, .inl (cI, a, .inl gk)), (lv, .inl (cI, a, .inl gv)), (lo, .inl (cI, a, .inl go)), (lp, .inl (cI, a + 1, .inl gp)), (lf, .inl (cI, a, .inl gf)), (tr, .inr (4, [.int (nI a2), .ref rk, .ref rv, .ref ro, .ref rp, .ref rl, .ref rf, .int (nI n2), .int (nI pl2)])), (rk, .inl (cI, a2, .inl hk)), (rv, .inl (cI, a2, .inl hv)), (ro, .inl (cI, a2, .inl ho_))], rfl, (by exact ⟨_, _, _, _, _, _, _, _, _, _, _, _, _, rfl, rfl, (by first | assumption | exact Or.inl (by assumption) | exact Or.inr (by assumption) | rfl | decide | omega)⟩), by rw [ht]; exact hP, hD⟩, hS.F ht⟩) hS.2.2 dX5_groups_49
set_option maxHeartbeats 1000000 in
set_option maxRecDepth 100000 in
theorem gJ_groups_u (l : Launch) (hnt : l.stackTraces = false) (D : va_G) (cI cL cQ : ClassId) (h0 : Nat) (tl : Nat) (tr : Nat) (cu : Nat) (bk : Nat) (a : Nat) (n : Nat) (pl : Nat) (lk : Nat) (lv : Nat) (lo : Nat) (lp : Nat) (ll : Nat) (lf : Nat) (gk : Nat → Int32) (go : Nat → Int32) (gp : Nat → Int32) (g : Nat) (fa : Nat) (s1 : Nat) (s2 : Nat) (gs : Nat) (gt : Int32) (ha : a ≤ 400) (hn : n ≤ a) (hol : jord a go) (hg : g ≤ 400) (hq : ¬ jgs n gk go gp n ≤ g) : vx_Met l yX5_groups wsX5_groups ({ frames := 7, cells := 1, slots := 6, locals := 120 }) (jt_P D vwCl (jT cI cL cQ) cL cQ [.ref h0] [(h0, .inr (5, [.ref tl, .ref tr, .ref cu, .ref bk, .int 1])), (bk, .inr (1, [.int (nI g), .ref fa, .ref s1, .ref s2, .int (nI gs), .int gt])), (tl, .inr (4, [.int (nI a), .ref lk, .ref lv, .ref lo, .ref lp, .ref ll, .ref lf, .int (nI n), .int (nI pl)])), (lk, .inl (cI, a, .inl gk)), (lo, .inl (cI, a, .inl go)), (lp, .inl (cI, a + 1, .inl gp))]) (fun _ _ _ _ => False) (jx_X "java/lang/UnsupportedOperationException") 1 6 (fun _ => False) := by
  refine vx_ofW (cc := cX5_groups) (maxL := 1) (ret := (some .int)) (by decide) rfl ?_
  intro p e s m args below meth c s₁ B hml hxt hv
  obtain ⟨rfl, hP, hK, hN, hZ⟩ := hv
  have hx := B.exec
  have hb := B.bytes
  have hr := B.returns
  have hts := atoms_spec (ws := wsX5_groups) B.pre
  have hown : s.vm.findClass RX5 = some m.cls := findClass_of_methodNamed B.named
  have hlocks := B.notSynchronized
  have hl := lv_entry ([.ref h0]) (n := 1) (Nat.le_of_ble_eq_true rfl)
  rw [lg_entry_eq]
  generalize (lg_sl ([.ref h0]) ++ List.replicate (1 - (lg_sl ([.ref h0])).length) Slot.unset).toArray = ls at hl ⊢
  have hl : lv_has ls 1 [(0, .ref h0)] := hl
  refine lv_aload_n hx hb dX5_groups_0 rfl (lv_at hl 0 rfl) ?_
  refine va_get (D := D) (ci := 5) (v := .int 1) (C := RX5) (T := TX5) (N := 5) hx hb hts (by decide +kernel) hown hK hP 0 rfl rfl 4 (by decide) (hts (.fieldLink RX5 41 "JoinDesk" "prepared" "Z") (by decide +kernel)) (fun _ h9 => h9) rfl dX5_groups_1 ?_
  refine va_csv (va_Run.run (va_runS (As := [.int 1]) (rest := []) ⟨hx, hb, hml, hown, hts⟩ (gJ_requireState_ok l D cI cL cQ) (va_cwS 1 hts gX5_groups_X5_requireState rfl rfl rfl (by decide +kernel) ⟨Nat.le_of_ble_eq_true rfl, Nat.le_of_ble_eq_true rfl⟩) (jr_S hK hN hP [] rfl) rfl rfl hl.1 rfl (lv_room (Nat.le_of_ble_eq_true rfl)) dX5_groups_4 ⟨Nat.le_of_ble_eq_true rfl, Nat.le_of_ble_eq_true rfl⟩)) (fun f_1 => ?_)
  refine lv_aload_n hx hb dX5_groups_7 rfl (lv_at hl 0 rfl) ?_
  refine va_get (D := D) (ci := 5) (v := .ref tl) (C := RX5) (T := TX5) (N := 5) hx hb hts (by decide +kernel) hown hK hP 0 rfl rfl 0 (by decide) (hts (.fieldLink RX5 18 "JoinDesk" "left" "LJoinDesk$Table;") (by decide +kernel)) (fun _ h9 => h9) rfl dX5_groups_8 ?_
  refine vp_callSi (va_Run.run (va_runV (As := []) (rest := []) ⟨hx, hb, hml, hown, hts⟩ (gT_groupStarts l D cI cL cQ tl a n pl lk lv lo lp ll lf gk go gp (by first | assumption | decide | omega) (by first | assumption | decide | omega) (by first | assumption | decide | omega)) (cwV 0 hts gX5_groups_X4_groupStarts rfl rfl rfl (by decide +kernel) ⟨Nat.le_of_ble_eq_true rfl, Nat.le_of_ble_eq_true rfl⟩) (jr_V hK hN hP [2, 3, 4, 5] rfl 4 2 rfl rfl rfl) rfl rfl hl.1 rfl (lv_room (Nat.le_of_ble_eq_true rfl)) dX5_groups_11 ⟨Nat.le_of_ble_eq_true rfl, Nat.le_of_ble_eq_true rfl⟩)) (fun r f_2 => ?_)
  obtain rfl := f_2
  refine lv_aload_n hx hb dX5_groups_14 rfl (lv_at hl 0 rfl) ?_
  refine va_get (D := D) (ci := 5) (v := .ref bk) (C := RX5) (T := TX5) (N := 5) hx hb hts (by decide +kernel) hown hK hP 0 rfl rfl 3 (by decide) (hts (.fieldLink RX5 37 "JoinDesk" "book" "LJoinDesk$GroupBook;") (by decide +kernel)) (fun _ h9 => h9) rfl dX5_groups_15 ?_
  refine vp_callSi (va_Run.run (va_runV (As := []) (rest := [.int (nI (jgs n gk go gp n))]) ⟨hx, hb, hml, hown, hts⟩ (gB_room l D cI cL cQ bk g fa s1 s2 gs gt) (cwV 0 hts gX5_groups_X1_room rfl rfl rfl (by decide +kernel) ⟨Nat.le_of_ble_eq_true rfl, Nat.le_of_ble_eq_true rfl⟩) (jr_V hK hN hP [1] rfl 1 1 rfl rfl rfl) rfl rfl hl.1 rfl (lv_room (Nat.le_of_ble_eq_true rfl)) dX5_groups_18 ⟨Nat.le_of_ble_eq_true rfl, Nat.le_of_ble_eq_true rfl⟩)) (fun r f_3 => ?_)
  obtain rfl := f_3
  refine lv_icmp_le (tgt := 34) hx hb dX5_groups_21 (by decide) (fun c_4 => absurd c_4 (by rw [nI_leI (by have := jgs_le n gk go gp n; omega) (by omega)]; exact hq)) (fun c_4 => ?_)
  obtain ⟨hU, hV, -, -, ⟨sa, hstr⟩, hE, -, hY⟩ := hZ
  exact vx_throwS (A := fun _ => False) (names := ["java/lang/RuntimeException", "java/lang/Exception"]) hx hb hnt hown (by decide +kernel) (by decide +kernel) (hts (.classLink RX5 138 "java/lang/UnsupportedOperationException") (by decide +kernel)) (hts (.initialized "java/lang/UnsupportedOperationException") (by decide +kernel)) hstr (vx_hat (B := [.castable "java/lang/UnsupportedOperationException" "java/lang/UnsupportedOperationException", .declares ⟨"java/lang/RuntimeException", "<init>", "(Ljava/lang/String;)V"⟩, .declares ⟨"java/lang/Exception", "<init>", "(Ljava/lang/String;)V"⟩, .declares ⟨"java/lang/Throwable", "<init>", "(Ljava/lang/String;)V"⟩]) (fun w hw => hts w (List.mem_cons_of_mem _ (List.mem_append_left _ (List.mem_append_right _ hw)))) (by decide +kernel) (vx_c (va_Nw.use rfl (hE _ (by decide +kernel))) (vx_c (va_Nw.use rfl (hY "java/lang/RuntimeException" (by decide +kernel))) (vx_c (va_Nw.use rfl (hY "java/lang/Exception" (by decide +kernel))) (vx_c (va_Nw.use rfl (hY "java/lang/Throwable" (by decide +kernel))) vx_n))))) (by decide +kernel) hU hV va_S.rf (hl.1.trans hml.symm) dX5_groups_24 dX5_groups_27 dX5_groups_28 dX5_groups_30 dX5_groups_33 (fun x hx => (hxt x hx).elim) (Nat.le_of_ble_eq_true rfl) (Nat.le_of_ble_eq_true rfl) (Nat.le_of_ble_eq_true rfl) (Nat.le_of_ble_eq_true rfl) hlocks (fun t _ hz hk => ⟨rfl, hz, fun q h _ => hk q h⟩) (fun z hz => nomatch hz) (Nat.le_of_ble_eq_true rfl) (Nat.le_of_ble_eq_true rfl)
set_option maxHeartbeats 1000000 in
set_option maxRecDepth 100000 in
theorem gJ_group_0 (l : Launch) (D : va_G) (cI cL cQ : ClassId) (h0 : Nat) (tl : Nat) (tr : Nat) (cu : Nat) (bk : Nat) (g : Nat) (fa : Nat) (s1 : Nat) (s2 : Nat) (gs : Nat) (e0 : Nat → Int64) (e1 : Nat → Int64) (e2 : Nat → Int64) (e3 : Nat → Int64) (e4 : Nat → Int64) (x : Int32) (hg : g ≤ 400) (hgs : gs ≤ g) (h1 : ¬ x < 0) (h2 : ¬ nI gs ≤ x) : Met l yX5_group wsX5_group ({ frames := 2, cells := 0, slots := 0, locals := 43 }) (jr_P D vwCl (jT cI cL cQ) cL cQ [.ref h0, .int x, .int 0] [(h0, .inr (5, [.ref tl, .ref tr, .ref cu, .ref bk, .int 1])), (bk, .inr (1, [.int (nI g), .ref fa, .ref s1, .ref s2, .int (nI gs), .int 1])), (fa, .inl (cQ, 5, .inr (.inr (.inr (.inr (fun j => if j < 5 then some (fa + 1 + j) else none)))))), (fa + 1, .inl (cL, g, .inr (.inl e0))), (fa + 2, .inl (cL, g, .inr (.inl e1))), (fa + 3, .inl (cL, g, .inr (.inl e2))), (fa + 4, .inl (cL, g, .inr (.inl e3))), (fa + 5, .inl (cL, g, .inr (.inl e4)))]) (vp_Sl (fun r : Int64 => r = if x < 0 ∨ nI gs ≤ x then 0 else e0 x.toNatClampNeg)) 0 0 (fun _ => False) := by
  refine Met.ofW (cc := cX5_group) (maxL := 4) (ret := (some .long)) (by decide) rfl ?_
  intro p e s m args below meth c s₁ B hml hv
  obtain ⟨rfl, hP, hK, hN⟩ := hv
  have hx := B.exec
  have hb := B.bytes
  have hr := B.returns
  have hts := atoms_spec (ws := wsX5_group) B.pre
  have hown : s.vm.findClass RX5 = some m.cls := findClass_of_methodNamed B.named
  have hlocks := B.notSynchronized
  have hl := lv_entry ([.ref h0, .int x, .int 0]) (n := 4) (Nat.le_of_ble_eq_true rfl)
  rw [lg_entry_eq]
  generalize (lg_sl ([.ref h0, .int x, .int 0]) ++ List.replicate (4 - (lg_sl ([.ref h0, .int x, .int 0])).length) Slot.unset).toArray = ls at hl ⊢
  have hl : lv_has ls 4 [(0, .ref h0), (1, .int x), (2, .int 0)] := hl
  refine lv_aload_n hx hb dX5_group_0 rfl (lv_at hl 0 rfl) ?_
  refine va_get (D := D) (ci := 5) (v := .int 1) (C := RX5) (T := TX5) (N := 5) hx hb hts (by decide +kernel) hown hK hP 0 rfl rfl 4 (by decide) (hts (.fieldLink RX5 41 "JoinDesk" "prepared" "Z") (by decide +kernel)) (fun _ h9 => h9) rfl dX5_group_1 ?_
  refine lv_if_eq (tgt := 21) hx hb dX5_group_4 (by decide) (fun c_1 => absurd c_1 (by decide)) (fun c_1 => ?_)
  refine lv_aload_n hx hb dX5_group_7 rfl (lv_at hl 0 rfl) ?_
  refine va_get (D := D) (ci := 5) (v := .ref bk) (C := RX5) (T := TX5) (N := 5) hx hb hts (by decide +kernel) hown hK hP 0 rfl rfl 3 (by decide) (hts (.fieldLink RX5 37 "JoinDesk" "book" "LJoinDesk$GroupBook;") (by decide +kernel)) (fun _ h9 => h9) rfl dX5_group_8 ?_
  refine vp_callSi (va_Run.run (va_runV (As := []) (rest := []) ⟨hx, hb, hml, hown, hts⟩ (gB_isTold_1 l D cI cL cQ bk g fa s1 s2 gs) (cwV 0 hts gX5_group_X1_isTold rfl rfl rfl (by decide +kernel) ⟨Nat.le_of_ble_eq_true rfl, Nat.le_of_ble_eq_true rfl⟩) (jr_V hK hN hP [1] rfl 1 1 rfl rfl rfl) rfl rfl hl.1 rfl (lv_room (Nat.le_of_ble_eq_true rfl)) dX5_group_11 ⟨Nat.le_of_ble_eq_true rfl, Nat.le_of_ble_eq_true rfl⟩)) (fun r f_2 => ?_)
  obtain rfl := f_2
  refine lv_if_eq (tgt := 21) hx hb dX5_group_14 (by decide) (fun c_3 => absurd c_3 (by decide)) (fun c_3 => ?_)
  refine lv_iconst (v := 1) hx hb dX5_group_17 (by decide) ?_
  refine lv_goto (tgt := 22) hx hb dX5_group_18 (by decide) ?_
  refine lv_istore_n (lv' := [(3, .int 1), (0, .ref h0), (1, .int x), (2, .int 0)]) hx hb dX5_group_22 rfl hl (by decide) rfl (fun ls hl => ?_)
  refine lv_iload_n hx hb dX5_group_23 rfl (lv_at hl 2 rfl) ?_
  refine lv_if_lt (tgt := 54) hx hb dX5_group_24 (by decide) (fun c_4 => absurd c_4 (by exact h1)) (fun c_4 => ?_)
  refine lv_iload_n hx hb dX5_group_27 rfl (lv_at hl 0 rfl) ?_
  refine lv_if_eq (tgt := 42) hx hb dX5_group_28 (by decide) (fun c_5 => absurd c_5 (by decide)) (fun c_5 => ?_)
  refine lv_aload_n hx hb dX5_group_31 rfl (lv_at hl 1 rfl) ?_
  refine va_get (D := D) (ci := 5) (v := .ref bk) (C := RX5) (T := TX5) (N := 5) hx hb hts (by decide +kernel) hown hK hP 0 rfl rfl 3 (by decide) (hts (.fieldLink RX5 37 "JoinDesk" "book" "LJoinDesk$GroupBook;") (by decide +kernel)) (fun _ h9 => h9) rfl dX5_group_32 ?_
  refine lv_iload_n hx hb dX5_group_35 rfl (lv_at hl 2 rfl) ?_
  refine vp_callSi (va_Run.run (va_runV (As := [.int x]) (rest := []) ⟨hx, hb, hml, hown, hts⟩ (gB_has l D cI cL cQ bk g fa s1 s2 gs 1 x) (cwV 1 hts gX5_group_X1_has rfl rfl rfl (by decide +kernel) ⟨Nat.le_of_ble_eq_true rfl, Nat.le_of_ble_eq_true rfl⟩) (jr_V hK hN hP [1] rfl 1 1 rfl rfl rfl) rfl rfl hl.1 rfl (lv_room (Nat.le_of_ble_eq_true rfl)) dX5_group_36 ⟨Nat.le_of_ble_eq_true rfl, Nat.le_of_ble_eq_true rfl⟩)) (fun r f_6 => ?_)
  rcases f_6 with ⟨rfl, f_7, f_8⟩ | ⟨rfl, f_9⟩
  · refine lv_if_eq (tgt := 54) hx hb dX5_group_39 (by decide) (fun c_10 => absurd c_10 (by decide)) (fun c_10 => ?_)
    refine lv_iload_n hx hb dX5_group_42 rfl (lv_at hl 3 rfl) ?_
    refine lv_iconst (v := 5) hx hb dX5_group_43 (by decide) ?_
    refine vp_callSi (va_Run.run (va_runS (As := [.int 0, .int 5]) (rest := []) ⟨hx, hb, hml, hown, hts⟩ (gJ_isBelow l D cI cL cQ 0 5) (va_cwS 2 hts gX5_group_X5_isBelow rfl rfl rfl (by decide +kernel) ⟨Nat.le_of_ble_eq_true rfl, Nat.le_of_ble_eq_true rfl⟩) (jr_S hK hN hP [] rfl) rfl rfl hl.1 rfl (lv_room (Nat.le_of_ble_eq_true rfl)) dX5_group_44 ⟨Nat.le_of_ble_eq_true rfl, Nat.le_of_ble_eq_true rfl⟩)) (fun r f_11 => ?_)
    rcases f_11 with ⟨rfl, f_12, f_13⟩ | ⟨rfl, f_14⟩
    · refine lv_if_eq (tgt := 54) hx hb dX5_group_47 (by decide) (fun c_15 => absurd c_15 (by decide)) (fun c_15 => ?_)
      refine lv_iconst (v := 1) hx hb dX5_group_50 (by decide) ?_
      refine lv_goto (tgt := 55) hx hb dX5_group_51 (by decide) ?_
      refine va_csv (va_Run.run (va_runS (As := [.int 1]) (rest := []) ⟨hx, hb, hml, hown, hts⟩ (gJ_requireArgument_ok l D cI cL cQ) (va_cwS 1 hts gX5_group_X5_requireArgument rfl rfl rfl (by decide +kernel) ⟨Nat.le_of_ble_eq_true rfl, Nat.le_of_ble_eq_true rfl⟩) (jr_S hK hN hP [] rfl) rfl rfl hl.1 rfl (lv_room (Nat.le_of_ble_eq_true rfl)) dX5_group_55 ⟨Nat.le_of_ble_eq_true rfl, Nat.le_of_ble_eq_true rfl⟩)) (fun f_16 => ?_)
      refine lv_iload_n hx hb dX5_group_58 rfl (lv_at hl 0 rfl) ?_
      refine va_csv (va_Run.run (va_runS (As := [.int 1]) (rest := []) ⟨hx, hb, hml, hown, hts⟩ (gJ_requireState_ok l D cI cL cQ) (va_cwS 1 hts gX5_group_X5_requireState rfl rfl rfl (by decide +kernel) ⟨Nat.le_of_ble_eq_true rfl, Nat.le_of_ble_eq_true rfl⟩) (jr_S hK hN hP [] rfl) rfl rfl hl.1 rfl (lv_room (Nat.le_of_ble_eq_true rfl)) dX5_group_59 ⟨Nat.le_of_ble_eq_true rfl, Nat.le_of_ble_eq_true rfl⟩)) (fun f_17 => ?_)
      refine lv_aload_n hx hb dX5_group_62 rfl (lv_at hl 1 rfl) ?_
      refine va_get (D := D) (ci := 5) (v := .ref bk) (C := RX5) (T := TX5) (N := 5) hx hb hts (by decide +kernel) hown hK hP 0 rfl rfl 3 (by decide) (hts (.fieldLink RX5 37 "JoinDesk" "book" "LJoinDesk$GroupBook;") (by decide +kernel)) (fun _ h9 => h9) rfl dX5_group_63 ?_
      refine lv_iload_n hx hb dX5_group_66 rfl (lv_at hl 2 rfl) ?_
      refine lv_iload_n hx hb dX5_group_67 rfl (lv_at hl 3 rfl) ?_
      refine vp_callSl (va_Run.run (va_runV (As := [.int x, .int 0]) (rest := []) ⟨hx, hb, hml, hown, hts⟩ (gB_fact_0 l D cI cL cQ bk g fa s1 s2 gs 1 e0 e1 e2 e3 e4 x (by first | assumption | decide | omega) (by first | assumption | decide | omega)) (cwV 2 hts gX5_group_X1_fact rfl rfl rfl (by decide +kernel) ⟨Nat.le_of_ble_eq_true rfl, Nat.le_of_ble_eq_true rfl⟩) (jr_V hK hN hP [1, 2, 3, 4, 5, 6, 7] rfl 1 1 rfl rfl rfl) rfl rfl hl.1 rfl (lv_room (Nat.le_of_ble_eq_true rfl)) dX5_group_68 ⟨Nat.le_of_ble_eq_true rfl, Nat.le_of_ble_eq_true rfl⟩)) (fun r f_18 => ?_)
      obtain rfl := f_18
      exact W.lret (v := if x < 0 ∨ nI gs ≤ x then 0 else e0 x.toNatClampNeg) hx hb hr (fun t ht hW => ⟨(if x < 0 ∨ nI gs ≤ x then 0 else e0 x.toNatClampNeg), rfl, (by exact rfl), ht⟩) (fun _ h => nomatch h) dX5_group_71
    · exact False.elim (by revert f_14; decide)
  · exact False.elim (f_9.elim h1 h2)
set_option maxHeartbeats 1000000 in
set_option maxRecDepth 100000 in
theorem gJ_group_1 (l : Launch) (D : va_G) (cI cL cQ : ClassId) (h0 : Nat) (tl : Nat) (tr : Nat) (cu : Nat) (bk : Nat) (g : Nat) (fa : Nat) (s1 : Nat) (s2 : Nat) (gs : Nat) (e0 : Nat → Int64) (e1 : Nat → Int64) (e2 : Nat → Int64) (e3 : Nat → Int64) (e4 : Nat → Int64) (x : Int32) (hg : g ≤ 400) (hgs : gs ≤ g) (h1 : ¬ x < 0) (h2 : ¬ nI gs ≤ x) : Met l yX5_group wsX5_group ({ frames := 2, cells := 0, slots := 0, locals := 43 }) (jr_P D vwCl (jT cI cL cQ) cL cQ [.ref h0, .int x, .int 1] [(h0, .inr (5, [.ref tl, .ref tr, .ref cu, .ref bk, .int 1])), (bk, .inr (1, [.int (nI g), .ref fa, .ref s1, .ref s2, .int (nI gs), .int 1])), (fa, .inl (cQ, 5, .inr (.inr (.inr (.inr (fun j => if j < 5 then some (fa + 1 + j) else none)))))), (fa + 1, .inl (cL, g, .inr (.inl e0))), (fa + 2, .inl (cL, g, .inr (.inl e1))), (fa + 3, .inl (cL, g, .inr (.inl e2))), (fa + 4, .inl (cL, g, .inr (.inl e3))), (fa + 5, .inl (cL, g, .inr (.inl e4)))]) (vp_Sl (fun r : Int64 => r = if x < 0 ∨ nI gs ≤ x then 0 else e1 x.toNatClampNeg)) 0 0 (fun _ => False) := by
  refine Met.ofW (cc := cX5_group) (maxL := 4) (ret := (some .long)) (by decide) rfl ?_
  intro p e s m args below meth c s₁ B hml hv
  obtain ⟨rfl, hP, hK, hN⟩ := hv
  have hx := B.exec
  have hb := B.bytes
  have hr := B.returns
  have hts := atoms_spec (ws := wsX5_group) B.pre
  have hown : s.vm.findClass RX5 = some m.cls := findClass_of_methodNamed B.named
  have hlocks := B.notSynchronized
  have hl := lv_entry ([.ref h0, .int x, .int 1]) (n := 4) (Nat.le_of_ble_eq_true rfl)
  rw [lg_entry_eq]
  generalize (lg_sl ([.ref h0, .int x, .int 1]) ++ List.replicate (4 - (lg_sl ([.ref h0, .int x, .int 1])).length) Slot.unset).toArray = ls at hl ⊢
  have hl : lv_has ls 4 [(0, .ref h0), (1, .int x), (2, .int 1)] := hl
  refine lv_aload_n hx hb dX5_group_0 rfl (lv_at hl 0 rfl) ?_
  refine va_get (D := D) (ci := 5) (v := .int 1) (C := RX5) (T := TX5) (N := 5) hx hb hts (by decide +kernel) hown hK hP 0 rfl rfl 4 (by decide) (hts (.fieldLink RX5 41 "JoinDesk" "prepared" "Z") (by decide +kernel)) (fun _ h9 => h9) rfl dX5_group_1 ?_
  refine lv_if_eq (tgt := 21) hx hb dX5_group_4 (by decide) (fun c_1 => absurd c_1 (by decide)) (fun c_1 => ?_)
  refine lv_aload_n hx hb dX5_group_7 rfl (lv_at hl 0 rfl) ?_
  refine va_get (D := D) (ci := 5) (v := .ref bk) (C := RX5) (T := TX5) (N := 5) hx hb hts (by decide +kernel) hown hK hP 0 rfl rfl 3 (by decide) (hts (.fieldLink RX5 37 "JoinDesk" "book" "LJoinDesk$GroupBook;") (by decide +kernel)) (fun _ h9 => h9) rfl dX5_group_8 ?_
  refine vp_callSi (va_Run.run (va_runV (As := []) (rest := []) ⟨hx, hb, hml, hown, hts⟩ (gB_isTold_1 l D cI cL cQ bk g fa s1 s2 gs) (cwV 0 hts gX5_group_X1_isTold rfl rfl rfl (by decide +kernel) ⟨Nat.le_of_ble_eq_true rfl, Nat.le_of_ble_eq_true rfl⟩) (jr_V hK hN hP [1] rfl 1 1 rfl rfl rfl) rfl rfl hl.1 rfl (lv_room (Nat.le_of_ble_eq_true rfl)) dX5_group_11 ⟨Nat.le_of_ble_eq_true rfl, Nat.le_of_ble_eq_true rfl⟩)) (fun r f_2 => ?_)
  obtain rfl := f_2
  refine lv_if_eq (tgt := 21) hx hb dX5_group_14 (by decide) (fun c_3 => absurd c_3 (by decide)) (fun c_3 => ?_)
  refine lv_iconst (v := 1) hx hb dX5_group_17 (by decide) ?_
  refine lv_goto (tgt := 22) hx hb dX5_group_18 (by decide) ?_
  refine lv_istore_n (lv' := [(3, .int 1), (0, .ref h0), (1, .int x), (2, .int 1)]) hx hb dX5_group_22 rfl hl (by decide) rfl (fun ls hl => ?_)
  refine lv_iload_n hx hb dX5_group_23 rfl (lv_at hl 2 rfl) ?_
  refine lv_if_lt (tgt := 54) hx hb dX5_group_24 (by decide) (fun c_4 => absurd c_4 (by exact h1)) (fun c_4 => ?_)
  refine lv_iload_n hx hb dX5_group_27 rfl (lv_at hl 0 rfl) ?_
  refine lv_if_eq (tgt := 42) hx hb dX5_group_28 (by decide) (fun c_5 => absurd c_5 (by decide)) (fun c_5 => ?_)
  refine lv_aload_n hx hb dX5_group_31 rfl (lv_at hl 1 rfl) ?_
  refine va_get (D := D) (ci := 5) (v := .ref bk) (C := RX5) (T := TX5) (N := 5) hx hb hts (by decide +kernel) hown hK hP 0 rfl rfl 3 (by decide) (hts (.fieldLink RX5 37 "JoinDesk" "book" "LJoinDesk$GroupBook;") (by decide +kernel)) (fun _ h9 => h9) rfl dX5_group_32 ?_
  refine lv_iload_n hx hb dX5_group_35 rfl (lv_at hl 2 rfl) ?_
  refine vp_callSi (va_Run.run (va_runV (As := [.int x]) (rest := []) ⟨hx, hb, hml, hown, hts⟩ (gB_has l D cI cL cQ bk g fa s1 s2 gs 1 x) (cwV 1 hts gX5_group_X1_has rfl rfl rfl (by decide +kernel) ⟨Nat.le_of_ble_eq_true rfl, Nat.le_of_ble_eq_true rfl⟩) (jr_V hK hN hP [1] rfl 1 1 rfl rfl rfl) rfl rfl hl.1 rfl (lv_room (Nat.le_of_ble_eq_true rfl)) dX5_group_36 ⟨Nat.le_of_ble_eq_true rfl, Nat.le_of_ble_eq_true rfl⟩)) (fun r f_6 => ?_)
  rcases f_6 with ⟨rfl, f_7, f_8⟩ | ⟨rfl, f_9⟩
  · refine lv_if_eq (tgt := 54) hx hb dX5_group_39 (by decide) (fun c_10 => absurd c_10 (by decide)) (fun c_10 => ?_)
    refine lv_iload_n hx hb dX5_group_42 rfl (lv_at hl 3 rfl) ?_
    refine lv_iconst (v := 5) hx hb dX5_group_43 (by decide) ?_
    refine vp_callSi (va_Run.run (va_runS (As := [.int 1, .int 5]) (rest := []) ⟨hx, hb, hml, hown, hts⟩ (gJ_isBelow l D cI cL cQ 1 5) (va_cwS 2 hts gX5_group_X5_isBelow rfl rfl rfl (by decide +kernel) ⟨Nat.le_of_ble_eq_true rfl, Nat.le_of_ble_eq_true rfl⟩) (jr_S hK hN hP [] rfl) rfl rfl hl.1 rfl (lv_room (Nat.le_of_ble_eq_true rfl)) dX5_group_44 ⟨Nat.le_of_ble_eq_true rfl, Nat.le_of_ble_eq_true rfl⟩)) (fun r f_11 => ?_)
    rcases f_11 with ⟨rfl, f_12, f_13⟩ | ⟨rfl, f_14⟩
    · refine lv_if_eq (tgt := 54) hx hb dX5_group_47 (by decide) (fun c_15 => absurd c_15 (by decide)) (fun c_15 => ?_)
      refine lv_iconst (v := 1) hx hb dX5_group_50 (by decide) ?_
      refine lv_goto (tgt := 55) hx hb dX5_group_51 (by decide) ?_
      refine va_csv (va_Run.run (va_runS (As := [.int 1]) (rest := []) ⟨hx, hb, hml, hown, hts⟩ (gJ_requireArgument_ok l D cI cL cQ) (va_cwS 1 hts gX5_group_X5_requireArgument rfl rfl rfl (by decide +kernel) ⟨Nat.le_of_ble_eq_true rfl, Nat.le_of_ble_eq_true rfl⟩) (jr_S hK hN hP [] rfl) rfl rfl hl.1 rfl (lv_room (Nat.le_of_ble_eq_true rfl)) dX5_group_55 ⟨Nat.le_of_ble_eq_true rfl, Nat.le_of_ble_eq_true rfl⟩)) (fun f_16 => ?_)
      refine lv_iload_n hx hb dX5_group_58 rfl (lv_at hl 0 rfl) ?_
      refine va_csv (va_Run.run (va_runS (As := [.int 1]) (rest := []) ⟨hx, hb, hml, hown, hts⟩ (gJ_requireState_ok l D cI cL cQ) (va_cwS 1 hts gX5_group_X5_requireState rfl rfl rfl (by decide +kernel) ⟨Nat.le_of_ble_eq_true rfl, Nat.le_of_ble_eq_true rfl⟩) (jr_S hK hN hP [] rfl) rfl rfl hl.1 rfl (lv_room (Nat.le_of_ble_eq_true rfl)) dX5_group_59 ⟨Nat.le_of_ble_eq_true rfl, Nat.le_of_ble_eq_true rfl⟩)) (fun f_17 => ?_)
      refine lv_aload_n hx hb dX5_group_62 rfl (lv_at hl 1 rfl) ?_
      refine va_get (D := D) (ci := 5) (v := .ref bk) (C := RX5) (T := TX5) (N := 5) hx hb hts (by decide +kernel) hown hK hP 0 rfl rfl 3 (by decide) (hts (.fieldLink RX5 37 "JoinDesk" "book" "LJoinDesk$GroupBook;") (by decide +kernel)) (fun _ h9 => h9) rfl dX5_group_63 ?_
      refine lv_iload_n hx hb dX5_group_66 rfl (lv_at hl 2 rfl) ?_
      refine lv_iload_n hx hb dX5_group_67 rfl (lv_at hl 3 rfl) ?_
      refine vp_callSl (va_Run.run (va_runV (As := [.int x, .int 1]) (rest := []) ⟨hx, hb, hml, hown, hts⟩ (gB_fact_1 l D cI cL cQ bk g fa s1 s2 gs 1 e0 e1 e2 e3 e4 x (by first | assumption | decide | omega) (by first | assumption | decide | omega)) (cwV 2 hts gX5_group_X1_fact rfl rfl rfl (by decide +kernel) ⟨Nat.le_of_ble_eq_true rfl, Nat.le_of_ble_eq_true rfl⟩) (jr_V hK hN hP [1, 2, 3, 4, 5, 6, 7] rfl 1 1 rfl rfl rfl) rfl rfl hl.1 rfl (lv_room (Nat.le_of_ble_eq_true rfl)) dX5_group_68 ⟨Nat.le_of_ble_eq_true rfl, Nat.le_of_ble_eq_true rfl⟩)) (fun r f_18 => ?_)
      obtain rfl := f_18
      exact W.lret (v := if x < 0 ∨ nI gs ≤ x then 0 else e1 x.toNatClampNeg) hx hb hr (fun t ht hW => ⟨(if x < 0 ∨ nI gs ≤ x then 0 else e1 x.toNatClampNeg), rfl, (by exact rfl), ht⟩) (fun _ h => nomatch h) dX5_group_71
    · exact False.elim (by revert f_14; decide)
  · exact False.elim (f_9.elim h1 h2)
set_option maxHeartbeats 1000000 in
set_option maxRecDepth 100000 in
theorem gJ_group_2 (l : Launch) (D : va_G) (cI cL cQ : ClassId) (h0 : Nat) (tl : Nat) (tr : Nat) (cu : Nat) (bk : Nat) (g : Nat) (fa : Nat) (s1 : Nat) (s2 : Nat) (gs : Nat) (e0 : Nat → Int64) (e1 : Nat → Int64) (e2 : Nat → Int64) (e3 : Nat → Int64) (e4 : Nat → Int64) (x : Int32) (hg : g ≤ 400) (hgs : gs ≤ g) (h1 : ¬ x < 0) (h2 : ¬ nI gs ≤ x) : Met l yX5_group wsX5_group ({ frames := 2, cells := 0, slots := 0, locals := 43 }) (jr_P D vwCl (jT cI cL cQ) cL cQ [.ref h0, .int x, .int 2] [(h0, .inr (5, [.ref tl, .ref tr, .ref cu, .ref bk, .int 1])), (bk, .inr (1, [.int (nI g), .ref fa, .ref s1, .ref s2, .int (nI gs), .int 1])), (fa, .inl (cQ, 5, .inr (.inr (.inr (.inr (fun j => if j < 5 then some (fa + 1 + j) else none)))))), (fa + 1, .inl (cL, g, .inr (.inl e0))), (fa + 2, .inl (cL, g, .inr (.inl e1))), (fa + 3, .inl (cL, g, .inr (.inl e2))), (fa + 4, .inl (cL, g, .inr (.inl e3))), (fa + 5, .inl (cL, g, .inr (.inl e4)))]) (vp_Sl (fun r : Int64 => r = if x < 0 ∨ nI gs ≤ x then 0 else e2 x.toNatClampNeg)) 0 0 (fun _ => False) := by
  refine Met.ofW (cc := cX5_group) (maxL := 4) (ret := (some .long)) (by decide) rfl ?_
  intro p e s m args below meth c s₁ B hml hv
  obtain ⟨rfl, hP, hK, hN⟩ := hv
  have hx := B.exec
  have hb := B.bytes
  have hr := B.returns
  have hts := atoms_spec (ws := wsX5_group) B.pre
  have hown : s.vm.findClass RX5 = some m.cls := findClass_of_methodNamed B.named
  have hlocks := B.notSynchronized
  have hl := lv_entry ([.ref h0, .int x, .int 2]) (n := 4) (Nat.le_of_ble_eq_true rfl)
  rw [lg_entry_eq]
  generalize (lg_sl ([.ref h0, .int x, .int 2]) ++ List.replicate (4 - (lg_sl ([.ref h0, .int x, .int 2])).length) Slot.unset).toArray = ls at hl ⊢
  have hl : lv_has ls 4 [(0, .ref h0), (1, .int x), (2, .int 2)] := hl
  refine lv_aload_n hx hb dX5_group_0 rfl (lv_at hl 0 rfl) ?_
  refine va_get (D := D) (ci := 5) (v := .int 1) (C := RX5) (T := TX5) (N := 5) hx hb hts (by decide +kernel) hown hK hP 0 rfl rfl 4 (by decide) (hts (.fieldLink RX5 41 "JoinDesk" "prepared" "Z") (by decide +kernel)) (fun _ h9 => h9) rfl dX5_group_1 ?_
  refine lv_if_eq (tgt := 21) hx hb dX5_group_4 (by decide) (fun c_1 => absurd c_1 (by decide)) (fun c_1 => ?_)
  refine lv_aload_n hx hb dX5_group_7 rfl (lv_at hl 0 rfl) ?_
  refine va_get (D := D) (ci := 5) (v := .ref bk) (C := RX5) (T := TX5) (N := 5) hx hb hts (by decide +kernel) hown hK hP 0 rfl rfl 3 (by decide) (hts (.fieldLink RX5 37 "JoinDesk" "book" "LJoinDesk$GroupBook;") (by decide +kernel)) (fun _ h9 => h9) rfl dX5_group_8 ?_
  refine vp_callSi (va_Run.run (va_runV (As := []) (rest := []) ⟨hx, hb, hml, hown, hts⟩ (gB_isTold_1 l D cI cL cQ bk g fa s1 s2 gs) (cwV 0 hts gX5_group_X1_isTold rfl rfl rfl (by decide +kernel) ⟨Nat.le_of_ble_eq_true rfl, Nat.le_of_ble_eq_true rfl⟩) (jr_V hK hN hP [1] rfl 1 1 rfl rfl rfl) rfl rfl hl.1 rfl (lv_room (Nat.le_of_ble_eq_true rfl)) dX5_group_11 ⟨Nat.le_of_ble_eq_true rfl, Nat.le_of_ble_eq_true rfl⟩)) (fun r f_2 => ?_)
  obtain rfl := f_2
  refine lv_if_eq (tgt := 21) hx hb dX5_group_14 (by decide) (fun c_3 => absurd c_3 (by decide)) (fun c_3 => ?_)
  refine lv_iconst (v := 1) hx hb dX5_group_17 (by decide) ?_
  refine lv_goto (tgt := 22) hx hb dX5_group_18 (by decide) ?_
  refine lv_istore_n (lv' := [(3, .int 1), (0, .ref h0), (1, .int x), (2, .int 2)]) hx hb dX5_group_22 rfl hl (by decide) rfl (fun ls hl => ?_)
  refine lv_iload_n hx hb dX5_group_23 rfl (lv_at hl 2 rfl) ?_
  refine lv_if_lt (tgt := 54) hx hb dX5_group_24 (by decide) (fun c_4 => absurd c_4 (by exact h1)) (fun c_4 => ?_)
  refine lv_iload_n hx hb dX5_group_27 rfl (lv_at hl 0 rfl) ?_
  refine lv_if_eq (tgt := 42) hx hb dX5_group_28 (by decide) (fun c_5 => absurd c_5 (by decide)) (fun c_5 => ?_)
  refine lv_aload_n hx hb dX5_group_31 rfl (lv_at hl 1 rfl) ?_
  refine va_get (D := D) (ci := 5) (v := .ref bk) (C := RX5) (T := TX5) (N := 5) hx hb hts (by decide +kernel) hown hK hP 0 rfl rfl 3 (by decide) (hts (.fieldLink RX5 37 "JoinDesk" "book" "LJoinDesk$GroupBook;") (by decide +kernel)) (fun _ h9 => h9) rfl dX5_group_32 ?_
  refine lv_iload_n hx hb dX5_group_35 rfl (lv_at hl 2 rfl) ?_
  refine vp_callSi (va_Run.run (va_runV (As := [.int x]) (rest := []) ⟨hx, hb, hml, hown, hts⟩ (gB_has l D cI cL cQ bk g fa s1 s2 gs 1 x) (cwV 1 hts gX5_group_X1_has rfl rfl rfl (by decide +kernel) ⟨Nat.le_of_ble_eq_true rfl, Nat.le_of_ble_eq_true rfl⟩) (jr_V hK hN hP [1] rfl 1 1 rfl rfl rfl) rfl rfl hl.1 rfl (lv_room (Nat.le_of_ble_eq_true rfl)) dX5_group_36 ⟨Nat.le_of_ble_eq_true rfl, Nat.le_of_ble_eq_true rfl⟩)) (fun r f_6 => ?_)
  rcases f_6 with ⟨rfl, f_7, f_8⟩ | ⟨rfl, f_9⟩
  · refine lv_if_eq (tgt := 54) hx hb dX5_group_39 (by decide) (fun c_10 => absurd c_10 (by decide)) (fun c_10 => ?_)
    refine lv_iload_n hx hb dX5_group_42 rfl (lv_at hl 3 rfl) ?_
    refine lv_iconst (v := 5) hx hb dX5_group_43 (by decide) ?_
    refine vp_callSi (va_Run.run (va_runS (As := [.int 2, .int 5]) (rest := []) ⟨hx, hb, hml, hown, hts⟩ (gJ_isBelow l D cI cL cQ 2 5) (va_cwS 2 hts gX5_group_X5_isBelow rfl rfl rfl (by decide +kernel) ⟨Nat.le_of_ble_eq_true rfl, Nat.le_of_ble_eq_true rfl⟩) (jr_S hK hN hP [] rfl) rfl rfl hl.1 rfl (lv_room (Nat.le_of_ble_eq_true rfl)) dX5_group_44 ⟨Nat.le_of_ble_eq_true rfl, Nat.le_of_ble_eq_true rfl⟩)) (fun r f_11 => ?_)
    rcases f_11 with ⟨rfl, f_12, f_13⟩ | ⟨rfl, f_14⟩
    · refine lv_if_eq (tgt := 54) hx hb dX5_group_47 (by decide) (fun c_15 => absurd c_15 (by decide)) (fun c_15 => ?_)
      refine lv_iconst (v := 1) hx hb dX5_group_50 (by decide) ?_
      refine lv_goto (tgt := 55) hx hb dX5_group_51 (by decide) ?_
      refine va_csv (va_Run.run (va_runS (As := [.int 1]) (rest := []) ⟨hx, hb, hml, hown, hts⟩ (gJ_requireArgument_ok l D cI cL cQ) (va_cwS 1 hts gX5_group_X5_requireArgument rfl rfl rfl (by decide +kernel) ⟨Nat.le_of_ble_eq_true rfl, Nat.le_of_ble_eq_true rfl⟩) (jr_S hK hN hP [] rfl) rfl rfl hl.1 rfl (lv_room (Nat.le_of_ble_eq_true rfl)) dX5_group_55 ⟨Nat.le_of_ble_eq_true rfl, Nat.le_of_ble_eq_true rfl⟩)) (fun f_16 => ?_)
      refine lv_iload_n hx hb dX5_group_58 rfl (lv_at hl 0 rfl) ?_
      refine va_csv (va_Run.run (va_runS (As := [.int 1]) (rest := []) ⟨hx, hb, hml, hown, hts⟩ (gJ_requireState_ok l D cI cL cQ) (va_cwS 1 hts gX5_group_X5_requireState rfl rfl rfl (by decide +kernel) ⟨Nat.le_of_ble_eq_true rfl, Nat.le_of_ble_eq_true rfl⟩) (jr_S hK hN hP [] rfl) rfl rfl hl.1 rfl (lv_room (Nat.le_of_ble_eq_true rfl)) dX5_group_59 ⟨Nat.le_of_ble_eq_true rfl, Nat.le_of_ble_eq_true rfl⟩)) (fun f_17 => ?_)
      refine lv_aload_n hx hb dX5_group_62 rfl (lv_at hl 1 rfl) ?_
      refine va_get (D := D) (ci := 5) (v := .ref bk) (C := RX5) (T := TX5) (N := 5) hx hb hts (by decide +kernel) hown hK hP 0 rfl rfl 3 (by decide) (hts (.fieldLink RX5 37 "JoinDesk" "book" "LJoinDesk$GroupBook;") (by decide +kernel)) (fun _ h9 => h9) rfl dX5_group_63 ?_
      refine lv_iload_n hx hb dX5_group_66 rfl (lv_at hl 2 rfl) ?_
      refine lv_iload_n hx hb dX5_group_67 rfl (lv_at hl 3 rfl) ?_
      refine vp_callSl (va_Run.run (va_runV (As := [.int x, .int 2]) (rest := []) ⟨hx, hb, hml, hown, hts⟩ (gB_fact_2 l D cI cL cQ bk g fa s1 s2 gs 1 e0 e1 e2 e3 e4 x (by first | assumption | decide | omega) (by first | assumption | decide | omega)) (cwV 2 hts gX5_group_X1_fact rfl rfl rfl (by decide +kernel) ⟨Nat.le_of_ble_eq_true rfl, Nat.le_of_ble_eq_true rfl⟩) (jr_V hK hN hP [1, 2, 3, 4, 5, 6, 7] rfl 1 1 rfl rfl rfl) rfl rfl hl.1 rfl (lv_room (Nat.le_of_ble_eq_true rfl)) dX5_group_68 ⟨Nat.le_of_ble_eq_true rfl, Nat.le_of_ble_eq_true rfl⟩)) (fun r f_18 => ?_)
      obtain rfl := f_18
      exact W.lret (v := if x < 0 ∨ nI gs ≤ x then 0 else e2 x.toNatClampNeg) hx hb hr (fun t ht hW => ⟨(if x < 0 ∨ nI gs ≤ x then 0 else e2 x.toNatClampNeg), rfl, (by exact rfl), ht⟩) (fun _ h => nomatch h) dX5_group_71
    · exact False.elim (by revert f_14; decide)
  · exact False.elim (f_9.elim h1 h2)
set_option maxHeartbeats 1000000 in
set_option maxRecDepth 100000 in
theorem gJ_group_3 (l : Launch) (D : va_G) (cI cL cQ : ClassId) (h0 : Nat) (tl : Nat) (tr : Nat) (cu : Nat) (bk : Nat) (g : Nat) (fa : Nat) (s1 : Nat) (s2 : Nat) (gs : Nat) (e0 : Nat → Int64) (e1 : Nat → Int64) (e2 : Nat → Int64) (e3 : Nat → Int64) (e4 : Nat → Int64) (x : Int32) (hg : g ≤ 400) (hgs : gs ≤ g) (h1 : ¬ x < 0) (h2 : ¬ nI gs ≤ x) : Met l yX5_group wsX5_group ({ frames := 2, cells := 0, slots := 0, locals := 43 }) (jr_P D vwCl (jT cI cL cQ) cL cQ [.ref h0, .int x, .int 3] [(h0, .inr (5, [.ref tl, .ref tr, .ref cu, .ref bk, .int 1])), (bk, .inr (1, [.int (nI g), .ref fa, .ref s1, .ref s2, .int (nI gs), .int 1])), (fa, .inl (cQ, 5, .inr (.inr (.inr (.inr (fun j => if j < 5 then some (fa + 1 + j) else none)))))), (fa + 1, .inl (cL, g, .inr (.inl e0))), (fa + 2, .inl (cL, g, .inr (.inl e1))), (fa + 3, .inl (cL, g, .inr (.inl e2))), (fa + 4, .inl (cL, g, .inr (.inl e3))), (fa + 5, .inl (cL, g, .inr (.inl e4)))]) (vp_Sl (fun r : Int64 => r = if x < 0 ∨ nI gs ≤ x then 0 else e3 x.toNatClampNeg)) 0 0 (fun _ => False) := by
  refine Met.ofW (cc := cX5_group) (maxL := 4) (ret := (some .long)) (by decide) rfl ?_
  intro p e s m args below meth c s₁ B hml hv
  obtain ⟨rfl, hP, hK, hN⟩ := hv
  have hx := B.exec
  have hb := B.bytes
  have hr := B.returns
  have hts := atoms_spec (ws := wsX5_group) B.pre
  have hown : s.vm.findClass RX5 = some m.cls := findClass_of_methodNamed B.named
  have hlocks := B.notSynchronized
  have hl := lv_entry ([.ref h0, .int x, .int 3]) (n := 4) (Nat.le_of_ble_eq_true rfl)
  rw [lg_entry_eq]
  generalize (lg_sl ([.ref h0, .int x, .int 3]) ++ List.replicate (4 - (lg_sl ([.ref h0, .int x, .int 3])).length) Slot.unset).toArray = ls at hl ⊢
  have hl : lv_has ls 4 [(0, .ref h0), (1, .int x), (2, .int 3)] := hl
  refine lv_aload_n hx hb dX5_group_0 rfl (lv_at hl 0 rfl) ?_
  refine va_get (D := D) (ci := 5) (v := .int 1) (C := RX5) (T := TX5) (N := 5) hx hb hts (by decide +kernel) hown hK hP 0 rfl rfl 4 (by decide) (hts (.fieldLink RX5 41 "JoinDesk" "prepared" "Z") (by decide +kernel)) (fun _ h9 => h9) rfl dX5_group_1 ?_
  refine lv_if_eq (tgt := 21) hx hb dX5_group_4 (by decide) (fun c_1 => absurd c_1 (by decide)) (fun c_1 => ?_)
  refine lv_aload_n hx hb dX5_group_7 rfl (lv_at hl 0 rfl) ?_
  refine va_get (D := D) (ci := 5) (v := .ref bk) (C := RX5) (T := TX5) (N := 5) hx hb hts (by decide +kernel) hown hK hP 0 rfl rfl 3 (by decide) (hts (.fieldLink RX5 37 "JoinDesk" "book" "LJoinDesk$GroupBook;") (by decide +kernel)) (fun _ h9 => h9) rfl dX5_group_8 ?_
  refine vp_callSi (va_Run.run (va_runV (As := []) (rest := []) ⟨hx, hb, hml, hown, hts⟩ (gB_isTold_1 l D cI cL cQ bk g fa s1 s2 gs) (cwV 0 hts gX5_group_X1_isTold rfl rfl rfl (by decide +kernel) ⟨Nat.le_of_ble_eq_true rfl, Nat.le_of_ble_eq_true rfl⟩) (jr_V hK hN hP [1] rfl 1 1 rfl rfl rfl) rfl rfl hl.1 rfl (lv_room (Nat.le_of_ble_eq_true rfl)) dX5_group_11 ⟨Nat.le_of_ble_eq_true rfl, Nat.le_of_ble_eq_true rfl⟩)) (fun r f_2 => ?_)
  obtain rfl := f_2
  refine lv_if_eq (tgt := 21) hx hb dX5_group_14 (by decide) (fun c_3 => absurd c_3 (by decide)) (fun c_3 => ?_)
  refine lv_iconst (v := 1) hx hb dX5_group_17 (by decide) ?_
  refine lv_goto (tgt := 22) hx hb dX5_group_18 (by decide) ?_
  refine lv_istore_n (lv' := [(3, .int 1), (0, .ref h0), (1, .int x), (2, .int 3)]) hx hb dX5_group_22 rfl hl (by decide) rfl (fun ls hl => ?_)
  refine lv_iload_n hx hb dX5_group_23 rfl (lv_at hl 2 rfl) ?_
  refine lv_if_lt (tgt := 54) hx hb dX5_group_24 (by decide) (fun c_4 => absurd c_4 (by exact h1)) (fun c_4 => ?_)
  refine lv_iload_n hx hb dX5_group_27 rfl (lv_at hl 0 rfl) ?_
  refine lv_if_eq (tgt := 42) hx hb dX5_group_28 (by decide) (fun c_5 => absurd c_5 (by decide)) (fun c_5 => ?_)
  refine lv_aload_n hx hb dX5_group_31 rfl (lv_at hl 1 rfl) ?_
  refine va_get (D := D) (ci := 5) (v := .ref bk) (C := RX5) (T := TX5) (N := 5) hx hb hts (by decide +kernel) hown hK hP 0 rfl rfl 3 (by decide) (hts (.fieldLink RX5 37 "JoinDesk" "book" "LJoinDesk$GroupBook;") (by decide +kernel)) (fun _ h9 => h9) rfl dX5_group_32 ?_
  refine lv_iload_n hx hb dX5_group_35 rfl (lv_at hl 2 rfl) ?_
  refine vp_callSi (va_Run.run (va_runV (As := [.int x]) (rest := []) ⟨hx, hb, hml, hown, hts⟩ (gB_has l D cI cL cQ bk g fa s1 s2 gs 1 x) (cwV 1 hts gX5_group_X1_has rfl rfl rfl (by decide +kernel) ⟨Nat.le_of_ble_eq_true rfl, Nat.le_of_ble_eq_true rfl⟩) (jr_V hK hN hP [1] rfl 1 1 rfl rfl rfl) rfl rfl hl.1 rfl (lv_room (Nat.le_of_ble_eq_true rfl)) dX5_group_36 ⟨Nat.le_of_ble_eq_true rfl, Nat.le_of_ble_eq_true rfl⟩)) (fun r f_6 => ?_)
  rcases f_6 with ⟨rfl, f_7, f_8⟩ | ⟨rfl, f_9⟩
  · refine lv_if_eq (tgt := 54) hx hb dX5_group_39 (by decide) (fun c_10 => absurd c_10 (by decide)) (fun c_10 => ?_)
    refine lv_iload_n hx hb dX5_group_42 rfl (lv_at hl 3 rfl) ?_
    refine lv_iconst (v := 5) hx hb dX5_group_43 (by decide) ?_
    refine vp_callSi (va_Run.run (va_runS (As := [.int 3, .int 5]) (rest := []) ⟨hx, hb, hml, hown, hts⟩ (gJ_isBelow l D cI cL cQ 3 5) (va_cwS 2 hts gX5_group_X5_isBelow rfl rfl rfl (by decide +kernel) ⟨Nat.le_of_ble_eq_true rfl, Nat.le_of_ble_eq_true rfl⟩) (jr_S hK hN hP [] rfl) rfl rfl hl.1 rfl (lv_room (Nat.le_of_ble_eq_true rfl)) dX5_group_44 ⟨Nat.le_of_ble_eq_true rfl, Nat.le_of_ble_eq_true rfl⟩)) (fun r f_11 => ?_)
    rcases f_11 with ⟨rfl, f_12, f_13⟩ | ⟨rfl, f_14⟩
    · refine lv_if_eq (tgt := 54) hx hb dX5_group_47 (by decide) (fun c_15 => absurd c_15 (by decide)) (fun c_15 => ?_)
      refine lv_iconst (v := 1) hx hb dX5_group_50 (by decide) ?_
      refine lv_goto (tgt := 55) hx hb dX5_group_51 (by decide) ?_
      refine va_csv (va_Run.run (va_runS (As := [.int 1]) (rest := []) ⟨hx, hb, hml, hown, hts⟩ (gJ_requireArgument_ok l D cI cL cQ) (va_cwS 1 hts gX5_group_X5_requireArgument rfl rfl rfl (by decide +kernel) ⟨Nat.le_of_ble_eq_true rfl, Nat.le_of_ble_eq_true rfl⟩) (jr_S hK hN hP [] rfl) rfl rfl hl.1 rfl (lv_room (Nat.le_of_ble_eq_true rfl)) dX5_group_55 ⟨Nat.le_of_ble_eq_true rfl, Nat.le_of_ble_eq_true rfl⟩)) (fun f_16 => ?_)
      refine lv_iload_n hx hb dX5_group_58 rfl (lv_at hl 0 rfl) ?_
      refine va_csv (va_Run.run (va_runS (As := [.int 1]) (rest := []) ⟨hx, hb, hml, hown, hts⟩ (gJ_requireState_ok l D cI cL cQ) (va_cwS 1 hts gX5_group_X5_requireState rfl rfl rfl (by decide +kernel) ⟨Nat.le_of_ble_eq_true rfl, Nat.le_of_ble_eq_true rfl⟩) (jr_S hK hN hP [] rfl) rfl rfl hl.1 rfl (lv_room (Nat.le_of_ble_eq_true rfl)) dX5_group_59 ⟨Nat.le_of_ble_eq_true rfl, Nat.le_of_ble_eq_true rfl⟩)) (fun f_17 => ?_)
      refine lv_aload_n hx hb dX5_group_62 rfl (lv_at hl 1 rfl) ?_
      refine va_get (D := D) (ci := 5) (v := .ref bk) (C := RX5) (T := TX5) (N := 5) hx hb hts (by decide +kernel) hown hK hP 0 rfl rfl 3 (by decide) (hts (.fieldLink RX5 37 "JoinDesk" "book" "LJoinDesk$GroupBook;") (by decide +kernel)) (fun _ h9 => h9) rfl dX5_group_63 ?_
      refine lv_iload_n hx hb dX5_group_66 rfl (lv_at hl 2 rfl) ?_
      refine lv_iload_n hx hb dX5_group_67 rfl (lv_at hl 3 rfl) ?_
      refine vp_callSl (va_Run.run (va_runV (As := [.int x, .int 3]) (rest := []) ⟨hx, hb, hml, hown, hts⟩ (gB_fact_3 l D cI cL cQ bk g fa s1 s2 gs 1 e0 e1 e2 e3 e4 x (by first | assumption | decide | omega) (by first | assumption | decide | omega)) (cwV 2 hts gX5_group_X1_fact rfl rfl rfl (by decide +kernel) ⟨Nat.le_of_ble_eq_true rfl, Nat.le_of_ble_eq_true rfl⟩) (jr_V hK hN hP [1, 2, 3, 4, 5, 6, 7] rfl 1 1 rfl rfl rfl) rfl rfl hl.1 rfl (lv_room (Nat.le_of_ble_eq_true rfl)) dX5_group_68 ⟨Nat.le_of_ble_eq_true rfl, Nat.le_of_ble_eq_true rfl⟩)) (fun r f_18 => ?_)
      obtain rfl := f_18
      exact W.lret (v := if x < 0 ∨ nI gs ≤ x then 0 else e3 x.toNatClampNeg) hx hb hr (fun t ht hW => ⟨(if x < 0 ∨ nI gs ≤ x then 0 else e3 x.toNatClampNeg), rfl, (by exact rfl), ht⟩) (fun _ h => nomatch h) dX5_group_71
    · exact False.elim (by revert f_14; decide)
  · exact False.elim (f_9.elim h1 h2)
set_option maxHeartbeats 1000000 in
set_option maxRecDepth 100000 in
theorem gJ_group_4 (l : Launch) (D : va_G) (cI cL cQ : ClassId) (h0 : Nat) (tl : Nat) (tr : Nat) (cu : Nat) (bk : Nat) (g : Nat) (fa : Nat) (s1 : Nat) (s2 : Nat) (gs : Nat) (e0 : Nat → Int64) (e1 : Nat → Int64) (e2 : Nat → Int64) (e3 : Nat → Int64) (e4 : Nat → Int64) (x : Int32) (hg : g ≤ 400) (hgs : gs ≤ g) (h1 : ¬ x < 0) (h2 : ¬ nI gs ≤ x) : Met l yX5_group wsX5_group ({ frames := 2, cells := 0, slots := 0, locals := 43 }) (jr_P D vwCl (jT cI cL cQ) cL cQ [.ref h0, .int x, .int 4] [(h0, .inr (5, [.ref tl, .ref tr, .ref cu, .ref bk, .int 1])), (bk, .inr (1, [.int (nI g), .ref fa, .ref s1, .ref s2, .int (nI gs), .int 1])), (fa, .inl (cQ, 5, .inr (.inr (.inr (.inr (fun j => if j < 5 then some (fa + 1 + j) else none)))))), (fa + 1, .inl (cL, g, .inr (.inl e0))), (fa + 2, .inl (cL, g, .inr (.inl e1))), (fa + 3, .inl (cL, g, .inr (.inl e2))), (fa + 4, .inl (cL, g, .inr (.inl e3))), (fa + 5, .inl (cL, g, .inr (.inl e4)))]) (vp_Sl (fun r : Int64 => r = if x < 0 ∨ nI gs ≤ x then 0 else e4 x.toNatClampNeg)) 0 0 (fun _ => False) := by
  refine Met.ofW (cc := cX5_group) (maxL := 4) (ret := (some .long)) (by decide) rfl ?_
  intro p e s m args below meth c s₁ B hml hv
  obtain ⟨rfl, hP, hK, hN⟩ := hv
  have hx := B.exec
  have hb := B.bytes
  have hr := B.returns
  have hts := atoms_spec (ws := wsX5_group) B.pre
  have hown : s.vm.findClass RX5 = some m.cls := findClass_of_methodNamed B.named
  have hlocks := B.notSynchronized
  have hl := lv_entry ([.ref h0, .int x, .int 4]) (n := 4) (Nat.le_of_ble_eq_true rfl)
  rw [lg_entry_eq]
  generalize (lg_sl ([.ref h0, .int x, .int 4]) ++ List.replicate (4 - (lg_sl ([.ref h0, .int x, .int 4])).length) Slot.unset).toArray = ls at hl ⊢
  have hl : lv_has ls 4 [(0, .ref h0), (1, .int x), (2, .int 4)] := hl
  refine lv_aload_n hx hb dX5_group_0 rfl (lv_at hl 0 rfl) ?_
  refine va_get (D := D) (ci := 5) (v := .int 1) (C := RX5) (T := TX5) (N := 5) hx hb hts (by decide +kernel) hown hK hP 0 rfl rfl 4 (by decide) (hts (.fieldLink RX5 41 "JoinDesk" "prepared" "Z") (by decide +kernel)) (fun _ h9 => h9) rfl dX5_group_1 ?_
  refine lv_if_eq (tgt := 21) hx hb dX5_group_4 (by decide) (fun c_1 => absurd c_1 (by decide)) (fun c_1 => ?_)
  refine lv_aload_n hx hb dX5_group_7 rfl (lv_at hl 0 rfl) ?_
  refine va_get (D := D) (ci := 5) (v := .ref bk) (C := RX5) (T := TX5) (N := 5) hx hb hts (by decide +kernel) hown hK hP 0 rfl rfl 3 (by decide) (hts (.fieldLink RX5 37 "JoinDesk" "book" "LJoinDesk$GroupBook;") (by decide +kernel)) (fun _ h9 => h9) rfl dX5_group_8 ?_
  refine vp_callSi (va_Run.run (va_runV (As := []) (rest := []) ⟨hx, hb, hml, hown, hts⟩ (gB_isTold_1 l D cI cL cQ bk g fa s1 s2 gs) (cwV 0 hts gX5_group_X1_isTold rfl rfl rfl (by decide +kernel) ⟨Nat.le_of_ble_eq_true rfl, Nat.le_of_ble_eq_true rfl⟩) (jr_V hK hN hP [1] rfl 1 1 rfl rfl rfl) rfl rfl hl.1 rfl (lv_room (Nat.le_of_ble_eq_true rfl)) dX5_group_11 ⟨Nat.le_of_ble_eq_true rfl, Nat.le_of_ble_eq_true rfl⟩)) (fun r f_2 => ?_)
  obtain rfl := f_2
  refine lv_if_eq (tgt := 21) hx hb dX5_group_14 (by decide) (fun c_3 => absurd c_3 (by decide)) (fun c_3 => ?_)
  refine lv_iconst (v := 1) hx hb dX5_group_17 (by decide) ?_
  refine lv_goto (tgt := 22) hx hb dX5_group_18 (by decide) ?_
  refine lv_istore_n (lv' := [(3, .int 1), (0, .ref h0), (1, .int x), (2, .int 4)]) hx hb dX5_group_22 rfl hl (by decide) rfl (fun ls hl => ?_)
  refine lv_iload_n hx hb dX5_group_23 rfl (lv_at hl 2 rfl) ?_
  refine lv_if_lt (tgt := 54) hx hb dX5_group_24 (by decide) (fun c_4 => absurd c_4 (by exact h1)) (fun c_4 => ?_)
  refine lv_iload_n hx hb dX5_group_27 rfl (lv_at hl 0 rfl) ?_
  refine lv_if_eq (tgt := 42) hx hb dX5_group_28 (by decide) (fun c_5 => absurd c_5 (by decide)) (fun c_5 => ?_)
  refine lv_aload_n hx hb dX5_group_31 rfl (lv_at hl 1 rfl) ?_
  refine va_get (D := D) (ci := 5) (v := .ref bk) (C := RX5) (T := TX5) (N := 5) hx hb hts (by decide +kernel) hown hK hP 0 rfl rfl 3 (by decide) (hts (.fieldLink RX5 37 "JoinDesk" "book" "LJoinDesk$GroupBook;") (by decide +kernel)) (fun _ h9 => h9) rfl dX5_group_32 ?_
  refine lv_iload_n hx hb dX5_group_35 rfl (lv_at hl 2 rfl) ?_
  refine vp_callSi (va_Run.run (va_runV (As := [.int x]) (rest := []) ⟨hx, hb, hml, hown, hts⟩ (gB_has l D cI cL cQ bk g fa s1 s2 gs 1 x) (cwV 1 hts gX5_group_X1_has rfl rfl rfl (by decide +kernel) ⟨Nat.le_of_ble_eq_true rfl, Nat.le_of_ble_eq_true rfl⟩) (jr_V hK hN hP [1] rfl 1 1 rfl rfl rfl) rfl rfl hl.1 rfl (lv_room (Nat.le_of_ble_eq_true rfl)) dX5_group_36 ⟨Nat.le_of_ble_eq_true rfl, Nat.le_of_ble_eq_true rfl⟩)) (fun r f_6 => ?_)
  rcases f_6 with ⟨rfl, f_7, f_8⟩ | ⟨rfl, f_9⟩
  · refine lv_if_eq (tgt := 54) hx hb dX5_group_39 (by decide) (fun c_10 => absurd c_10 (by decide)) (fun c_10 => ?_)
    refine lv_iload_n hx hb dX5_group_42 rfl (lv_at hl 3 rfl) ?_
    refine lv_iconst (v := 5) hx hb dX5_group_43 (by decide) ?_
    refine vp_callSi (va_Run.run (va_runS (As := [.int 4, .int 5]) (rest := []) ⟨hx, hb, hml, hown, hts⟩ (gJ_isBelow l D cI cL cQ 4 5) (va_cwS 2 hts gX5_group_X5_isBelow rfl rfl rfl (by decide +kernel) ⟨Nat.le_of_ble_eq_true rfl, Nat.le_of_ble_eq_true rfl⟩) (jr_S hK hN hP [] rfl) rfl rfl hl.1 rfl (lv_room (Nat.le_of_ble_eq_true rfl)) dX5_group_44 ⟨Nat.le_of_ble_eq_true rfl, Nat.le_of_ble_eq_true rfl⟩)) (fun r f_11 => ?_)
    rcases f_11 with ⟨rfl, f_12, f_13⟩ | ⟨rfl, f_14⟩
    · refine lv_if_eq (tgt := 54) hx hb dX5_group_47 (by decide) (fun c_15 => absurd c_15 (by decide)) (fun c_15 => ?_)
      refine lv_iconst (v := 1) hx hb dX5_group_50 (by decide) ?_
      refine lv_goto (tgt := 55) hx hb dX5_group_51 (by decide) ?_
      refine va_csv (va_Run.run (va_runS (As := [.int 1]) (rest := []) ⟨hx, hb, hml, hown, hts⟩ (gJ_requireArgument_ok l D cI cL cQ) (va_cwS 1 hts gX5_group_X5_requireArgument rfl rfl rfl (by decide +kernel) ⟨Nat.le_of_ble_eq_true rfl, Nat.le_of_ble_eq_true rfl⟩) (jr_S hK hN hP [] rfl) rfl rfl hl.1 rfl (lv_room (Nat.le_of_ble_eq_true rfl)) dX5_group_55 ⟨Nat.le_of_ble_eq_true rfl, Nat.le_of_ble_eq_true rfl⟩)) (fun f_16 => ?_)
      refine lv_iload_n hx hb dX5_group_58 rfl (lv_at hl 0 rfl) ?_
      refine va_csv (va_Run.run (va_runS (As := [.int 1]) (rest := []) ⟨hx, hb, hml, hown, hts⟩ (gJ_requireState_ok l D cI cL cQ) (va_cwS 1 hts gX5_group_X5_requireState rfl rfl rfl (by decide +kernel) ⟨Nat.le_of_ble_eq_true rfl, Nat.le_of_ble_eq_true rfl⟩) (jr_S hK hN hP [] rfl) rfl rfl hl.1 rfl (lv_room (Nat.le_of_ble_eq_true rfl)) dX5_group_59 ⟨Nat.le_of_ble_eq_true rfl, Nat.le_of_ble_eq_true rfl⟩)) (fun f_17 => ?_)
      refine lv_aload_n hx hb dX5_group_62 rfl (lv_at hl 1 rfl) ?_
      refine va_get (D := D) (ci := 5) (v := .ref bk) (C := RX5) (T := TX5) (N := 5) hx hb hts (by decide +kernel) hown hK hP 0 rfl rfl 3 (by decide) (hts (.fieldLink RX5 37 "JoinDesk" "book" "LJoinDesk$GroupBook;") (by decide +kernel)) (fun _ h9 => h9) rfl dX5_group_63 ?_
      refine lv_iload_n hx hb dX5_group_66 rfl (lv_at hl 2 rfl) ?_
      refine lv_iload_n hx hb dX5_group_67 rfl (lv_at hl 3 rfl) ?_
      refine vp_callSl (va_Run.run (va_runV (As := [.int x, .int 4]) (rest := []) ⟨hx, hb, hml, hown, hts⟩ (gB_fact_4 l D cI cL cQ bk g fa s1 s2 gs 1 e0 e1 e2 e3 e4 x (by first | assumption | decide | omega) (by first | assumption | decide | omega)) (cwV 2 hts gX5_group_X1_fact rfl rfl rfl (by decide +kernel) ⟨Nat.le_of_ble_eq_true rfl, Nat.le_of_ble_eq_true rfl⟩) (jr_V hK hN hP [1, 2, 3, 4, 5, 6, 7] rfl 1 1 rfl rfl rfl) rfl rfl hl.1 rfl (lv_room (Nat.le_of_ble_eq_true rfl)) dX5_group_68 ⟨Nat.le_of_ble_eq_true rfl, Nat.le_of_ble_eq_true rfl⟩)) (fun r f_18 => ?_)
      obtain rfl := f_18
      exact W.lret (v := if x < 0 ∨ nI gs ≤ x then 0 else e4 x.toNatClampNeg) hx hb hr (fun t ht hW => ⟨(if x < 0 ∨ nI gs ≤ x then 0 else e4 x.toNatClampNeg), rfl, (by exact rfl), ht⟩) (fun _ h => nomatch h) dX5_group_71
    · exact False.elim (by revert f_14; decide)
  · exact False.elim (f_9.elim h1 h2)
set_option maxHeartbeats 1000000 in
set_option maxRecDepth 100000 in
theorem gJ_group_a1 (l : Launch) (hnt : l.stackTraces = false) (D : va_G) (cI cL cQ : ClassId) (h0 : Nat) (tl : Nat) (tr : Nat) (cu : Nat) (bk : Nat) (g : Nat) (fa : Nat) (s1 : Nat) (s2 : Nat) (gs : Nat) (x : Int32) (y : Int32) (h1 : (x < 0 ∨ nI gs ≤ x) ∨ (y < 0 ∨ 5 ≤ y)) : vx_Met l yX5_group wsX5_group ({ frames := 7, cells := 1, slots := 6, locals := 102 }) (jt_P D vwCl (jT cI cL cQ) cL cQ [.ref h0, .int x, .int y] [(h0, .inr (5, [.ref tl, .ref tr, .ref cu, .ref bk, .int 1])), (bk, .inr (1, [.int (nI g), .ref fa, .ref s1, .ref s2, .int (nI gs), .int 1]))]) (fun _ _ _ _ => False) (jx_X "java/lang/IllegalArgumentException") 1 6 (fun _ => False) := by
  refine vx_ofW (cc := cX5_group) (maxL := 4) (ret := (some .long)) (by decide) rfl ?_
  intro p e s m args below meth c s₁ B hml hxt hv
  obtain ⟨rfl, hP, hK, hN, hZ⟩ := hv
  have hx := B.exec
  have hb := B.bytes
  have hr := B.returns
  have hts := atoms_spec (ws := wsX5_group) B.pre
  have hown : s.vm.findClass RX5 = some m.cls := findClass_of_methodNamed B.named
  have hlocks := B.notSynchronized
  have hl := lv_entry ([.ref h0, .int x, .int y]) (n := 4) (Nat.le_of_ble_eq_true rfl)
  rw [lg_entry_eq]
  generalize (lg_sl ([.ref h0, .int x, .int y]) ++ List.replicate (4 - (lg_sl ([.ref h0, .int x, .int y])).length) Slot.unset).toArray = ls at hl ⊢
  have hl : lv_has ls 4 [(0, .ref h0), (1, .int x), (2, .int y)] := hl
  refine lv_aload_n hx hb dX5_group_0 rfl (lv_at hl 0 rfl) ?_
  refine va_get (D := D) (ci := 5) (v := .int 1) (C := RX5) (T := TX5) (N := 5) hx hb hts (by decide +kernel) hown hK hP 0 rfl rfl 4 (by decide) (hts (.fieldLink RX5 41 "JoinDesk" "prepared" "Z") (by decide +kernel)) (fun _ h9 => h9) rfl dX5_group_1 ?_
  refine lv_if_eq (tgt := 21) hx hb dX5_group_4 (by decide) (fun c_1 => absurd c_1 (by decide)) (fun c_1 => ?_)
  refine lv_aload_n hx hb dX5_group_7 rfl (lv_at hl 0 rfl) ?_
  refine va_get (D := D) (ci := 5) (v := .ref bk) (C := RX5) (T := TX5) (N := 5) hx hb hts (by decide +kernel) hown hK hP 0 rfl rfl 3 (by decide) (hts (.fieldLink RX5 37 "JoinDesk" "book" "LJoinDesk$GroupBook;") (by decide +kernel)) (fun _ h9 => h9) rfl dX5_group_8 ?_
  refine vp_callSi (va_Run.run (va_runV (As := []) (rest := []) ⟨hx, hb, hml, hown, hts⟩ (gB_isTold_1 l D cI cL cQ bk g fa s1 s2 gs) (cwV 0 hts gX5_group_X1_isTold rfl rfl rfl (by decide +kernel) ⟨Nat.le_of_ble_eq_true rfl, Nat.le_of_ble_eq_true rfl⟩) (jr_V hK hN hP [1] rfl 1 1 rfl rfl rfl) rfl rfl hl.1 rfl (lv_room (Nat.le_of_ble_eq_true rfl)) dX5_group_11 ⟨Nat.le_of_ble_eq_true rfl, Nat.le_of_ble_eq_true rfl⟩)) (fun r f_2 => ?_)
  obtain rfl := f_2
  refine lv_if_eq (tgt := 21) hx hb dX5_group_14 (by decide) (fun c_3 => absurd c_3 (by decide)) (fun c_3 => ?_)
  refine lv_iconst (v := 1) hx hb dX5_group_17 (by decide) ?_
  refine lv_goto (tgt := 22) hx hb dX5_group_18 (by decide) ?_
  refine lv_istore_n (lv' := [(3, .int 1), (0, .ref h0), (1, .int x), (2, .int y)]) hx hb dX5_group_22 rfl hl (by decide) rfl (fun ls hl => ?_)
  refine lv_iload_n hx hb dX5_group_23 rfl (lv_at hl 2 rfl) ?_
  refine lv_if_lt (tgt := 54) hx hb dX5_group_24 (by decide) (fun c_4 => ?_) (fun c_4 => ?_)
  · refine lv_iconst (v := 0) hx hb dX5_group_54 (by decide) ?_
    refine jx_thr (vx_runS (As := [.int 0]) (rest := []) ⟨hx, hb, hml, hown, hts⟩ (cJ_requireArgument_t l hnt D cI cL cQ) (va_cwS 1 hts gX5_group_X5_requireArgument rfl rfl rfl (by decide +kernel) ⟨Nat.le_of_ble_eq_true rfl, Nat.le_of_ble_eq_true rfl⟩) (jt_S hK hN hZ hP [] rfl) rfl rfl hl.1 rfl (lv_room (Nat.le_of_ble_eq_true rfl)) dX5_group_55 ⟨Nat.le_of_ble_eq_true rfl, Nat.le_of_ble_eq_true rfl⟩) (fun ce q9 H1 hz hk hce hcv hcl => ?_)
    exact jx_out hxt hlocks hz hk hce hcv hcl (Nat.le_of_ble_eq_true rfl) (Nat.le_of_ble_eq_true rfl)
  · refine lv_iload_n hx hb dX5_group_27 rfl (lv_at hl 0 rfl) ?_
    refine lv_if_eq (tgt := 42) hx hb dX5_group_28 (by decide) (fun c_5 => absurd c_5 (by decide)) (fun c_5 => ?_)
    refine lv_aload_n hx hb dX5_group_31 rfl (lv_at hl 1 rfl) ?_
    refine va_get (D := D) (ci := 5) (v := .ref bk) (C := RX5) (T := TX5) (N := 5) hx hb hts (by decide +kernel) hown hK hP 0 rfl rfl 3 (by decide) (hts (.fieldLink RX5 37 "JoinDesk" "book" "LJoinDesk$GroupBook;") (by decide +kernel)) (fun _ h9 => h9) rfl dX5_group_32 ?_
    refine lv_iload_n hx hb dX5_group_35 rfl (lv_at hl 2 rfl) ?_
    refine vp_callSi (va_Run.run (va_runV (As := [.int x]) (rest := []) ⟨hx, hb, hml, hown, hts⟩ (gB_has l D cI cL cQ bk g fa s1 s2 gs 1 x) (cwV 1 hts gX5_group_X1_has rfl rfl rfl (by decide +kernel) ⟨Nat.le_of_ble_eq_true rfl, Nat.le_of_ble_eq_true rfl⟩) (jr_V hK hN hP [1] rfl 1 1 rfl rfl rfl) rfl rfl hl.1 rfl (lv_room (Nat.le_of_ble_eq_true rfl)) dX5_group_36 ⟨Nat.le_of_ble_eq_true rfl, Nat.le_of_ble_eq_true rfl⟩)) (fun r f_6 => ?_)
    rcases f_6 with ⟨rfl, f_7, f_8⟩ | ⟨rfl, f_9⟩
    · refine lv_if_eq (tgt := 54) hx hb dX5_group_39 (by decide) (fun c_10 => absurd c_10 (by decide)) (fun c_10 => ?_)
      refine lv_iload_n hx hb dX5_group_42 rfl (lv_at hl 3 rfl) ?_
      refine lv_iconst (v := 5) hx hb dX5_group_43 (by decide) ?_
      refine vp_callSi (va_Run.run (va_runS (As := [.int y, .int 5]) (rest := []) ⟨hx, hb, hml, hown, hts⟩ (gJ_isBelow l D cI cL cQ y 5) (va_cwS 2 hts gX5_group_X5_isBelow rfl rfl rfl (by decide +kernel) ⟨Nat.le_of_ble_eq_true rfl, Nat.le_of_ble_eq_true rfl⟩) (jr_S hK hN hP [] rfl) rfl rfl hl.1 rfl (lv_room (Nat.le_of_ble_eq_true rfl)) dX5_group_44 ⟨Nat.le_of_ble_eq_true rfl, Nat.le_of_ble_eq_true rfl⟩)) (fun r f_11 => ?_)
      rcases f_11 with ⟨rfl, f_12, f_13⟩ | ⟨rfl, f_14⟩
      · exact False.elim (h1.elim (fun h => h.elim (by assumption) (by assumption)) (fun h => h.elim f_12 f_13))
      · refine lv_if_eq (tgt := 54) hx hb dX5_group_47 (by decide) (fun c_15 => ?_) (fun c_15 => absurd c_15 (by decide))
        refine lv_iconst (v := 0) hx hb dX5_group_54 (by decide) ?_
        refine jx_thr (vx_runS (As := [.int 0]) (rest := []) ⟨hx, hb, hml, hown, hts⟩ (cJ_requireArgument_t l hnt D cI cL cQ) (va_cwS 1 hts gX5_group_X5_requireArgument rfl rfl rfl (by decide +kernel) ⟨Nat.le_of_ble_eq_true rfl, Nat.le_of_ble_eq_true rfl⟩) (jt_S hK hN hZ hP [] rfl) rfl rfl hl.1 rfl (lv_room (Nat.le_of_ble_eq_true rfl)) dX5_group_55 ⟨Nat.le_of_ble_eq_true rfl, Nat.le_of_ble_eq_true rfl⟩) (fun ce q9 H1 hz hk hce hcv hcl => ?_)
        exact jx_out hxt hlocks hz hk hce hcv hcl (Nat.le_of_ble_eq_true rfl) (Nat.le_of_ble_eq_true rfl)
    · refine lv_if_eq (tgt := 54) hx hb dX5_group_39 (by decide) (fun c_16 => ?_) (fun c_16 => absurd c_16 (by decide))
      refine lv_iconst (v := 0) hx hb dX5_group_54 (by decide) ?_
      refine jx_thr (vx_runS (As := [.int 0]) (rest := []) ⟨hx, hb, hml, hown, hts⟩ (cJ_requireArgument_t l hnt D cI cL cQ) (va_cwS 1 hts gX5_group_X5_requireArgument rfl rfl rfl (by decide +kernel) ⟨Nat.le_of_ble_eq_true rfl, Nat.le_of_ble_eq_true rfl⟩) (jt_S hK hN hZ hP [] rfl) rfl rfl hl.1 rfl (lv_room (Nat.le_of_ble_eq_true rfl)) dX5_group_55 ⟨Nat.le_of_ble_eq_true rfl, Nat.le_of_ble_eq_true rfl⟩) (fun ce q9 H1 hz hk hce hcv hcl => ?_)
      exact jx_out hxt hlocks hz hk hce hcv hcl (Nat.le_of_ble_eq_true rfl) (Nat.le_of_ble_eq_true rfl)
set_option maxHeartbeats 1000000 in
set_option maxRecDepth 100000 in
theorem gJ_group_a0 (l : Launch) (hnt : l.stackTraces = false) (D : va_G) (cI cL cQ : ClassId) (h0 : Nat) (tl : Nat) (tr : Nat) (cu : Nat) (bk : Nat) (x : Int32) (y : Int32) (h1 : x < 0 ∨ (y < 0 ∨ 5 ≤ y)) : vx_Met l yX5_group wsX5_group ({ frames := 7, cells := 1, slots := 6, locals := 102 }) (jt_P D vwCl (jT cI cL cQ) cL cQ [.ref h0, .int x, .int y] [(h0, .inr (5, [.ref tl, .ref tr, .ref cu, .ref bk, .int 0]))]) (fun _ _ _ _ => False) (jx_X "java/lang/IllegalArgumentException") 1 6 (fun _ => False) := by
  refine vx_ofW (cc := cX5_group) (maxL := 4) (ret := (some .long)) (by decide) rfl ?_
  intro p e s m args below meth c s₁ B hml hxt hv
  obtain ⟨rfl, hP, hK, hN, hZ⟩ := hv
  have hx := B.exec
  have hb := B.bytes
  have hr := B.returns
  have hts := atoms_spec (ws := wsX5_group) B.pre
  have hown : s.vm.findClass RX5 = some m.cls := findClass_of_methodNamed B.named
  have hlocks := B.notSynchronized
  have hl := lv_entry ([.ref h0, .int x, .int y]) (n := 4) (Nat.le_of_ble_eq_true rfl)
  rw [lg_entry_eq]
  generalize (lg_sl ([.ref h0, .int x, .int y]) ++ List.replicate (4 - (lg_sl ([.ref h0, .int x, .int y])).length) Slot.unset).toArray = ls at hl ⊢
  have hl : lv_has ls 4 [(0, .ref h0), (1, .int x), (2, .int y)] := hl
  refine lv_aload_n hx hb dX5_group_0 rfl (lv_at hl 0 rfl) ?_
  refine va_get (D := D) (ci := 5) (v := .int 0) (C := RX5) (T := TX5) (N := 5) hx hb hts (by decide +kernel) hown hK hP 0 rfl rfl 4 (by decide) (hts (.fieldLink RX5 41 "JoinDesk" "prepared" "Z") (by decide +kernel)) (fun _ h9 => h9) rfl dX5_group_1 ?_
  refine lv_if_eq (tgt := 21) hx hb dX5_group_4 (by decide) (fun c_1 => ?_) (fun c_1 => absurd c_1 (by decide))
  refine lv_iconst (v := 0) hx hb dX5_group_21 (by decide) ?_
  refine lv_istore_n (lv' := [(3, .int 0), (0, .ref h0), (1, .int x), (2, .int y)]) hx hb dX5_group_22 rfl hl (by decide) rfl (fun ls hl => ?_)
  refine lv_iload_n hx hb dX5_group_23 rfl (lv_at hl 2 rfl) ?_
  refine lv_if_lt (tgt := 54) hx hb dX5_group_24 (by decide) (fun c_2 => ?_) (fun c_2 => ?_)
  · refine lv_iconst (v := 0) hx hb dX5_group_54 (by decide) ?_
    refine jx_thr (vx_runS (As := [.int 0]) (rest := []) ⟨hx, hb, hml, hown, hts⟩ (cJ_requireArgument_t l hnt D cI cL cQ) (va_cwS 1 hts gX5_group_X5_requireArgument rfl rfl rfl (by decide +kernel) ⟨Nat.le_of_ble_eq_true rfl, Nat.le_of_ble_eq_true rfl⟩) (jt_S hK hN hZ hP [] rfl) rfl rfl hl.1 rfl (lv_room (Nat.le_of_ble_eq_true rfl)) dX5_group_55 ⟨Nat.le_of_ble_eq_true rfl, Nat.le_of_ble_eq_true rfl⟩) (fun ce q9 H1 hz hk hce hcv hcl => ?_)
    exact jx_out hxt hlocks hz hk hce hcv hcl (Nat.le_of_ble_eq_true rfl) (Nat.le_of_ble_eq_true rfl)
  · refine lv_iload_n hx hb dX5_group_27 rfl (lv_at hl 0 rfl) ?_
    refine lv_if_eq (tgt := 42) hx hb dX5_group_28 (by decide) (fun c_3 => ?_) (fun c_3 => absurd c_3 (by decide))
    refine lv_iload_n hx hb dX5_group_42 rfl (lv_at hl 3 rfl) ?_
    refine lv_iconst (v := 5) hx hb dX5_group_43 (by decide) ?_
    refine vp_callSi (va_Run.run (va_runS (As := [.int y, .int 5]) (rest := []) ⟨hx, hb, hml, hown, hts⟩ (gJ_isBelow l D cI cL cQ y 5) (va_cwS 2 hts gX5_group_X5_isBelow rfl rfl rfl (by decide +kernel) ⟨Nat.le_of_ble_eq_true rfl, Nat.le_of_ble_eq_true rfl⟩) (jr_S hK hN hP [] rfl) rfl rfl hl.1 rfl (lv_room (Nat.le_of_ble_eq_true rfl)) dX5_group_44 ⟨Nat.le_of_ble_eq_true rfl, Nat.le_of_ble_eq_true rfl⟩)) (fun r f_4 => ?_)
    rcases f_4 with ⟨rfl, f_5, f_6⟩ | ⟨rfl, f_7⟩
    · exact False.elim (h1.elim (by assumption) (fun h => h.elim f_5 f_6))
    · refine lv_if_eq (tgt := 54) hx hb dX5_group_47 (by decide) (fun c_8 => ?_) (fun c_8 => absurd c_8 (by decide))
      refine lv_iconst (v := 0) hx hb dX5_group_54 (by decide) ?_
      refine jx_thr (vx_runS (As := [.int 0]) (rest := []) ⟨hx, hb, hml, hown, hts⟩ (cJ_requireArgument_t l hnt D cI cL cQ) (va_cwS 1 hts gX5_group_X5_requireArgument rfl rfl rfl (by decide +kernel) ⟨Nat.le_of_ble_eq_true rfl, Nat.le_of_ble_eq_true rfl⟩) (jt_S hK hN hZ hP [] rfl) rfl rfl hl.1 rfl (lv_room (Nat.le_of_ble_eq_true rfl)) dX5_group_55 ⟨Nat.le_of_ble_eq_true rfl, Nat.le_of_ble_eq_true rfl⟩) (fun ce q9 H1 hz hk hce hcv hcl => ?_)
      exact jx_out hxt hlocks hz hk hce hcv hcl (Nat.le_of_ble_eq_true rfl) (Nat.le_of_ble_eq_true rfl)
set_option maxHeartbeats 1000000 in
set_option maxRecDepth 100000 in
theorem gJ_group_s0 (l : Launch) (hnt : l.stackTraces = false) (D : va_G) (cI cL cQ : ClassId) (h0 : Nat) (tl : Nat) (tr : Nat) (cu : Nat) (bk : Nat) (x : Int32) (y : Int32) (h1 : ¬ x < 0) (h2 : ¬ y < 0) (h3 : ¬ 5 ≤ y) : vx_Met l yX5_group wsX5_group ({ frames := 7, cells := 1, slots := 6, locals := 102 }) (jt_P D vwCl (jT cI cL cQ) cL cQ [.ref h0, .int x, .int y] [(h0, .inr (5, [.ref tl, .ref tr, .ref cu, .ref bk, .int 0]))]) (fun _ _ _ _ => False) (jx_X "java/lang/IllegalStateException") 1 6 (fun _ => False) := by
  refine vx_ofW (cc := cX5_group) (maxL := 4) (ret := (some .long)) (by decide) rfl ?_
  intro p e s m args below meth c s₁ B hml hxt hv
  obtain ⟨rfl, hP, hK, hN, hZ⟩ := hv
  have hx := B.exec
  have hb := B.bytes
  have hr := B.returns
  have hts := atoms_spec (ws := wsX5_group) B.pre
  have hown : s.vm.findClass RX5 = some m.cls := findClass_of_methodNamed B.named
  have hlocks := B.notSynchronized
  have hl := lv_entry ([.ref h0, .int x, .int y]) (n := 4) (Nat.le_of_ble_eq_true rfl)
  rw [lg_entry_eq]
  generalize (lg_sl ([.ref h0, .int x, .int y]) ++ List.replicate (4 - (lg_sl ([.ref h0, .int x, .int y])).length) Slot.unset).toArray = ls at hl ⊢
  have hl : lv_has ls 4 [(0, .ref h0), (1, .int x), (2, .int y)] := hl
  refine lv_aload_n hx hb dX5_group_0 rfl (lv_at hl 0 rfl) ?_
  refine va_get (D := D) (ci := 5) (v := .int 0) (C := RX5) (T := TX5) (N := 5) hx hb hts (by decide +kernel) hown hK hP 0 rfl rfl 4 (by decide) (hts (.fieldLink RX5 41 "JoinDesk" "prepared" "Z") (by decide +kernel)) (fun _ h9 => h9) rfl dX5_group_1 ?_
  refine lv_if_eq (tgt := 21) hx hb dX5_group_4 (by decide) (fun c_1 => ?_) (fun c_1 => absurd c_1 (by decide))
  refine lv_iconst (v := 0) hx hb dX5_group_21 (by decide) ?_
  refine lv_istore_n (lv' := [(3, .int 0), (0, .ref h0), (1, .int x), (2, .int y)]) hx hb dX5_group_22 rfl hl (by decide) rfl (fun ls hl => ?_)
  refine lv_iload_n hx hb dX5_group_23 rfl (lv_at hl 2 rfl) ?_
  refine lv_if_lt (tgt := 54) hx hb dX5_group_24 (by decide) (fun c_2 => absurd c_2 (by exact h1)) (fun c_2 => ?_)
  refine lv_iload_n hx hb dX5_group_27 rfl (lv_at hl 0 rfl) ?_
  refine lv_if_eq (tgt := 42) hx hb dX5_group_28 (by decide) (fun c_3 => ?_) (fun c_3 => absurd c_3 (by decide))
  refine lv_iload_n hx hb dX5_group_42 rfl (lv_at hl 3 rfl) ?_
  refine lv_iconst (v := 5) hx hb dX5_group_43 (by decide) ?_
  refine vp_callSi (va_Run.run (va_runS (As := [.int y, .int 5]) (rest := []) ⟨hx, hb, hml, hown, hts⟩ (gJ_isBelow l D cI cL cQ y 5) (va_cwS 2 hts gX5_group_X5_isBelow rfl rfl rfl (by decide +kernel) ⟨Nat.le_of_ble_eq_true rfl, Nat.le_of_ble_eq_true rfl⟩) (jr_S hK hN hP [] rfl) rfl rfl hl.1 rfl (lv_room (Nat.le_of_ble_eq_true rfl)) dX5_group_44 ⟨Nat.le_of_ble_eq_true rfl, Nat.le_of_ble_eq_true rfl⟩)) (fun r f_4 => ?_)
  rcases f_4 with ⟨rfl, f_5, f_6⟩ | ⟨rfl, f_7⟩
  · refine lv_if_eq (tgt := 54) hx hb dX5_group_47 (by decide) (fun c_8 => absurd c_8 (by decide)) (fun c_8 => ?_)
    refine lv_iconst (v := 1) hx hb dX5_group_50 (by decide) ?_
    refine lv_goto (tgt := 55) hx hb dX5_group_51 (by decide) ?_
    refine va_csv (va_Run.run (va_runS (As := [.int 1]) (rest := []) ⟨hx, hb, hml, hown, hts⟩ (gJ_requireArgument_ok l D cI cL cQ) (va_cwS 1 hts gX5_group_X5_requireArgument rfl rfl rfl (by decide +kernel) ⟨Nat.le_of_ble_eq_true rfl, Nat.le_of_ble_eq_true rfl⟩) (jr_S hK hN hP [] rfl) rfl rfl hl.1 rfl (lv_room (Nat.le_of_ble_eq_true rfl)) dX5_group_55 ⟨Nat.le_of_ble_eq_true rfl, Nat.le_of_ble_eq_true rfl⟩)) (fun f_9 => ?_)
    refine lv_iload_n hx hb dX5_group_58 rfl (lv_at hl 0 rfl) ?_
    refine jx_thr (vx_runS (As := [.int 0]) (rest := []) ⟨hx, hb, hml, hown, hts⟩ (cJ_requireState_t l hnt D cI cL cQ) (va_cwS 1 hts gX5_group_X5_requireState rfl rfl rfl (by decide +kernel) ⟨Nat.le_of_ble_eq_true rfl, Nat.le_of_ble_eq_true rfl⟩) (jt_S hK hN hZ hP [] rfl) rfl rfl hl.1 rfl (lv_room (Nat.le_of_ble_eq_true rfl)) dX5_group_59 ⟨Nat.le_of_ble_eq_true rfl, Nat.le_of_ble_eq_true rfl⟩) (fun ce q9 H1 hz hk hce hcv hcl => ?_)
    exact jx_out hxt hlocks hz hk hce hcv hcl (Nat.le_of_ble_eq_true rfl) (Nat.le_of_ble_eq_true rfl)
  · exact False.elim (f_7.elim h2 h3)
set_option maxHeartbeats 1000000 in
set_option maxRecDepth 100000 in
theorem gJ_group_a10 (l : Launch) (hnt : l.stackTraces = false) (D : va_G) (cI cL cQ : ClassId) (h0 : Nat) (tl : Nat) (tr : Nat) (cu : Nat) (bk : Nat) (g : Nat) (fa : Nat) (s1 : Nat) (s2 : Nat) (gs : Nat) (x : Int32) (y : Int32) (h1 : x < 0 ∨ (y < 0 ∨ 5 ≤ y)) : vx_Met l yX5_group wsX5_group ({ frames := 7, cells := 1, slots := 6, locals := 102 }) (jt_P D vwCl (jT cI cL cQ) cL cQ [.ref h0, .int x, .int y] [(h0, .inr (5, [.ref tl, .ref tr, .ref cu, .ref bk, .int 1])), (bk, .inr (1, [.int (nI g), .ref fa, .ref s1, .ref s2, .int (nI gs), .int 0]))]) (fun _ _ _ _ => False) (jx_X "java/lang/IllegalArgumentException") 1 6 (fun _ => False) := by
  refine vx_ofW (cc := cX5_group) (maxL := 4) (ret := (some .long)) (by decide) rfl ?_
  intro p e s m args below meth c s₁ B hml hxt hv
  obtain ⟨rfl, hP, hK, hN, hZ⟩ := hv
  have hx := B.exec
  have hb := B.bytes
  have hr := B.returns
  have hts := atoms_spec (ws := wsX5_group) B.pre
  have hown : s.vm.findClass RX5 = some m.cls := findClass_of_methodNamed B.named
  have hlocks := B.notSynchronized
  have hl := lv_entry ([.ref h0, .int x, .int y]) (n := 4) (Nat.le_of_ble_eq_true rfl)
  rw [lg_entry_eq]
  generalize (lg_sl ([.ref h0, .int x, .int y]) ++ List.replicate (4 - (lg_sl ([.ref h0, .int x, .int y])).length) Slot.unset).toArray = ls at hl ⊢
  have hl : lv_has ls 4 [(0, .ref h0), (1, .int x), (2, .int y)] := hl
  refine lv_aload_n hx hb dX5_group_0 rfl (lv_at hl 0 rfl) ?_
  refine va_get (D := D) (ci := 5) (v := .int 1) (C := RX5) (T := TX5) (N := 5) hx hb hts (by decide +kernel) hown hK hP 0 rfl rfl 4 (by decide) (hts (.fieldLink RX5 41 "JoinDesk" "prepared" "Z") (by decide +kernel)) (fun _ h9 => h9) rfl dX5_group_1 ?_
  refine lv_if_eq (tgt := 21) hx hb dX5_group_4 (by decide) (fun c_1 => absurd c_1 (by decide)) (fun c_1 => ?_)
  refine lv_aload_n hx hb dX5_group_7 rfl (lv_at hl 0 rfl) ?_
  refine va_get (D := D) (ci := 5) (v := .ref bk) (C := RX5) (T := TX5) (N := 5) hx hb hts (by decide +kernel) hown hK hP 0 rfl rfl 3 (by decide) (hts (.fieldLink RX5 37 "JoinDesk" "book" "LJoinDesk$GroupBook;") (by decide +kernel)) (fun _ h9 => h9) rfl dX5_group_8 ?_
  refine vp_callSi (va_Run.run (va_runV (As := []) (rest := []) ⟨hx, hb, hml, hown, hts⟩ (gB_isTold_0 l D cI cL cQ bk g fa s1 s2 gs) (cwV 0 hts gX5_group_X1_isTold rfl rfl rfl (by decide +kernel) ⟨Nat.le_of_ble_eq_true rfl, Nat.le_of_ble_eq_true rfl⟩) (jr_V hK hN hP [1] rfl 1 1 rfl rfl rfl) rfl rfl hl.1 rfl (lv_room (Nat.le_of_ble_eq_true rfl)) dX5_group_11 ⟨Nat.le_of_ble_eq_true rfl, Nat.le_of_ble_eq_true rfl⟩)) (fun r f_2 => ?_)
  obtain rfl := f_2
  refine lv_if_eq (tgt := 21) hx hb dX5_group_14 (by decide) (fun c_3 => ?_) (fun c_3 => absurd c_3 (by decide))
  refine lv_iconst (v := 0) hx hb dX5_group_21 (by decide) ?_
  refine lv_istore_n (lv' := [(3, .int 0), (0, .ref h0), (1, .int x), (2, .int y)]) hx hb dX5_group_22 rfl hl (by decide) rfl (fun ls hl => ?_)
  refine lv_iload_n hx hb dX5_group_23 rfl (lv_at hl 2 rfl) ?_
  refine lv_if_lt (tgt := 54) hx hb dX5_group_24 (by decide) (fun c_4 => ?_) (fun c_4 => ?_)
  · refine lv_iconst (v := 0) hx hb dX5_group_54 (by decide) ?_
    refine jx_thr (vx_runS (As := [.int 0]) (rest := []) ⟨hx, hb, hml, hown, hts⟩ (cJ_requireArgument_t l hnt D cI cL cQ) (va_cwS 1 hts gX5_group_X5_requireArgument rfl rfl rfl (by decide +kernel) ⟨Nat.le_of_ble_eq_true rfl, Nat.le_of_ble_eq_true rfl⟩) (jt_S hK hN hZ hP [] rfl) rfl rfl hl.1 rfl (lv_room (Nat.le_of_ble_eq_true rfl)) dX5_group_55 ⟨Nat.le_of_ble_eq_true rfl, Nat.le_of_ble_eq_true rfl⟩) (fun ce q9 H1 hz hk hce hcv hcl => ?_)
    exact jx_out hxt hlocks hz hk hce hcv hcl (Nat.le_of_ble_eq_true rfl) (Nat.le_of_ble_eq_true rfl)
  · refine lv_iload_n hx hb dX5_group_27 rfl (lv_at hl 0 rfl) ?_
    refine lv_if_eq (tgt := 42) hx hb dX5_group_28 (by decide) (fun c_5 => ?_) (fun c_5 => absurd c_5 (by decide))
    refine lv_iload_n hx hb dX5_group_42 rfl (lv_at hl 3 rfl) ?_
    refine lv_iconst (v := 5) hx hb dX5_group_43 (by decide) ?_
    refine vp_callSi (va_Run.run (va_runS (As := [.int y, .int 5]) (rest := []) ⟨hx, hb, hml, hown, hts⟩ (gJ_isBelow l D cI cL cQ y 5) (va_cwS 2 hts gX5_group_X5_isBelow rfl rfl rfl (by decide +kernel) ⟨Nat.le_of_ble_eq_true rfl, Nat.le_of_ble_eq_true rfl⟩) (jr_S hK hN hP [] rfl) rfl rfl hl.1 rfl (lv_room (Nat.le_of_ble_eq_true rfl)) dX5_group_44 ⟨Nat.le_of_ble_eq_true rfl, Nat.le_of_ble_eq_true rfl⟩)) (fun r f_6 => ?_)
    rcases f_6 with ⟨rfl, f_7, f_8⟩ | ⟨rfl, f_9⟩
    · exact False.elim (h1.elim (by assumption) (fun h => h.elim f_7 f_8))
    · refine lv_if_eq (tgt := 54) hx hb dX5_group_47 (by decide) (fun c_10 => ?_) (fun c_10 => absurd c_10 (by decide))
      refine lv_iconst (v := 0) hx hb dX5_group_54 (by decide) ?_
      refine jx_thr (vx_runS (As := [.int 0]) (rest := []) ⟨hx, hb, hml, hown, hts⟩ (cJ_requireArgument_t l hnt D cI cL cQ) (va_cwS 1 hts gX5_group_X5_requireArgument rfl rfl rfl (by decide +kernel) ⟨Nat.le_of_ble_eq_true rfl, Nat.le_of_ble_eq_true rfl⟩) (jt_S hK hN hZ hP [] rfl) rfl rfl hl.1 rfl (lv_room (Nat.le_of_ble_eq_true rfl)) dX5_group_55 ⟨Nat.le_of_ble_eq_true rfl, Nat.le_of_ble_eq_true rfl⟩) (fun ce q9 H1 hz hk hce hcv hcl => ?_)
      exact jx_out hxt hlocks hz hk hce hcv hcl (Nat.le_of_ble_eq_true rfl) (Nat.le_of_ble_eq_true rfl)
set_option maxHeartbeats 1000000 in
set_option maxRecDepth 100000 in
theorem gJ_group_s10 (l : Launch) (hnt : l.stackTraces = false) (D : va_G) (cI cL cQ : ClassId) (h0 : Nat) (tl : Nat) (tr : Nat) (cu : Nat) (bk : Nat) (g : Nat) (fa : Nat) (s1 : Nat) (s2 : Nat) (gs : Nat) (x : Int32) (y : Int32) (h1 : ¬ x < 0) (h2 : ¬ y < 0) (h3 : ¬ 5 ≤ y) : vx_Met l yX5_group wsX5_group ({ frames := 7, cells := 1, slots := 6, locals := 102 }) (jt_P D vwCl (jT cI cL cQ) cL cQ [.ref h0, .int x, .int y] [(h0, .inr (5, [.ref tl, .ref tr, .ref cu, .ref bk, .int 1])), (bk, .inr (1, [.int (nI g), .ref fa, .ref s1, .ref s2, .int (nI gs), .int 0]))]) (fun _ _ _ _ => False) (jx_X "java/lang/IllegalStateException") 1 6 (fun _ => False) := by
  refine vx_ofW (cc := cX5_group) (maxL := 4) (ret := (some .long)) (by decide) rfl ?_
  intro p e s m args below meth c s₁ B hml hxt hv
  obtain ⟨rfl, hP, hK, hN, hZ⟩ := hv
  have hx := B.exec
  have hb := B.bytes
  have hr := B.returns
  have hts := atoms_spec (ws := wsX5_group) B.pre
  have hown : s.vm.findClass RX5 = some m.cls := findClass_of_methodNamed B.named
  have hlocks := B.notSynchronized
  have hl := lv_entry ([.ref h0, .int x, .int y]) (n := 4) (Nat.le_of_ble_eq_true rfl)
  rw [lg_entry_eq]
  generalize (lg_sl ([.ref h0, .int x, .int y]) ++ List.replicate (4 - (lg_sl ([.ref h0, .int x, .int y])).length) Slot.unset).toArray = ls at hl ⊢
  have hl : lv_has ls 4 [(0, .ref h0), (1, .int x), (2, .int y)] := hl
  refine lv_aload_n hx hb dX5_group_0 rfl (lv_at hl 0 rfl) ?_
  refine va_get (D := D) (ci := 5) (v := .int 1) (C := RX5) (T := TX5) (N := 5) hx hb hts (by decide +kernel) hown hK hP 0 rfl rfl 4 (by decide) (hts (.fieldLink RX5 41 "JoinDesk" "prepared" "Z") (by decide +kernel)) (fun _ h9 => h9) rfl dX5_group_1 ?_
  refine lv_if_eq (tgt := 21) hx hb dX5_group_4 (by decide) (fun c_1 => absurd c_1 (by decide)) (fun c_1 => ?_)
  refine lv_aload_n hx hb dX5_group_7 rfl (lv_at hl 0 rfl) ?_
  refine va_get (D := D) (ci := 5) (v := .ref bk) (C := RX5) (T := TX5) (N := 5) hx hb hts (by decide +kernel) hown hK hP 0 rfl rfl 3 (by decide) (hts (.fieldLink RX5 37 "JoinDesk" "book" "LJoinDesk$GroupBook;") (by decide +kernel)) (fun _ h9 => h9) rfl dX5_group_8 ?_
  refine vp_callSi (va_Run.run (va_runV (As := []) (rest := []) ⟨hx, hb, hml, hown, hts⟩ (gB_isTold_0 l D cI cL cQ bk g fa s1 s2 gs) (cwV 0 hts gX5_group_X1_isTold rfl rfl rfl (by decide +kernel) ⟨Nat.le_of_ble_eq_true rfl, Nat.le_of_ble_eq_true rfl⟩) (jr_V hK hN hP [1] rfl 1 1 rfl rfl rfl) rfl rfl hl.1 rfl (lv_room (Nat.le_of_ble_eq_true rfl)) dX5_group_11 ⟨Nat.le_of_ble_eq_true rfl, Nat.le_of_ble_eq_true rfl⟩)) (fun r f_2 => ?_)
  obtain rfl := f_2
  refine lv_if_eq (tgt := 21) hx hb dX5_group_14 (by decide) (fun c_3 => ?_) (fun c_3 => absurd c_3 (by decide))
  refine lv_iconst (v := 0) hx hb dX5_group_21 (by decide) ?_
  refine lv_istore_n (lv' := [(3, .int 0), (0, .ref h0), (1, .int x), (2, .int y)]) hx hb dX5_group_22 rfl hl (by decide) rfl (fun ls hl => ?_)
  refine lv_iload_n hx hb dX5_group_23 rfl (lv_at hl 2 rfl) ?_
  refine lv_if_lt (tgt := 54) hx hb dX5_group_24 (by decide) (fun c_4 => absurd c_4 (by exact h1)) (fun c_4 => ?_)
  refine lv_iload_n hx hb dX5_group_27 rfl (lv_at hl 0 rfl) ?_
  refine lv_if_eq (tgt := 42) hx hb dX5_group_28 (by decide) (fun c_5 => ?_) (fun c_5 => absurd c_5 (by decide))
  refine lv_iload_n hx hb dX5_group_42 rfl (lv_at hl 3 rfl) ?_
  refine lv_iconst (v := 5) hx hb dX5_group_43 (by decide) ?_
  refine vp_callSi (va_Run.run (va_runS (As := [.int y, .int 5]) (rest := []) ⟨hx, hb, hml, hown, hts⟩ (gJ_isBelow l D cI cL cQ y 5) (va_cwS 2 hts gX5_group_X5_isBelow rfl rfl rfl (by decide +kernel) ⟨Nat.le_of_ble_eq_true rfl, Nat.le_of_ble_eq_true rfl⟩) (jr_S hK hN hP [] rfl) rfl rfl hl.1 rfl (lv_room (Nat.le_of_ble_eq_true rfl)) dX5_group_44 ⟨Nat.le_of_ble_eq_true rfl, Nat.le_of_ble_eq_true rfl⟩)) (fun r f_6 => ?_)
  rcases f_6 with ⟨rfl, f_7, f_8⟩ | ⟨rfl, f_9⟩
  · refine lv_if_eq (tgt := 54) hx hb dX5_group_47 (by decide) (fun c_10 => absurd c_10 (by decide)) (fun c_10 => ?_)
    refine lv_iconst (v := 1) hx hb dX5_group_50 (by decide) ?_
    refine lv_goto (tgt := 55) hx hb dX5_group_51 (by decide) ?_
    refine va_csv (va_Run.run (va_runS (As := [.int 1]) (rest := []) ⟨hx, hb, hml, hown, hts⟩ (gJ_requireArgument_ok l D cI cL cQ) (va_cwS 1 hts gX5_group_X5_requireArgument rfl rfl rfl (by decide +kernel) ⟨Nat.le_of_ble_eq_true rfl, Nat.le_of_ble_eq_true rfl⟩) (jr_S hK hN hP [] rfl) rfl rfl hl.1 rfl (lv_room (Nat.le_of_ble_eq_true rfl)) dX5_group_55 ⟨Nat.le_of_ble_eq_true rfl, Nat.le_of_ble_eq_true rfl⟩)) (fun f_11 => ?_)
    refine lv_iload_n hx hb dX5_group_58 rfl (lv_at hl 0 rfl) ?_
    refine jx_thr (vx_runS (As := [.int 0]) (rest := []) ⟨hx, hb, hml, hown, hts⟩ (cJ_requireState_t l hnt D cI cL cQ) (va_cwS 1 hts gX5_group_X5_requireState rfl rfl rfl (by decide +kernel) ⟨Nat.le_of_ble_eq_true rfl, Nat.le_of_ble_eq_true rfl⟩) (jt_S hK hN hZ hP [] rfl) rfl rfl hl.1 rfl (lv_room (Nat.le_of_ble_eq_true rfl)) dX5_group_59 ⟨Nat.le_of_ble_eq_true rfl, Nat.le_of_ble_eq_true rfl⟩) (fun ce q9 H1 hz hk hce hcv hcl => ?_)
    exact jx_out hxt hlocks hz hk hce hcv hcl (Nat.le_of_ble_eq_true rfl) (Nat.le_of_ble_eq_true rfl)
  · exact False.elim (f_9.elim h2 h3)
