theorem j_len {L i : Nat} (hL : L ≤ 2051) (hi : i ≤ 3000) (h : ¬ Int32.ofNat L - 4 < nI i) : i + 4 ≤ L := by
  have e : (nI L - nI 4).toInt = (L : Int) - 4 := pk_sub_toInt (by omega) (by omega)
  have e2 : Int32.ofNat L - 4 = nI L - nI 4 := rfl
  rw [Int32.lt_iff_toInt_lt, e2, e, nI_toInt (by omega)] at h
  omega
theorem jord_z (a : Nat) : jord a (fun _ => 0) := fun j hj => ⟨0, by omega, nI_0.symm⟩
theorem jff_z : ∀ j : Nat, ∃ k, k ≤ 400 ∧ (fun _ : Nat => (0 : Int32)) j = nI k := fun j => ⟨0, by omega, nI_0.symm⟩
theorem jo5_z : jo5 (fun _ => 0) := fun j hj => ⟨0, by omega, nI_0.symm⟩
theorem jl_most (x y : Int32) : upd (upd (fun _ => 0) (0 : Int32).toNatClampNeg x) (1 : Int32).toNatClampNeg y = jl [x, y] := by
  rw [jl_new 2, jl_upd (show (0 : Int32).toNatClampNeg = 0 by decide) (by decide), jl_upd (show (1 : Int32).toNatClampNeg = 1 by decide) (by decide)]
  rfl
set_option maxHeartbeats 4000000 in
set_option maxRecDepth 100000 in
theorem law_loop {p : Program} {e : Env} {s : State} {m : MethodId} {below : List Frame} {meth : Method} {c : Code} (l : Launch) (hnt : l.stackTraces = false) {b L : Nat} {xs : Nat → Int32} (hL : L ≤ 2051) (C0 : lw_At p s m meth c b L xs) (D : va_G) (cI cL cQ : ClassId) (h0 tl tr cu bk lk lv lo lp ll lf rk rv ro rp rl rf he ma fa s1 s2 mo q1 q3 q4 q5 q6 q11 ou a a2 g : Nat) (ha : a ≤ 400) (ha2 : a2 ≤ 400) (hg : g ≤ 400) (hK : va_K D vwCl (jT cI cL cQ) s) (hN : jN cL cQ s) (hZ0 : jZ (fun q : Nat => s.heap.size ≤ q) s s.heap) : ∀ (k j : Nat), 513 < k + j → j ≤ 512 → ∀ (H : Heap) (locs : List Loc) (ls : Array Slot), jI D cI cL cQ (fun q : Nat => s.heap.size ≤ q) h0 tl tr cu bk lk lv lo lp ll lf rk rv ro rp rl rf he ma fa s1 s2 mo q1 q3 q4 q5 q6 q11 ou a a2 g H → va_S (fun q : Nat => s.heap.size ≤ q) s.heap H locs → lv_has ls 8 [(4, .int (nI (4 * j + 3))), (3, .ref ou), (2, .ref mo), (1, .ref h0), (0, .ref b)] → W p l e room_1 s m #[Value.ref b] below meth c H locs (35 + j) (9311 + 6 * j) (lw_Z below #[Value.ref b] s) (F0 m 53 ls []) := by
  obtain ⟨hx, hb, hr, hml, hown, hts0, hX, hbl, hlocks, hgv⟩ := id C0
  have hbA : ¬ (fun q : Nat => s.heap.size ≤ q) b := Nat.not_le.mpr hbl
  intro k
  induction k with
  | zero => exact fun j h h2 => absurd h (by omega)
  | succ k ih =>
    intro j hkj hj5 H locs ls hI hS hl
    refine lv_iload hx hb dL_law_53 (lv_at hl 0 rfl) ?_
    refine lv_aload_n hx hb dL_law_55 rfl (lv_at hl 4 rfl) ?_
    refine va_slen hx hb hX hbl hbA hS dL_law_56 ?_
    refine lv_iconst (v := 4) hx hb dL_law_57 (by decide) ?_
    refine lv_isub hx hb dL_law_58 ?_
    refine lv_icmp_gt (tgt := 666) hx hb dL_law_59 (by decide) (fun c_1 => ?_) (fun c_1 => ?_)
    · refine lv_iconst (v := 1) hx hb dL_law_666 (by decide) ?_
      refine va_forget hS.2.2 ?_
      refine W.widen (k := 601024) (n := 7293000) (by omega) (by omega) ?_
      exact lw_ret hx hb hr hlocks dL_law_667
    · have hj : 4 * j + 3 + 4 ≤ L := j_len hL (by omega) c_1
      have hk : ∀ (H : Heap) (locs : List Loc) (ls : Array Slot), jI D cI cL cQ (fun q : Nat => s.heap.size ≤ q) h0 tl tr cu bk lk lv lo lp ll lf rk rv ro rp rl rf he ma fa s1 s2 mo q1 q3 q4 q5 q6 q11 ou a a2 g H → va_S (fun q : Nat => s.heap.size ≤ q) s.heap H locs → lv_has ls 8 [(4, .int (nI (4 * j + 3))), (3, .ref ou), (2, .ref mo), (1, .ref h0), (0, .ref b)] → W p l e room_1 s m #[Value.ref b] below meth c H locs (35 + j + 1) (9311 + 6 * j + 6) (lw_Z below #[Value.ref b] s) (F0 m 660 ls []) := by
        intro H locs ls hI hS hl
        refine lv_iinc (v := nI (4 * (j + 1) + 3)) (lv' := [(4, .int (nI (4 * (j + 1) + 3))), (3, .ref ou), (2, .ref mo), (1, .ref h0), (0, .ref b)]) hx hb dL_law_660 hl (k := 0) rfl (by rw [show 4 * (j + 1) + 3 = 4 * j + 3 + 4 by omega]; exact nI_add _ 4) (by decide) rfl (fun ls hl => ?_)
        refine lv_goto (tgt := 53) hx hb dL_law_663 (by decide) ?_
        refine W.widen (k := 35 + (j + 1)) (n := 9311 + 6 * (j + 1)) (by omega) (by omega) ?_
        exact ih (j + 1) (by omega) (by omega) H locs ls hI hS hl
      refine lv_aload_n hx hb dL_law_62 rfl (lv_at hl 4 rfl) ?_
      refine lv_iload hx hb dL_law_63 (lv_at hl 0 rfl) ?_
      refine va_sld hx hb hX hbl hbA hS (vp_in_nI (show 4 * j + 3 < L by omega) (by omega)) dL_law_65 ?_
      refine lv_bipush (v := 15) hx hb dL_law_66 (by decide) ?_
      refine lv_iand hx hb dL_law_68 ?_
      refine lv_topi (fun y ey => ?_)
      have h16 := j_16 (xs (nI (4 * j + 3)).toNatClampNeg)
      rw [← ey] at h16
      clear ey
      rcases h16 with rfl | rfl | rfl | rfl | rfl | rfl | rfl | rfl | rfl | rfl | rfl | rfl | rfl | rfl | rfl | rfl
      · refine lv_tableIn (tgt := 148) hx hb dL_law_69 (by decide) (by decide) rfl (by decide) ?_
        exact law_op0 l hnt hL C0 D cI cL cQ h0 tl tr cu bk lk lv lo lp ll lf rk rv ro rp rl rf he ma fa s1 s2 mo q1 q3 q4 q5 q6 q11 ou a a2 g ha ha2 hg hK hN hZ0 j (35 + j) (9311 + 6 * j) hj (by omega) (by omega) H locs hI hS ls hl hk
      · refine lv_tableIn (tgt := 244) hx hb dL_law_69 (by decide) (by decide) rfl (by decide) ?_
        exact law_op1 l hnt hL C0 D cI cL cQ h0 tl tr cu bk lk lv lo lp ll lf rk rv ro rp rl rf he ma fa s1 s2 mo q1 q3 q4 q5 q6 q11 ou a a2 g ha ha2 hg hK hN hZ0 j (35 + j) (9311 + 6 * j) hj (by omega) (by omega) H locs hI hS ls hl hk
      · refine lv_tableIn (tgt := 255) hx hb dL_law_69 (by decide) (by decide) rfl (by decide) ?_
        exact law_op2 l hnt hL C0 D cI cL cQ h0 tl tr cu bk lk lv lo lp ll lf rk rv ro rp rl rf he ma fa s1 s2 mo q1 q3 q4 q5 q6 q11 ou a a2 g ha ha2 hg hK hN hZ0 j (35 + j) (9311 + 6 * j) hj (by omega) (by omega) H locs hI hS ls hl hk
      · refine lv_tableIn (tgt := 280) hx hb dL_law_69 (by decide) (by decide) rfl (by decide) ?_
        exact law_op3 l hnt hL C0 D cI cL cQ h0 tl tr cu bk lk lv lo lp ll lf rk rv ro rp rl rf he ma fa s1 s2 mo q1 q3 q4 q5 q6 q11 ou a a2 g ha ha2 hg hK hN hZ0 j (35 + j) (9311 + 6 * j) hj (by omega) (by omega) H locs hI hS ls hl hk
      · refine lv_tableIn (tgt := 296) hx hb dL_law_69 (by decide) (by decide) rfl (by decide) ?_
        exact law_op4 l hnt hL C0 D cI cL cQ h0 tl tr cu bk lk lv lo lp ll lf rk rv ro rp rl rf he ma fa s1 s2 mo q1 q3 q4 q5 q6 q11 ou a a2 g ha ha2 hg hK hN hZ0 j (35 + j) (9311 + 6 * j) hj (by omega) (by omega) H locs hI hS ls hl hk
      · refine lv_tableIn (tgt := 324) hx hb dL_law_69 (by decide) (by decide) rfl (by decide) ?_
        exact law_op5 l hnt hL C0 D cI cL cQ h0 tl tr cu bk lk lv lo lp ll lf rk rv ro rp rl rf he ma fa s1 s2 mo q1 q3 q4 q5 q6 q11 ou a a2 g ha ha2 hg hK hN hZ0 j (35 + j) (9311 + 6 * j) hj (by omega) (by omega) H locs hI hS ls hl hk
      · refine lv_tableIn (tgt := 340) hx hb dL_law_69 (by decide) (by decide) rfl (by decide) ?_
        exact law_op6 l hnt hL C0 D cI cL cQ h0 tl tr cu bk lk lv lo lp ll lf rk rv ro rp rl rf he ma fa s1 s2 mo q1 q3 q4 q5 q6 q11 ou a a2 g ha ha2 hg hK hN hZ0 j (35 + j) (9311 + 6 * j) hj (by omega) (by omega) H locs hI hS ls hl hk
      · refine lv_tableIn (tgt := 356) hx hb dL_law_69 (by decide) (by decide) rfl (by decide) ?_
        exact law_op7 l hnt hL C0 D cI cL cQ h0 tl tr cu bk lk lv lo lp ll lf rk rv ro rp rl rf he ma fa s1 s2 mo q1 q3 q4 q5 q6 q11 ou a a2 g ha ha2 hg hK hN hZ0 j (35 + j) (9311 + 6 * j) hj (by omega) (by omega) H locs hI hS ls hl hk
      · refine lv_tableIn (tgt := 384) hx hb dL_law_69 (by decide) (by decide) rfl (by decide) ?_
        exact law_op8 l hnt hL C0 D cI cL cQ h0 tl tr cu bk lk lv lo lp ll lf rk rv ro rp rl rf he ma fa s1 s2 mo q1 q3 q4 q5 q6 q11 ou a a2 g ha ha2 hg hK hN hZ0 j (35 + j) (9311 + 6 * j) hj (by omega) (by omega) H locs hI hS ls hl hk
      · refine lv_tableIn (tgt := 397) hx hb dL_law_69 (by decide) (by decide) rfl (by decide) ?_
        exact law_op9 l hnt hL C0 D cI cL cQ h0 tl tr cu bk lk lv lo lp ll lf rk rv ro rp rl rf he ma fa s1 s2 mo q1 q3 q4 q5 q6 q11 ou a a2 g ha ha2 hg hK hN hZ0 j (35 + j) (9311 + 6 * j) hj (by omega) (by omega) H locs hI hS ls hl hk
      · refine lv_tableIn (tgt := 425) hx hb dL_law_69 (by decide) (by decide) rfl (by decide) ?_
        exact law_op10 l hnt hL C0 D cI cL cQ h0 tl tr cu bk lk lv lo lp ll lf rk rv ro rp rl rf he ma fa s1 s2 mo q1 q3 q4 q5 q6 q11 ou a a2 g ha ha2 hg hK hN hZ0 j (35 + j) (9311 + 6 * j) hj (by omega) (by omega) H locs hI hS ls hl hk
      · refine lv_tableIn (tgt := 497) hx hb dL_law_69 (by decide) (by decide) rfl (by decide) ?_
        exact law_op11 l hnt hL C0 D cI cL cQ h0 tl tr cu bk lk lv lo lp ll lf rk rv ro rp rl rf he ma fa s1 s2 mo q1 q3 q4 q5 q6 q11 ou a a2 g ha ha2 hg hK hN hZ0 j (35 + j) (9311 + 6 * j) hj (by omega) (by omega) H locs hI hS ls hl hk
      · refine lv_tableIn (tgt := 513) hx hb dL_law_69 (by decide) (by decide) rfl (by decide) ?_
        exact law_op12 l hnt hL C0 D cI cL cQ h0 tl tr cu bk lk lv lo lp ll lf rk rv ro rp rl rf he ma fa s1 s2 mo q1 q3 q4 q5 q6 q11 ou a a2 g ha ha2 hg hK hN hZ0 j (35 + j) (9311 + 6 * j) hj (by omega) (by omega) H locs hI hS ls hl hk
      · refine lv_tableIn (tgt := 553) hx hb dL_law_69 (by decide) (by decide) rfl (by decide) ?_
        exact law_op13 l hnt hL C0 D cI cL cQ h0 tl tr cu bk lk lv lo lp ll lf rk rv ro rp rl rf he ma fa s1 s2 mo q1 q3 q4 q5 q6 q11 ou a a2 g ha ha2 hg hK hN hZ0 j (35 + j) (9311 + 6 * j) hj (by omega) (by omega) H locs hI hS ls hl hk
      · refine lv_tableIn (tgt := 621) hx hb dL_law_69 (by decide) (by decide) rfl (by decide) ?_
        exact law_op14 l hnt hL C0 D cI cL cQ h0 tl tr cu bk lk lv lo lp ll lf rk rv ro rp rl rf he ma fa s1 s2 mo q1 q3 q4 q5 q6 q11 ou a a2 g ha ha2 hg hK hN hZ0 j (35 + j) (9311 + 6 * j) hj (by omega) (by omega) H locs hI hS ls hl hk
      · refine lv_tableIn (tgt := 649) hx hb dL_law_69 (by decide) (by decide) rfl (by decide) ?_
        exact law_op15 l hnt hL C0 D cI cL cQ h0 tl tr cu bk lk lv lo lp ll lf rk rv ro rp rl rf he ma fa s1 s2 mo q1 q3 q4 q5 q6 q11 ou a a2 g ha ha2 hg hK hN hZ0 j (35 + j) (9311 + 6 * j) hj (by omega) (by omega) H locs hI hS ls hl hk
