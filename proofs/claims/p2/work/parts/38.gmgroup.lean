set_option maxHeartbeats 1000000 in
set_option maxRecDepth 100000 in
theorem gM_groupAt (l : Launch) (D : va_G) (cI cL cQ : ClassId) (mo : Nat) (g : Nat) (n : Nat) (n2 : Nat) (q1 : Nat) (q3 : Nat) (q4 : Nat) (q5 : Nat) (q6 : Nat) (q11 : Nat) (z0 : Int32) (pr : Int32) (gr : Int32) (kd : Int32) (mk : Int32) (w10 : Int64) (w13 : Int64) (w14 : Int64) (m3 : Nat → Int32) (m5 : Nat → Int32) (x : Int32) (hn : n ≤ 400) (hn2 : n2 ≤ 400) (h5 : jo5 m5) : Met l yX6_groupAt wsX6_groupAt ({ frames := 1, cells := 0, slots := 0, locals := 24 }) (jr_P D vwCl (jT cI cL cQ) cL cQ [.ref mo, .int x] [(mo, .inr (6, [.int z0, .ref q1, .int (nI g), .ref q3, .ref q4, .ref q5, .ref q6, .int pr, .int gr, .int kd, .long w10, .ref q11, .int mk, .long w13, .long w14])), (q3, .inl (cI, 800, .inl m3)), (q5, .inl (cI, 800, .inl m5)), (q6, .inl (cI, 2, .inl (jl [nI n, nI n2])))]) (vp_Si (fun r : Int32 => ∃ (k9 : Nat), r = nI k9 ∧ (k9 ≤ n))) 0 0 (fun _ => False) := by
  refine Met.ofW (cc := cX6_groupAt) (maxL := 5) (ret := (some .int)) (by decide) rfl ?_
  intro p e s m args below meth c s₁ B hml hv
  obtain ⟨rfl, hP, hK, hN⟩ := hv
  have hx := B.exec
  have hb := B.bytes
  have hr := B.returns
  have hts := atoms_spec (ws := wsX6_groupAt) B.pre
  have hown : s.vm.findClass RX6 = some m.cls := findClass_of_methodNamed B.named
  have hlocks := B.notSynchronized
  have hl := lv_entry ([.ref mo, .int x]) (n := 5) (Nat.le_of_ble_eq_true rfl)
  rw [lg_entry_eq]
  generalize (lg_sl ([.ref mo, .int x]) ++ List.replicate (5 - (lg_sl ([.ref mo, .int x])).length) Slot.unset).toArray = ls at hl ⊢
  have hl : lv_has ls 5 [(0, .ref mo), (1, .int x)] := hl
  refine lv_iconst (v := 0) hx hb dX6_groupAt_0 (by decide) ?_
  refine lv_istore_n (lv' := [(2, .int 0), (0, .ref mo), (1, .int x)]) hx hb dX6_groupAt_1 rfl hl (by decide) rfl (fun ls hl => ?_)
  refine lv_iconst (v := 0) hx hb dX6_groupAt_2 (by decide) ?_
  refine lv_istore_n (lv' := [(3, .int 0), (2, .int 0), (0, .ref mo), (1, .int x)]) hx hb dX6_groupAt_3 rfl hl (by decide) rfl (fun ls hl => ?_)
  have hloop_1 : ∀ (k_1 : Nat) (i : Nat) (z : Nat), n - i < k_1 → (i ≤ n) → (z ≤ i) → ∀ ls : Array Slot, lv_has ls 5 [(0, .ref mo), (1, .int x), (2, .int (nI z)), (3, .int (nI i))] → W p l e (headSpec wsX6_groupAt ({ frames := 1, cells := 0, slots := 0, locals := 24 })).room s m #[.ref mo, .int x] below meth c s.heap [] 0 0 (MQ below (vp_Si (fun r : Int32 => ∃ (k9 : Nat), r = nI k9 ∧ (k9 ≤ n))) #[.ref mo, .int x] s 0 0 (fun _ => False)) (F0 m 4 ls []) := by
    intro k_1
    induction k_1 with
    | zero => exact fun _ _ hm => absurd hm (Nat.not_lt_zero _)
    | succ k_1 ih_1 =>
      intro i z hm1 hi hz ls hl
      rcases i with _ | i
      · have hl : lv_has ls 5 [(0, .ref mo), (1, .int x), (2, .int (nI z)), (3, .int (nI 0))] := hl
        refine lv_iload_n hx hb dX6_groupAt_4 rfl (lv_at hl 3 rfl) ?_
        refine lv_aload_n hx hb dX6_groupAt_5 rfl (lv_at hl 0 rfl) ?_
        refine va_get (D := D) (ci := 6) (v := .ref q6) (C := RX6) (T := TX6) (N := 15) hx hb hts (by decide +kernel) hown hK hP 0 rfl rfl 6 (by decide) (hts (.fieldLink RX6 22 "JoinDeskModel" "many" "[I") (by decide +kernel)) (fun _ h9 => h9) rfl dX6_groupAt_6 ?_
        refine lv_iconst (v := 0) hx hb dX6_groupAt_9 (by decide) ?_
        refine va_iald hx hb hK hP 3 0 rfl rfl (by unfold vp_in; decide) dX6_groupAt_10 ?_
        refine W.eq (g2 := F0 m 11 ls [.int (nI n), .int (nI 0)]) rfl ?_
        refine lv_icmp_ge (tgt := 77) hx hb dX6_groupAt_11 (by decide) (fun cge => ?_) (fun cge => ?_)
        · refine lv_iload_n hx hb dX6_groupAt_77 rfl (lv_at hl 2 rfl) ?_
          exact W.iret (v := nI z) hx hb hr (fun t ht hW => ⟨(nI z), rfl, (⟨_, rfl, by omega⟩), ht⟩) (fun _ h => nomatch h) dX6_groupAt_78
        · refine lv_iload_n hx hb dX6_groupAt_14 rfl (lv_at hl 3 rfl) ?_
          refine lv_if_eq (tgt := 35) hx hb dX6_groupAt_15 (by decide) (fun c_1 => ?_) (fun c_1 => absurd c_1 (by decide))
          refine lv_iconst (v := 1) hx hb dX6_groupAt_35 (by decide) ?_
          refine lv_goto (tgt := 40) hx hb dX6_groupAt_36 (by decide) ?_
          refine lv_istore (lv' := [(4, .int 1), (0, .ref mo), (1, .int x), (2, .int (nI z)), (3, .int (nI 0))]) hx hb dX6_groupAt_40 hl (by decide) rfl (fun ls hl => ?_)
          refine lv_iload hx hb dX6_groupAt_42 (lv_at hl 0 rfl) ?_
          refine lv_if_eq (tgt := 71) hx hb dX6_groupAt_44 (by decide) (fun c_2 => absurd c_2 (by decide)) (fun c_2 => ?_)
          refine lv_aload_n hx hb dX6_groupAt_47 rfl (lv_at hl 1 rfl) ?_
          refine lv_iconst (v := 1) hx hb dX6_groupAt_48 (by decide) ?_
          refine lv_aload_n hx hb dX6_groupAt_49 rfl (lv_at hl 1 rfl) ?_
          refine lv_iconst (v := 0) hx hb dX6_groupAt_50 (by decide) ?_
          refine lv_iload_n hx hb dX6_groupAt_51 rfl (lv_at hl 4 rfl) ?_
          refine vp_callSi (va_Run.run (va_runV (As := [.int 0, .int (nI 0)]) (rest := [.int 1, .ref mo]) ⟨hx, hb, hml, hown, hts⟩ (gM_key_0 l D cI cL cQ mo g q1 q3 q4 q5 q6 q11 z0 pr gr kd mk w10 w13 w14 m3 m5 0 (by first | assumption | decide | omega) (by rw [nI_leI (by omega) (by omega)] at cge; omega)) (cwV 2 hts gX6_groupAt_X6_key rfl rfl rfl (by decide +kernel) ⟨Nat.le_of_ble_eq_true rfl, Nat.le_of_ble_eq_true rfl⟩) (jr_V hK hN hP [0, 1, 2] rfl 6 0 rfl rfl rfl) rfl rfl hl.1 rfl (lv_room (Nat.le_of_ble_eq_true rfl)) dX6_groupAt_52 ⟨Nat.le_of_ble_eq_true rfl, Nat.le_of_ble_eq_true rfl⟩)) (fun r f_3 => ?_)
          obtain ⟨z9_4, er_5⟩ := f_3
          subst r
          refine vp_callSi (va_Run.run (va_runV (As := [.int 1, .int z9_4]) (rest := []) ⟨hx, hb, hml, hown, hts⟩ (gM_rowsOf_1 l D cI cL cQ mo g n n2 q1 q3 q4 q5 q6 q11 z0 pr gr kd mk w10 w13 w14 m3 z9_4 (by first | assumption | decide | omega)) (cwV 2 hts gX6_groupAt_X6_rowsOf rfl rfl rfl (by decide +kernel) ⟨Nat.le_of_ble_eq_true rfl, Nat.le_of_ble_eq_true rfl⟩) (jr_V hK hN hP [0, 1, 3] rfl 6 0 rfl rfl rfl) rfl rfl hl.1 rfl (lv_room (Nat.le_of_ble_eq_true rfl)) dX6_groupAt_55 ⟨Nat.le_of_ble_eq_true rfl, Nat.le_of_ble_eq_true rfl⟩)) (fun r f_6 => ?_)
          obtain ⟨z9_7, er_8⟩ := f_6
          subst r
          refine lv_if_le (tgt := 71) hx hb dX6_groupAt_58 (by decide) (fun c_9 => ?_) (fun c_9 => ?_)
          · refine lv_iinc (v := 1) (lv' := [(3, .int 1), (4, .int 1), (0, .ref mo), (1, .int x), (2, .int (nI z))]) hx hb dX6_groupAt_71 hl (k := 4) rfl (by first | rfl | decide) (by decide) rfl (fun ls hl => ?_)
            refine lv_goto (tgt := 4) hx hb dX6_groupAt_74 (by decide) ?_
            exact ih_1 1 z (by rw [nI_leI (by omega) (by omega)] at cge; omega) (by rw [nI_leI (by omega) (by omega)] at cge; omega) (by omega) ls (lv_sub hl [2, 3, 4, 0] rfl)
          · refine lv_iload_n hx hb dX6_groupAt_61 rfl (lv_at hl 3 rfl) ?_
            refine lv_iload_n hx hb dX6_groupAt_62 rfl (lv_at hl 2 rfl) ?_
            refine lv_icmp_ne (tgt := 68) hx hb dX6_groupAt_63 (by decide) (fun c_10 => ?_) (fun c_10 => ?_)
            · refine lv_iinc (v := nI (z + 1)) (lv' := [(2, .int (nI (z + 1))), (4, .int 1), (0, .ref mo), (1, .int x), (3, .int (nI 0))]) hx hb dX6_groupAt_68 hl (k := 3) rfl (nI_1 _) (by decide) rfl (fun ls hl => ?_)
              refine lv_iinc (v := 1) (lv' := [(3, .int 1), (2, .int (nI (z + 1))), (4, .int 1), (0, .ref mo), (1, .int x)]) hx hb dX6_groupAt_71 hl (k := 4) rfl (by first | rfl | decide) (by decide) rfl (fun ls hl => ?_)
              refine lv_goto (tgt := 4) hx hb dX6_groupAt_74 (by decide) ?_
              exact ih_1 1 (z + 1) (by rw [nI_leI (by omega) (by omega)] at cge; omega) (by rw [nI_leI (by omega) (by omega)] at cge; omega) (by omega) ls (lv_sub hl [3, 4, 1, 0] rfl)
            · refine lv_iload_n hx hb dX6_groupAt_66 rfl (lv_at hl 4 rfl) ?_
              exact W.iret (v := nI 0) hx hb hr (fun t ht hW => ⟨(nI 0), rfl, (⟨_, rfl, by omega⟩), ht⟩) (fun _ h => nomatch h) dX6_groupAt_67
      · have hl : lv_has ls 5 [(0, .ref mo), (1, .int x), (2, .int (nI z)), (3, .int (nI (i + 1)))] := hl
        refine lv_iload_n hx hb dX6_groupAt_4 rfl (lv_at hl 3 rfl) ?_
        refine lv_aload_n hx hb dX6_groupAt_5 rfl (lv_at hl 0 rfl) ?_
        refine va_get (D := D) (ci := 6) (v := .ref q6) (C := RX6) (T := TX6) (N := 15) hx hb hts (by decide +kernel) hown hK hP 0 rfl rfl 6 (by decide) (hts (.fieldLink RX6 22 "JoinDeskModel" "many" "[I") (by decide +kernel)) (fun _ h9 => h9) rfl dX6_groupAt_6 ?_
        refine lv_iconst (v := 0) hx hb dX6_groupAt_9 (by decide) ?_
        refine va_iald hx hb hK hP 3 0 rfl rfl (by unfold vp_in; decide) dX6_groupAt_10 ?_
        refine W.eq (g2 := F0 m 11 ls [.int (nI n), .int (nI (i + 1))]) rfl ?_
        refine lv_icmp_ge (tgt := 77) hx hb dX6_groupAt_11 (by decide) (fun cge => ?_) (fun cge => ?_)
        · refine lv_iload_n hx hb dX6_groupAt_77 rfl (lv_at hl 2 rfl) ?_
          exact W.iret (v := nI z) hx hb hr (fun t ht hW => ⟨(nI z), rfl, (⟨_, rfl, by omega⟩), ht⟩) (fun _ h => nomatch h) dX6_groupAt_78
        · refine lv_iload_n hx hb dX6_groupAt_14 rfl (lv_at hl 3 rfl) ?_
          refine lv_if_eq (tgt := 35) hx hb dX6_groupAt_15 (by decide) (fun c_11 => absurd c_11 (by exact nI_ne0 (by omega) (by omega))) (fun c_11 => ?_)
          refine lv_aload_n hx hb dX6_groupAt_18 rfl (lv_at hl 0 rfl) ?_
          refine lv_iconst (v := 0) hx hb dX6_groupAt_19 (by decide) ?_
          refine lv_iload_n hx hb dX6_groupAt_20 rfl (lv_at hl 3 rfl) ?_
          refine vp_callSi (va_Run.run (va_runV (As := [.int 0, .int (nI (i + 1))]) (rest := []) ⟨hx, hb, hml, hown, hts⟩ (gM_key_0 l D cI cL cQ mo g q1 q3 q4 q5 q6 q11 z0 pr gr kd mk w10 w13 w14 m3 m5 (i + 1) (by first | assumption | decide | omega) (by rw [nI_leI (by omega) (by omega)] at cge; omega)) (cwV 2 hts gX6_groupAt_X6_key rfl rfl rfl (by decide +kernel) ⟨Nat.le_of_ble_eq_true rfl, Nat.le_of_ble_eq_true rfl⟩) (jr_V hK hN hP [0, 1, 2] rfl 6 0 rfl rfl rfl) rfl rfl hl.1 rfl (lv_room (Nat.le_of_ble_eq_true rfl)) dX6_groupAt_21 ⟨Nat.le_of_ble_eq_true rfl, Nat.le_of_ble_eq_true rfl⟩)) (fun r f_12 => ?_)
          obtain ⟨z9_13, er_14⟩ := f_12
          subst r
          refine lv_aload_n hx hb dX6_groupAt_24 rfl (lv_at hl 0 rfl) ?_
          refine lv_iconst (v := 0) hx hb dX6_groupAt_25 (by decide) ?_
          refine lv_iload_n hx hb dX6_groupAt_26 rfl (lv_at hl 3 rfl) ?_
          refine lv_iconst (v := 1) hx hb dX6_groupAt_27 (by decide) ?_
          refine lv_isub hx hb dX6_groupAt_28 ?_
          refine lv_topi (fun z_15 e_z_15 => ?_)
          obtain rfl : z_15 = nI i := e_z_15.trans (nI_pred _)
          refine vp_callSi (va_Run.run (va_runV (As := [.int 0, .int (nI i)]) (rest := [.int z9_13]) ⟨hx, hb, hml, hown, hts⟩ (gM_key_0 l D cI cL cQ mo g q1 q3 q4 q5 q6 q11 z0 pr gr kd mk w10 w13 w14 m3 m5 i (by first | assumption | decide | omega) (by rw [nI_leI (by omega) (by omega)] at cge; omega)) (cwV 2 hts gX6_groupAt_X6_key rfl rfl rfl (by decide +kernel) ⟨Nat.le_of_ble_eq_true rfl, Nat.le_of_ble_eq_true rfl⟩) (jr_V hK hN hP [0, 1, 2] rfl 6 0 rfl rfl rfl) rfl rfl hl.1 rfl (lv_room (Nat.le_of_ble_eq_true rfl)) dX6_groupAt_29 ⟨Nat.le_of_ble_eq_true rfl, Nat.le_of_ble_eq_true rfl⟩)) (fun r f_16 => ?_)
          obtain ⟨z9_17, er_18⟩ := f_16
          subst r
          refine lv_icmp_eq (tgt := 39) hx hb dX6_groupAt_32 (by decide) (fun c_19 => ?_) (fun c_19 => ?_)
          · refine lv_iconst (v := 0) hx hb dX6_groupAt_39 (by decide) ?_
            refine lv_istore (lv' := [(4, .int 0), (0, .ref mo), (1, .int x), (2, .int (nI z)), (3, .int (nI (i + 1)))]) hx hb dX6_groupAt_40 hl (by decide) rfl (fun ls hl => ?_)
            refine lv_iload hx hb dX6_groupAt_42 (lv_at hl 0 rfl) ?_
            refine lv_if_eq (tgt := 71) hx hb dX6_groupAt_44 (by decide) (fun c_20 => ?_) (fun c_20 => absurd c_20 (by decide))
            refine lv_iinc (v := nI ((i + 1) + 1)) (lv' := [(3, .int (nI ((i + 1) + 1))), (4, .int 0), (0, .ref mo), (1, .int x), (2, .int (nI z))]) hx hb dX6_groupAt_71 hl (k := 4) rfl (nI_1 _) (by decide) rfl (fun ls hl => ?_)
            refine lv_goto (tgt := 4) hx hb dX6_groupAt_74 (by decide) ?_
            exact ih_1 ((i + 1) + 1) z (by rw [nI_leI (by omega) (by omega)] at cge; omega) (by rw [nI_leI (by omega) (by omega)] at cge; omega) (by omega) ls (lv_sub hl [2, 3, 4, 0] rfl)
          · refine lv_iconst (v := 1) hx hb dX6_groupAt_35 (by decide) ?_
            refine lv_goto (tgt := 40) hx hb dX6_groupAt_36 (by decide) ?_
            refine lv_istore (lv' := [(4, .int 1), (0, .ref mo), (1, .int x), (2, .int (nI z)), (3, .int (nI (i + 1)))]) hx hb dX6_groupAt_40 hl (by decide) rfl (fun ls hl => ?_)
            refine lv_iload hx hb dX6_groupAt_42 (lv_at hl 0 rfl) ?_
            refine lv_if_eq (tgt := 71) hx hb dX6_groupAt_44 (by decide) (fun c_21 => absurd c_21 (by decide)) (fun c_21 => ?_)
            refine lv_aload_n hx hb dX6_groupAt_47 rfl (lv_at hl 1 rfl) ?_
            refine lv_iconst (v := 1) hx hb dX6_groupAt_48 (by decide) ?_
            refine lv_aload_n hx hb dX6_groupAt_49 rfl (lv_at hl 1 rfl) ?_
            refine lv_iconst (v := 0) hx hb dX6_groupAt_50 (by decide) ?_
            refine lv_iload_n hx hb dX6_groupAt_51 rfl (lv_at hl 4 rfl) ?_
            refine vp_callSi (va_Run.run (va_runV (As := [.int 0, .int (nI (i + 1))]) (rest := [.int 1, .ref mo]) ⟨hx, hb, hml, hown, hts⟩ (gM_key_0 l D cI cL cQ mo g q1 q3 q4 q5 q6 q11 z0 pr gr kd mk w10 w13 w14 m3 m5 (i + 1) (by first | assumption | decide | omega) (by rw [nI_leI (by omega) (by omega)] at cge; omega)) (cwV 2 hts gX6_groupAt_X6_key rfl rfl rfl (by decide +kernel) ⟨Nat.le_of_ble_eq_true rfl, Nat.le_of_ble_eq_true rfl⟩) (jr_V hK hN hP [0, 1, 2] rfl 6 0 rfl rfl rfl) rfl rfl hl.1 rfl (lv_room (Nat.le_of_ble_eq_true rfl)) dX6_groupAt_52 ⟨Nat.le_of_ble_eq_true rfl, Nat.le_of_ble_eq_true rfl⟩)) (fun r f_22 => ?_)
            obtain ⟨z9_23, er_24⟩ := f_22
            subst r
            refine vp_callSi (va_Run.run (va_runV (As := [.int 1, .int z9_23]) (rest := []) ⟨hx, hb, hml, hown, hts⟩ (gM_rowsOf_1 l D cI cL cQ mo g n n2 q1 q3 q4 q5 q6 q11 z0 pr gr kd mk w10 w13 w14 m3 z9_23 (by first | assumption | decide | omega)) (cwV 2 hts gX6_groupAt_X6_rowsOf rfl rfl rfl (by decide +kernel) ⟨Nat.le_of_ble_eq_true rfl, Nat.le_of_ble_eq_true rfl⟩) (jr_V hK hN hP [0, 1, 3] rfl 6 0 rfl rfl rfl) rfl rfl hl.1 rfl (lv_room (Nat.le_of_ble_eq_true rfl)) dX6_groupAt_55 ⟨Nat.le_of_ble_eq_true rfl, Nat.le_of_ble_eq_true rfl⟩)) (fun r f_25 => ?_)
            obtain ⟨z9_26, er_27⟩ := f_25
            subst r
            refine lv_if_le (tgt := 71) hx hb dX6_groupAt_58 (by decide) (fun c_28 => ?_) (fun c_28 => ?_)
            · refine lv_iinc (v := nI ((i + 1) + 1)) (lv' := [(3, .int (nI ((i + 1) + 1))), (4, .int 1), (0, .ref mo), (1, .int x), (2, .int (nI z))]) hx hb dX6_groupAt_71 hl (k := 4) rfl (nI_1 _) (by decide) rfl (fun ls hl => ?_)
              refine lv_goto (tgt := 4) hx hb dX6_groupAt_74 (by decide) ?_
              exact ih_1 ((i + 1) + 1) z (by rw [nI_leI (by omega) (by omega)] at cge; omega) (by rw [nI_leI (by omega) (by omega)] at cge; omega) (by omega) ls (lv_sub hl [2, 3, 4, 0] rfl)
            · refine lv_iload_n hx hb dX6_groupAt_61 rfl (lv_at hl 3 rfl) ?_
              refine lv_iload_n hx hb dX6_groupAt_62 rfl (lv_at hl 2 rfl) ?_
              refine lv_icmp_ne (tgt := 68) hx hb dX6_groupAt_63 (by decide) (fun c_29 => ?_) (fun c_29 => ?_)
              · refine lv_iinc (v := nI (z + 1)) (lv' := [(2, .int (nI (z + 1))), (4, .int 1), (0, .ref mo), (1, .int x), (3, .int (nI (i + 1)))]) hx hb dX6_groupAt_68 hl (k := 3) rfl (nI_1 _) (by decide) rfl (fun ls hl => ?_)
                refine lv_iinc (v := nI ((i + 1) + 1)) (lv' := [(3, .int (nI ((i + 1) + 1))), (2, .int (nI (z + 1))), (4, .int 1), (0, .ref mo), (1, .int x)]) hx hb dX6_groupAt_71 hl (k := 4) rfl (nI_1 _) (by decide) rfl (fun ls hl => ?_)
                refine lv_goto (tgt := 4) hx hb dX6_groupAt_74 (by decide) ?_
                exact ih_1 ((i + 1) + 1) (z + 1) (by rw [nI_leI (by omega) (by omega)] at cge; omega) (by rw [nI_leI (by omega) (by omega)] at cge; omega) (by omega) ls (lv_sub hl [3, 4, 1, 0] rfl)
              · refine lv_iload_n hx hb dX6_groupAt_66 rfl (lv_at hl 4 rfl) ?_
                exact W.iret (v := nI (i + 1)) hx hb hr (fun t ht hW => ⟨(nI (i + 1)), rfl, (⟨_, rfl, by omega⟩), ht⟩) (fun _ h => nomatch h) dX6_groupAt_67
  exact hloop_1 (n - 0 + 1) 0 0 (Nat.lt_succ_self _) (Nat.zero_le _) (Nat.le_refl _) ls (lv_sub hl [2, 3, 1, 0] rfl)
set_option maxHeartbeats 1000000 in
set_option maxRecDepth 100000 in
theorem gM_groups (l : Launch) (D : va_G) (cI cL cQ : ClassId) (mo : Nat) (g : Nat) (n : Nat) (n2 : Nat) (q1 : Nat) (q3 : Nat) (q4 : Nat) (q5 : Nat) (q6 : Nat) (q11 : Nat) (z0 : Int32) (gr : Int32) (kd : Int32) (mk : Int32) (w10 : Int64) (w13 : Int64) (w14 : Int64) (m3 : Nat → Int32) (m5 : Nat → Int32) (sz : Nat) (hn : n ≤ 400) (hn2 : n2 ≤ 400) (h5 : jo5 m5) : Met l yX6_groups wsX6_groups ({ frames := 2, cells := 0, slots := 0, locals := 48 }) (jw_P D vwCl (jT cI cL cQ) cL cQ [.ref mo] [(mo, .inr (6, [.int z0, .ref q1, .int (nI g), .ref q3, .ref q4, .ref q5, .ref q6, .int 1, .int gr, .int kd, .long w10, .ref q11, .int mk, .long w13, .long w14])), (q3, .inl (cI, 800, .inl m3)), (q5, .inl (cI, 800, .inl m5)), (q6, .inl (cI, 2, .inl (jl [nI n, nI n2])))] sz) (va_Qi (fun (r : Int32) (u : va_W) => (∃ (z9 : Int32), r = z9 ∧ u = [(mo, .inr (6, [.int 0, .ref q1, .int (nI g), .ref q3, .ref q4, .ref q5, .ref q6, .int 1, .int 1, .int kd, .long w10, .ref q11, .int mk, .long w13, .long w14])), (q3, .inl (cI, 800, .inl m3)), (q5, .inl (cI, 800, .inl m5)), (q6, .inl (cI, 2, .inl (jl [nI n, nI n2])))]) ∨ (∃ (z9 : Int32), r = z9 ∧ u = [(mo, .inr (6, [.int 2, .ref q1, .int (nI g), .ref q3, .ref q4, .ref q5, .ref q6, .int 1, .int 0, .int kd, .long w10, .ref q11, .int mk, .long w13, .long w14])), (q3, .inl (cI, 800, .inl m3)), (q5, .inl (cI, 800, .inl m5)), (q6, .inl (cI, 2, .inl (jl [nI n, nI n2])))])) (jw_B D vwCl (va_A [(mo, .inr (6, [.int z0, .ref q1, .int (nI g), .ref q3, .ref q4, .ref q5, .ref q6, .int 1, .int gr, .int kd, .long w10, .ref q11, .int mk, .long w13, .long w14])), (q3, .inl (cI, 800, .inl m3)), (q5, .inl (cI, 800, .inl m5)), (q6, .inl (cI, 2, .inl (jl [nI n, nI n2])))] sz) (fun u : va_W => u)) (va_A [(mo, .inr (6, [.int z0, .ref q1, .int (nI g), .ref q3, .ref q4, .ref q5, .ref q6, .int 1, .int gr, .int kd, .long w10, .ref q11, .int mk, .long w13, .long w14])), (q3, .inl (cI, 800, .inl m3)), (q5, .inl (cI, 800, .inl m5)), (q6, .inl (cI, 2, .inl (jl [nI n, nI n2])))] sz)) 0 0 (va_A [(mo, .inr (6, [.int z0, .ref q1, .int (nI g), .ref q3, .ref q4, .ref q5, .ref q6, .int 1, .int gr, .int kd, .long w10, .ref q11, .int mk, .long w13, .long w14])), (q3, .inl (cI, 800, .inl m3)), (q5, .inl (cI, 800, .inl m5)), (q6, .inl (cI, 2, .inl (jl [nI n, nI n2])))] sz) := by
  refine Met.ofW (cc := cX6_groups) (maxL := 2) (ret := (some .int)) (by decide) rfl ?_
  intro p e s m args below meth c s₁ B hml hv
  obtain ⟨rfl, hsz, hP, hK, hN, hD0⟩ := hv
  have hx := B.exec
  have hb := B.bytes
  have hr := B.returns
  have hts := atoms_spec (ws := wsX6_groups) B.pre
  have hown : s.vm.findClass RX6 = some m.cls := findClass_of_methodNamed B.named
  have hlocks := B.notSynchronized
  subst hsz
  have hD := hD0.self (sz := s.heap.size)
  generalize hAe : va_A [(mo, .inr (6, [.int z0, .ref q1, .int (nI g), .ref q3, .ref q4, .ref q5, .ref q6, .int 1, .int gr, .int kd, .long w10, .ref q11, .int mk, .long w13, .long w14])), (q3, .inl (cI, 800, .inl m3)), (q5, .inl (cI, 800, .inl m5)), (q6, .inl (cI, 2, .inl (jl [nI n, nI n2])))] s.heap.size = A at hD ⊢
  have hA : ∀ q : Nat, s.heap.size ≤ q → A q := fun q h => by rw [← hAe]; exact Or.inr h
  have hS : va_S A s.heap s.heap [] := va_S.rf
  have hl := lv_entry ([.ref mo]) (n := 2) (Nat.le_of_ble_eq_true rfl)
  rw [lg_entry_eq]
  generalize (lg_sl ([.ref mo]) ++ List.replicate (2 - (lg_sl ([.ref mo])).length) Slot.unset).toArray = ls at hl ⊢
  have hl : lv_has ls 2 [(0, .ref mo)] := hl
  refine lv_aload_n hx hb dX6_groups_0 rfl (lv_at hl 0 rfl) ?_
  refine lv_aload_n hx hb dX6_groups_1 rfl (lv_at hl 0 rfl) ?_
  refine va_get (D := D) (ci := 6) (v := .int 1) (C := RX6) (T := TX6) (N := 15) hx hb hts (by decide +kernel) hown hK hP 0 rfl rfl 7 (by decide) (hts (.fieldLink RX6 43 "JoinDeskModel" "prepared" "Z") (by decide +kernel)) (fun _ h9 => h9) rfl dX6_groups_2 ?_
  refine lv_if_eq (tgt := 12) hx hb dX6_groups_5 (by decide) (fun c_1 => absurd c_1 (by decide)) (fun c_1 => ?_)
  refine lv_iconst (v := 0) hx hb dX6_groups_8 (by decide) ?_
  refine lv_goto (tgt := 13) hx hb dX6_groups_9 (by decide) ?_
  refine jw_i (wr := [(q3, .inl (cI, 800, .inl m3)), (q5, .inl (cI, 800, .inl m5)), (q6, .inl (cI, 2, .inl (jl [nI n, nI n2])))]) (va_runV (As := [.int 0]) (rest := []) ⟨hx, hb, hml, hown, hts⟩ (gM_refuses_0 l D cI cL cQ mo g q1 q3 q4 q5 q6 q11 z0 1 gr kd mk w10 w13 w14 _) (cwV 1 hts gX6_groups_X6_refuses rfl rfl rfl (by decide +kernel) ⟨Nat.le_of_ble_eq_true rfl, Nat.le_of_ble_eq_true rfl⟩) (jw_V hK hN hP hD [0] (by decide) rfl 6 0 rfl rfl rfl) rfl rfl hl.1 rfl (lv_room (Nat.le_of_ble_eq_true rfl)) dX6_groups_13 ⟨Nat.le_of_ble_eq_true rfl, Nat.le_of_ble_eq_true rfl⟩) hP hD hS hA [0] [1, 2, 3] rfl rfl (by decide) (by decide) (fun r u H locs f_2 hP hD hS => ?_)
  obtain ⟨rfl, rfl⟩ := f_2
  have hP : va_P D vwCl [(q3, .inl (cI, 800, .inl m3)), (q5, .inl (cI, 800, .inl m5)), (q6, .inl (cI, 2, .inl (jl [nI n, nI n2]))), (mo, .inr (6, [.int 0, .ref q1, .int (nI g), .ref q3, .ref q4, .ref q5, .ref q6, .int 1, .int gr, .int kd, .long w10, .ref q11, .int mk, .long w13, .long w14]))] H := hP
  have hD : va_D A [(q3, .inl (cI, 800, .inl m3)), (q5, .inl (cI, 800, .inl m5)), (q6, .inl (cI, 2, .inl (jl [nI n, nI n2]))), (mo, .inr (6, [.int 0, .ref q1, .int (nI g), .ref q3, .ref q4, .ref q5, .ref q6, .int 1, .int gr, .int kd, .long w10, .ref q11, .int mk, .long w13, .long w14]))] := hD
  refine lv_if_eq (tgt := 21) hx hb dX6_groups_16 (by decide) (fun c_3 => ?_) (fun c_3 => absurd c_3 (by decide))
  refine lv_aload_n hx hb dX6_groups_21 rfl (lv_at hl 0 rfl) ?_
  refine lv_iconst (v := (-1)) hx hb dX6_groups_22 (by decide) ?_
  refine vp_callSi (va_Run.run (va_runV (As := [.int (-1)]) (rest := []) ⟨hx, hb, hml, hown, hts⟩ (gM_groupAt l D cI cL cQ mo g n n2 q1 q3 q4 q5 q6 q11 0 1 gr kd mk w10 w13 w14 m3 m5 (-1) (by first | assumption | decide | omega) (by first | assumption | decide | omega) (by first | assumption | decide | omega)) (cwV 1 hts gX6_groups_X6_groupAt rfl rfl rfl (by decide +kernel) ⟨Nat.le_of_ble_eq_true rfl, Nat.le_of_ble_eq_true rfl⟩) (jr_V hK hN hP [3, 0, 1, 2] rfl 6 3 rfl rfl rfl) rfl rfl hl.1 rfl (lv_room (Nat.le_of_ble_eq_true rfl)) dX6_groups_23 ⟨Nat.le_of_ble_eq_true rfl, Nat.le_of_ble_eq_true rfl⟩)) (fun r f_4 => ?_)
  obtain ⟨k9_5, rfl, f_6⟩ := f_4
  refine lv_istore_n (lv' := [(1, .int (nI k9_5)), (0, .ref mo)]) hx hb dX6_groups_26 rfl hl (by decide) rfl (fun ls hl => ?_)
  refine lv_aload_n hx hb dX6_groups_27 rfl (lv_at hl 1 rfl) ?_
  refine lv_iload_n hx hb dX6_groups_28 rfl (lv_at hl 0 rfl) ?_
  refine lv_aload_n hx hb dX6_groups_29 rfl (lv_at hl 1 rfl) ?_
  refine va_get (D := D) (ci := 6) (v := .int (nI g)) (C := RX6) (T := TX6) (N := 15) hx hb hts (by decide +kernel) hown hK hP 3 rfl rfl 2 (by decide) (hts (.fieldLink RX6 32 "JoinDeskModel" "room" "I") (by decide +kernel)) (fun _ h9 => h9) rfl dX6_groups_30 ?_
  refine lv_icmp_gt (tgt := 40) hx hb dX6_groups_33 (by decide) (fun c_7 => ?_) (fun c_7 => ?_)
  · refine lv_iconst (v := 0) hx hb dX6_groups_40 (by decide) ?_
    refine va_put (D := D) (ci := 6) (v := .int 0) (ty := .boolean) (C := RX6) (T := TX6) (N := 15) hx hb hts (by decide +kernel) tyX6 tyX6_ok nmX6 hown hK hP hD hS 3 rfl rfl 8 (by decide) (hts (.fieldLink RX6 47 "JoinDeskModel" "grouped" "Z") (by decide +kernel)) (fun _ h9 => h9) rfl (by decide +kernel) rfl rfl (Nat.le_of_ble_eq_true rfl) dX6_groups_41 (fun H locs hP hD hS => ?_)
    have hP : va_P D vwCl [(q3, .inl (cI, 800, .inl m3)), (q5, .inl (cI, 800, .inl m5)), (q6, .inl (cI, 2, .inl (jl [nI n, nI n2]))), (mo, .inr (6, [.int 0, .ref q1, .int (nI g), .ref q3, .ref q4, .ref q5, .ref q6, .int 1, .int 0, .int kd, .long w10, .ref q11, .int mk, .long w13, .long w14]))] H := hP
    have hD : va_D A [(q3, .inl (cI, 800, .inl m3)), (q5, .inl (cI, 800, .inl m5)), (q6, .inl (cI, 2, .inl (jl [nI n, nI n2]))), (mo, .inr (6, [.int 0, .ref q1, .int (nI g), .ref q3, .ref q4, .ref q5, .ref q6, .int 1, .int 0, .int kd, .long w10, .ref q11, .int mk, .long w13, .long w14]))] := hD
    refine lv_aload_n hx hb dX6_groups_44 rfl (lv_at hl 1 rfl) ?_
    refine lv_aload_n hx hb dX6_groups_45 rfl (lv_at hl 1 rfl) ?_
    refine va_get (D := D) (ci := 6) (v := .int 0) (C := RX6) (T := TX6) (N := 15) hx hb hts (by decide +kernel) hown hK hP 3 rfl rfl 8 (by decide) (hts (.fieldLink RX6 47 "JoinDeskModel" "grouped" "Z") (by decide +kernel)) (fun _ h9 => h9) rfl dX6_groups_46 ?_
    refine lv_if_eq (tgt := 56) hx hb dX6_groups_49 (by decide) (fun c_8 => ?_) (fun c_8 => absurd c_8 (by decide))
    refine lv_iconst (v := 2) hx hb dX6_groups_56 (by decide) ?_
    refine jw_i (wr := [(q3, .inl (cI, 800, .inl m3)), (q5, .inl (cI, 800, .inl m5)), (q6, .inl (cI, 2, .inl (jl [nI n, nI n2])))]) (va_runV (As := [.int 2]) (rest := []) ⟨hx, hb, hml, hown, hts⟩ (gM_refuses_2 l D cI cL cQ mo g q1 q3 q4 q5 q6 q11 0 1 0 kd mk w10 w13 w14 _) (cwV 1 hts gX6_groups_X6_refuses rfl rfl rfl (by decide +kernel) ⟨Nat.le_of_ble_eq_true rfl, Nat.le_of_ble_eq_true rfl⟩) (jw_V hK hN hP hD [3] (by decide) rfl 6 3 rfl rfl rfl) rfl rfl hl.1 rfl (lv_room (Nat.le_of_ble_eq_true rfl)) dX6_groups_57 ⟨Nat.le_of_ble_eq_true rfl, Nat.le_of_ble_eq_true rfl⟩) hP hD hS hA [3] [0, 1, 2] rfl rfl (by decide) (by decide) (fun r u H locs f_9 hP hD hS => ?_)
    obtain ⟨rfl, rfl⟩ := f_9
    have hP : va_P D vwCl [(q3, .inl (cI, 800, .inl m3)), (q5, .inl (cI, 800, .inl m5)), (q6, .inl (cI, 2, .inl (jl [nI n, nI n2]))), (mo, .inr (6, [.int 2, .ref q1, .int (nI g), .ref q3, .ref q4, .ref q5, .ref q6, .int 1, .int 0, .int kd, .long w10, .ref q11, .int mk, .long w13, .long w14]))] H := hP
    have hD : va_D A [(q3, .inl (cI, 800, .inl m3)), (q5, .inl (cI, 800, .inl m5)), (q6, .inl (cI, 2, .inl (jl [nI n, nI n2]))), (mo, .inr (6, [.int 2, .ref q1, .int (nI g), .ref q3, .ref q4, .ref q5, .ref q6, .int 1, .int 0, .int kd, .long w10, .ref q11, .int mk, .long w13, .long w14]))] := hD
    refine lv_if_eq (tgt := 67) hx hb dX6_groups_60 (by decide) (fun c_10 => absurd c_10 (by decide)) (fun c_10 => ?_)
    refine lv_iconst (v := 0) hx hb dX6_groups_63 (by decide) ?_
    refine lv_goto (tgt := 68) hx hb dX6_groups_64 (by decide) ?_
    have hP := hP.sub (ws' := [(mo, .inr (6, [.int 2, .ref q1, .int (nI g), .ref q3, .ref q4, .ref q5, .ref q6, .int 1, .int 0, .int kd, .long w10, .ref q11, .int mk, .long w13, .long w14])), (q3, .inl (cI, 800, .inl m3)), (q5, .inl (cI, 800, .inl m5)), (q6, .inl (cI, 2, .inl (jl [nI n, nI n2])))]) [3, 0, 1, 2] rfl
    have hD := hD.sub (ws' := [(mo, .inr (6, [.int 2, .ref q1, .int (nI g), .ref q3, .ref q4, .ref q5, .ref q6, .int 1, .int 0, .int kd, .long w10, .ref q11, .int mk, .long w13, .long w14])), (q3, .inl (cI, 800, .inl m3)), (q5, .inl (cI, 800, .inl m5)), (q6, .inl (cI, 2, .inl (jl [nI n, nI n2])))]) [3, 0, 1, 2] (by decide) rfl
    refine W.widen (k := 0) (n := 0) (by omega) (by omega) ?_
    exact W.iret (v := 0) hx hb hr (fun t ht hW => ⟨⟨0, [(mo, .inr (6, [.int 2, .ref q1, .int (nI g), .ref q3, .ref q4, .ref q5, .ref q6, .int 1, .int 0, .int kd, .long w10, .ref q11, .int mk, .long w13, .long w14])), (q3, .inl (cI, 800, .inl m3)), (q5, .inl (cI, 800, .inl m5)), (q6, .inl (cI, 2, .inl (jl [nI n, nI n2])))], rfl, (by exact Or.inr ⟨_, rfl, rfl⟩), by rw [ht]; exact hP, hD⟩, hS.F ht⟩) hS.2.2 dX6_groups_68
  · refine lv_iconst (v := 1) hx hb dX6_groups_36 (by decide) ?_
    refine lv_goto (tgt := 41) hx hb dX6_groups_37 (by decide) ?_
    refine va_put (D := D) (ci := 6) (v := .int 1) (ty := .boolean) (C := RX6) (T := TX6) (N := 15) hx hb hts (by decide +kernel) tyX6 tyX6_ok nmX6 hown hK hP hD hS 3 rfl rfl 8 (by decide) (hts (.fieldLink RX6 47 "JoinDeskModel" "grouped" "Z") (by decide +kernel)) (fun _ h9 => h9) rfl (by decide +kernel) rfl rfl (Nat.le_of_ble_eq_true rfl) dX6_groups_41 (fun H locs hP hD hS => ?_)
    have hP : va_P D vwCl [(q3, .inl (cI, 800, .inl m3)), (q5, .inl (cI, 800, .inl m5)), (q6, .inl (cI, 2, .inl (jl [nI n, nI n2]))), (mo, .inr (6, [.int 0, .ref q1, .int (nI g), .ref q3, .ref q4, .ref q5, .ref q6, .int 1, .int 1, .int kd, .long w10, .ref q11, .int mk, .long w13, .long w14]))] H := hP
    have hD : va_D A [(q3, .inl (cI, 800, .inl m3)), (q5, .inl (cI, 800, .inl m5)), (q6, .inl (cI, 2, .inl (jl [nI n, nI n2]))), (mo, .inr (6, [.int 0, .ref q1, .int (nI g), .ref q3, .ref q4, .ref q5, .ref q6, .int 1, .int 1, .int kd, .long w10, .ref q11, .int mk, .long w13, .long w14]))] := hD
    refine lv_aload_n hx hb dX6_groups_44 rfl (lv_at hl 1 rfl) ?_
    refine lv_aload_n hx hb dX6_groups_45 rfl (lv_at hl 1 rfl) ?_
    refine va_get (D := D) (ci := 6) (v := .int 1) (C := RX6) (T := TX6) (N := 15) hx hb hts (by decide +kernel) hown hK hP 3 rfl rfl 8 (by decide) (hts (.fieldLink RX6 47 "JoinDeskModel" "grouped" "Z") (by decide +kernel)) (fun _ h9 => h9) rfl dX6_groups_46 ?_
    refine lv_if_eq (tgt := 56) hx hb dX6_groups_49 (by decide) (fun c_11 => absurd c_11 (by decide)) (fun c_11 => ?_)
    refine lv_iconst (v := 0) hx hb dX6_groups_52 (by decide) ?_
    refine lv_goto (tgt := 57) hx hb dX6_groups_53 (by decide) ?_
    refine jw_i (wr := [(q3, .inl (cI, 800, .inl m3)), (q5, .inl (cI, 800, .inl m5)), (q6, .inl (cI, 2, .inl (jl [nI n, nI n2])))]) (va_runV (As := [.int 0]) (rest := []) ⟨hx, hb, hml, hown, hts⟩ (gM_refuses_0 l D cI cL cQ mo g q1 q3 q4 q5 q6 q11 0 1 1 kd mk w10 w13 w14 _) (cwV 1 hts gX6_groups_X6_refuses rfl rfl rfl (by decide +kernel) ⟨Nat.le_of_ble_eq_true rfl, Nat.le_of_ble_eq_true rfl⟩) (jw_V hK hN hP hD [3] (by decide) rfl 6 3 rfl rfl rfl) rfl rfl hl.1 rfl (lv_room (Nat.le_of_ble_eq_true rfl)) dX6_groups_57 ⟨Nat.le_of_ble_eq_true rfl, Nat.le_of_ble_eq_true rfl⟩) hP hD hS hA [3] [0, 1, 2] rfl rfl (by decide) (by decide) (fun r u H locs f_12 hP hD hS => ?_)
    obtain ⟨rfl, rfl⟩ := f_12
    have hP : va_P D vwCl [(q3, .inl (cI, 800, .inl m3)), (q5, .inl (cI, 800, .inl m5)), (q6, .inl (cI, 2, .inl (jl [nI n, nI n2]))), (mo, .inr (6, [.int 0, .ref q1, .int (nI g), .ref q3, .ref q4, .ref q5, .ref q6, .int 1, .int 1, .int kd, .long w10, .ref q11, .int mk, .long w13, .long w14]))] H := hP
    have hD : va_D A [(q3, .inl (cI, 800, .inl m3)), (q5, .inl (cI, 800, .inl m5)), (q6, .inl (cI, 2, .inl (jl [nI n, nI n2]))), (mo, .inr (6, [.int 0, .ref q1, .int (nI g), .ref q3, .ref q4, .ref q5, .ref q6, .int 1, .int 1, .int kd, .long w10, .ref q11, .int mk, .long w13, .long w14]))] := hD
    refine lv_if_eq (tgt := 67) hx hb dX6_groups_60 (by decide) (fun c_13 => ?_) (fun c_13 => absurd c_13 (by decide))
    refine lv_iload_n hx hb dX6_groups_67 rfl (lv_at hl 0 rfl) ?_
    have hP := hP.sub (ws' := [(mo, .inr (6, [.int 0, .ref q1, .int (nI g), .ref q3, .ref q4, .ref q5, .ref q6, .int 1, .int 1, .int kd, .long w10, .ref q11, .int mk, .long w13, .long w14])), (q3, .inl (cI, 800, .inl m3)), (q5, .inl (cI, 800, .inl m5)), (q6, .inl (cI, 2, .inl (jl [nI n, nI n2])))]) [3, 0, 1, 2] rfl
    have hD := hD.sub (ws' := [(mo, .inr (6, [.int 0, .ref q1, .int (nI g), .ref q3, .ref q4, .ref q5, .ref q6, .int 1, .int 1, .int kd, .long w10, .ref q11, .int mk, .long w13, .long w14])), (q3, .inl (cI, 800, .inl m3)), (q5, .inl (cI, 800, .inl m5)), (q6, .inl (cI, 2, .inl (jl [nI n, nI n2])))]) [3, 0, 1, 2] (by decide) rfl
    refine W.widen (k := 0) (n := 0) (by omega) (by omega) ?_
    exact W.iret (v := nI k9_5) hx hb hr (fun t ht hW => ⟨⟨(nI k9_5), [(mo, .inr (6, [.int 0, .ref q1, .int (nI g), .ref q3, .ref q4, .ref q5, .ref q6, .int 1, .int 1, .int kd, .long w10, .ref q11, .int mk, .long w13, .long w14])), (q3, .inl (cI, 800, .inl m3)), (q5, .inl (cI, 800, .inl m5)), (q6, .inl (cI, 2, .inl (jl [nI n, nI n2])))], rfl, (by exact Or.inl ⟨_, rfl, rfl⟩), by rw [ht]; exact hP, hD⟩, hS.F ht⟩) hS.2.2 dX6_groups_68
