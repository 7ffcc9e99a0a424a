set_option maxHeartbeats 1000000 in
set_option maxRecDepth 100000 in
theorem gM_groupAt_m (l : Launch) (D : va_G) (cI cL cQ : ClassId) (mo : Nat) (g : Nat) (n : Nat) (n2 : Nat) (q1 : Nat) (q3 : Nat) (q4 : Nat) (q5 : Nat) (q6 : Nat) (q11 : Nat) (z0 : Int32) (pr : Int32) (gr : Int32) (kd : Int32) (mk : Int32) (w10 : Int64) (w13 : Int64) (w14 : Int64) (m3 : Nat → Int32) (m5 : Nat → Int32) (K1 : Nat → Int32) (K2 : Nat → Int32) (hn : n ≤ 400) (hn2 : n2 ≤ 400) (h5 : jo5 m5) (hk1 : ∀ i, i < n → jmk 0 m3 m5 i = K1 i) (hct : ∀ x, jCt n2 (jsh 400 m3) x = jCt n2 K2 x) : Met l yX6_groupAt wsX6_groupAt ({ frames := 1, cells := 0, slots := 0, locals := 24 }) (jr_P D vwCl (jT cI cL cQ) cL cQ [.ref mo, .int (-1)] [(mo, .inr (6, [.int z0, .ref q1, .int (nI g), .ref q3, .ref q4, .ref q5, .ref q6, .int pr, .int gr, .int kd, .long w10, .ref q11, .int mk, .long w13, .long w14])), (q3, .inl (cI, 800, .inl m3)), (q5, .inl (cI, 800, .inl m5)), (q6, .inl (cI, 2, .inl (jl [nI n, nI n2])))]) (vp_Si (fun r : Int32 => r = nI (jGn n2 K1 K2 n))) 0 0 (fun _ => False) := by
  refine Met.ofW (cc := cX6_groupAt) (maxL := 5) (ret := (some .int)) (by decide) rfl ?_
  intro p e s m args below meth c s₁ B hml hv
  obtain ⟨rfl, hP, hK, hN⟩ := hv
  have hx := B.exec
  have hb := B.bytes
  have hr := B.returns
  have hts := atoms_spec (ws := wsX6_groupAt) B.pre
  have hown : s.vm.findClass RX6 = some m.cls := findClass_of_methodNamed B.named
  have hlocks := B.notSynchronized
  have hl := lv_entry ([.ref mo, .int (-1)]) (n := 5) (Nat.le_of_ble_eq_true rfl)
  rw [lg_entry_eq]
  generalize (lg_sl ([.ref mo, .int (-1)]) ++ List.replicate (5 - (lg_sl ([.ref mo, .int (-1)])).length) Slot.unset).toArray = ls at hl ⊢
  have hl : lv_has ls 5 [(0, .ref mo), (1, .int (-1))] := hl
  refine lv_iconst (v := 0) hx hb dX6_groupAt_0 (by decide) ?_
  refine lv_istore_n (lv' := [(2, .int 0), (0, .ref mo), (1, .int (-1))]) hx hb dX6_groupAt_1 rfl hl (by decide) rfl (fun ls hl => ?_)
  refine lv_iconst (v := 0) hx hb dX6_groupAt_2 (by decide) ?_
  refine lv_istore_n (lv' := [(3, .int 0), (2, .int 0), (0, .ref mo), (1, .int (-1))]) hx hb dX6_groupAt_3 rfl hl (by decide) rfl (fun ls hl => ?_)
  have hloop_1 : ∀ (k_1 : Nat) (i : Nat) (z : Nat), n - i < k_1 → (i ≤ n) → (z ≤ i) → (z = jGn n2 K1 K2 i) → ∀ ls : Array Slot, lv_has ls 5 [(0, .ref mo), (1, .int (-1)), (2, .int (nI z)), (3, .int (nI i))] → W p l e (headSpec wsX6_groupAt ({ frames := 1, cells := 0, slots := 0, locals := 24 })).room s m #[.ref mo, .int (-1)] below meth c s.heap [] 0 0 (MQ below (vp_Si (fun r : Int32 => r = nI (jGn n2 K1 K2 n))) #[.ref mo, .int (-1)] s 0 0 (fun _ => False)) (F0 m 4 ls []) := by
    intro k_1
    induction k_1 with
    | zero => exact fun _ _ hm => absurd hm (Nat.not_lt_zero _)
    | succ k_1 ih_1 =>
      intro i z hm1 hi hzi hz ls hl
      rcases i with _ | i
      · have hl : lv_has ls 5 [(0, .ref mo), (1, .int (-1)), (2, .int (nI z)), (3, .int (nI 0))] := hl
        refine lv_iload_n hx hb dX6_groupAt_4 rfl (lv_at hl 3 rfl) ?_
        refine lv_aload_n hx hb dX6_groupAt_5 rfl (lv_at hl 0 rfl) ?_
        refine va_get (D := D) (ci := 6) (v := .ref q6) (C := RX6) (T := TX6) (N := 15) hx hb hts (by decide +kernel) hown hK hP 0 rfl rfl 6 (by decide) (hts (.fieldLink RX6 22 "JoinDeskModel" "many" "[I") (by decide +kernel)) (fun _ h9 => h9) rfl dX6_groupAt_6 ?_
        refine lv_iconst (v := 0) hx hb dX6_groupAt_9 (by decide) ?_
        refine va_iald hx hb hK hP 3 0 rfl rfl (by unfold vp_in; decide) dX6_groupAt_10 ?_
        refine W.eq (g2 := F0 m 11 ls [.int (nI n), .int (nI 0)]) rfl ?_
        refine lv_icmp_ge (tgt := 77) hx hb dX6_groupAt_11 (by decide) (fun cge => ?_) (fun cge => ?_)
        · refine lv_iload_n hx hb dX6_groupAt_77 rfl (lv_at hl 2 rfl) ?_
          exact W.iret (v := nI z) hx hb hr (fun t ht hW => ⟨(nI z), rfl, (by rw [nI_leI (by omega) (by omega)] at cge; rw [hz]; exact congrArg (fun q => nI (jGn n2 K1 K2 q)) (show 0 = n by omega)), ht⟩) (fun _ h => nomatch h) dX6_groupAt_78
        · refine lv_iload_n hx hb dX6_groupAt_14 rfl (lv_at hl 3 rfl) ?_
          refine lv_if_eq (tgt := 35) hx hb dX6_groupAt_15 (by decide) (fun c_1 => ?_) (fun c_1 => absurd c_1 (by decide))
          refine lv_iconst (v := 1) hx hb dX6_groupAt_35 (by decide) ?_
          refine lv_goto (tgt := 40) hx hb dX6_groupAt_36 (by decide) ?_
          refine lv_istore (lv' := [(4, .int 1), (0, .ref mo), (1, .int (-1)), (2, .int (nI z)), (3, .int (nI 0))]) hx hb dX6_groupAt_40 hl (by decide) rfl (fun ls hl => ?_)
          refine lv_iload hx hb dX6_groupAt_42 (lv_at hl 0 rfl) ?_
          refine lv_if_eq (tgt := 71) hx hb dX6_groupAt_44 (by decide) (fun c_2 => absurd c_2 (by decide)) (fun c_2 => ?_)
          refine lv_aload_n hx hb dX6_groupAt_47 rfl (lv_at hl 1 rfl) ?_
          refine lv_iconst (v := 1) hx hb dX6_groupAt_48 (by decide) ?_
          refine lv_aload_n hx hb dX6_groupAt_49 rfl (lv_at hl 1 rfl) ?_
          refine lv_iconst (v := 0) hx hb dX6_groupAt_50 (by decide) ?_
          refine lv_iload_n hx hb dX6_groupAt_51 rfl (lv_at hl 4 rfl) ?_
          refine vp_callSi (va_Run.run (va_runV (As := [.int 0, .int (nI 0)]) (rest := [.int 1, .ref mo]) ⟨hx, hb, hml, hown, hts⟩ (gM_key_0 l D cI cL cQ mo g q1 q3 q4 q5 q6 q11 z0 pr gr kd mk w10 w13 w14 m3 m5 0 (by first | assumption | decide | omega) (by rw [nI_leI (by omega) (by omega)] at cge; omega)) (cwV 2 hts gX6_groupAt_X6_key rfl rfl rfl (by decide +kernel) ⟨Nat.le_of_ble_eq_true rfl, Nat.le_of_ble_eq_true rfl⟩) (jr_V hK hN hP [0, 1, 2] rfl 6 0 rfl rfl rfl) rfl rfl hl.1 rfl (lv_room (Nat.le_of_ble_eq_true rfl)) dX6_groupAt_52 ⟨Nat.le_of_ble_eq_true rfl, Nat.le_of_ble_eq_true rfl⟩)) (fun r f_3 => ?_)
          obtain rfl := f_3
          refine vp_callSi (va_Run.run (va_runV (As := [.int 1, .int (jmk 0 m3 m5 0)]) (rest := []) ⟨hx, hb, hml, hown, hts⟩ (gM_rowsOf_1 l D cI cL cQ mo g n n2 q1 q3 q4 q5 q6 q11 z0 pr gr kd mk w10 w13 w14 m3 (jmk 0 m3 m5 0) (by first | assumption | decide | omega)) (cwV 2 hts gX6_groupAt_X6_rowsOf rfl rfl rfl (by decide +kernel) ⟨Nat.le_of_ble_eq_true rfl, Nat.le_of_ble_eq_true rfl⟩) (jr_V hK hN hP [0, 1, 3] rfl 6 0 rfl rfl rfl) rfl rfl hl.1 rfl (lv_room (Nat.le_of_ble_eq_true rfl)) dX6_groupAt_55 ⟨Nat.le_of_ble_eq_true rfl, Nat.le_of_ble_eq_true rfl⟩)) (fun r f_4 => ?_)
          obtain rfl := f_4
          refine lv_if_le (tgt := 71) hx hb dX6_groupAt_58 (by decide) (fun cpo => ?_) (fun cpo => ?_)
          · refine lv_iinc (v := 1) (lv' := [(3, .int 1), (4, .int 1), (0, .ref mo), (1, .int (-1)), (2, .int (nI z))]) hx hb dX6_groupAt_71 hl (k := 4) rfl (by first | rfl | decide) (by decide) rfl (fun ls hl => ?_)
            refine lv_goto (tgt := 4) hx hb dX6_groupAt_74 (by decide) ?_
            exact ih_1 1 z (by rw [nI_leI (by omega) (by omega)] at cge; omega) (by rw [nI_leI (by omega) (by omega)] at cge; omega) (by omega) (jGn_0 (jgb_f2 (by have h := jgb_c0 hn2 hct cpo; rw [hk1 0 (by rw [nI_leI (by omega) (by omega)] at cge; omega)] at h; exact h)) hz) ls (lv_sub hl [2, 3, 4, 0] rfl)
          · refine lv_iload_n hx hb dX6_groupAt_61 rfl (lv_at hl 3 rfl) ?_
            refine lv_iload_n hx hb dX6_groupAt_62 rfl (lv_at hl 2 rfl) ?_
            refine lv_icmp_ne (tgt := 68) hx hb dX6_groupAt_63 (by decide) (fun c_5 => ?_) (fun c_5 => absurd c_5 (by exact nI_m1 (by omega)))
            refine lv_iinc (v := nI (z + 1)) (lv' := [(2, .int (nI (z + 1))), (4, .int 1), (0, .ref mo), (1, .int (-1)), (3, .int (nI 0))]) hx hb dX6_groupAt_68 hl (k := 3) rfl (nI_1 _) (by decide) rfl (fun ls hl => ?_)
            refine lv_iinc (v := 1) (lv' := [(3, .int 1), (2, .int (nI (z + 1))), (4, .int 1), (0, .ref mo), (1, .int (-1))]) hx hb dX6_groupAt_71 hl (k := 4) rfl (by first | rfl | decide) (by decide) rfl (fun ls hl => ?_)
            refine lv_goto (tgt := 4) hx hb dX6_groupAt_74 (by decide) ?_
            exact ih_1 1 (z + 1) (by rw [nI_leI (by omega) (by omega)] at cge; omega) (by rw [nI_leI (by omega) (by omega)] at cge; omega) (by omega) (jGn_1 (jgb_t (Or.inl rfl) (by have h := jgb_c1 hct cpo; rw [hk1 0 (by rw [nI_leI (by omega) (by omega)] at cge; omega)] at h; exact h)) hz) ls (lv_sub hl [3, 4, 1, 0] rfl)
      · have hl : lv_has ls 5 [(0, .ref mo), (1, .int (-1)), (2, .int (nI z)), (3, .int (nI (i + 1)))] := hl
        refine lv_iload_n hx hb dX6_groupAt_4 rfl (lv_at hl 3 rfl) ?_
        refine lv_aload_n hx hb dX6_groupAt_5 rfl (lv_at hl 0 rfl) ?_
        refine va_get (D := D) (ci := 6) (v := .ref q6) (C := RX6) (T := TX6) (N := 15) hx hb hts (by decide +kernel) hown hK hP 0 rfl rfl 6 (by decide) (hts (.fieldLink RX6 22 "JoinDeskModel" "many" "[I") (by decide +kernel)) (fun _ h9 => h9) rfl dX6_groupAt_6 ?_
        refine lv_iconst (v := 0) hx hb dX6_groupAt_9 (by decide) ?_
        refine va_iald hx hb hK hP 3 0 rfl rfl (by unfold vp_in; decide) dX6_groupAt_10 ?_
        refine W.eq (g2 := F0 m 11 ls [.int (nI n), .int (nI (i + 1))]) rfl ?_
        refine lv_icmp_ge (tgt := 77) hx hb dX6_groupAt_11 (by decide) (fun cge => ?_) (fun cge => ?_)
        · refine lv_iload_n hx hb dX6_groupAt_77 rfl (lv_at hl 2 rfl) ?_
          exact W.iret (v := nI z) hx hb hr (fun t ht hW => ⟨(nI z), rfl, (by rw [nI_leI (by omega) (by omega)] at cge; rw [hz]; exact congrArg (fun q => nI (jGn n2 K1 K2 q)) (show i + 1 = n by omega)), ht⟩) (fun _ h => nomatch h) dX6_groupAt_78
        · refine lv_iload_n hx hb dX6_groupAt_14 rfl (lv_at hl 3 rfl) ?_
          refine lv_if_eq (tgt := 35) hx hb dX6_groupAt_15 (by decide) (fun c_6 => absurd c_6 (by exact nI_ne0 (by omega) (by omega))) (fun c_6 => ?_)
          refine lv_aload_n hx hb dX6_groupAt_18 rfl (lv_at hl 0 rfl) ?_
          refine lv_iconst (v := 0) hx hb dX6_groupAt_19 (by decide) ?_
          refine lv_iload_n hx hb dX6_groupAt_20 rfl (lv_at hl 3 rfl) ?_
          refine vp_callSi (va_Run.run (va_runV (As := [.int 0, .int (nI (i + 1))]) (rest := []) ⟨hx, hb, hml, hown, hts⟩ (gM_key_0 l D cI cL cQ mo g q1 q3 q4 q5 q6 q11 z0 pr gr kd mk w10 w13 w14 m3 m5 (i + 1) (by first | assumption | decide | omega) (by rw [nI_leI (by omega) (by omega)] at cge; omega)) (cwV 2 hts gX6_groupAt_X6_key rfl rfl rfl (by decide +kernel) ⟨Nat.le_of_ble_eq_true rfl, Nat.le_of_ble_eq_true rfl⟩) (jr_V hK hN hP [0, 1, 2] rfl 6 0 rfl rfl rfl) rfl rfl hl.1 rfl (lv_room (Nat.le_of_ble_eq_true rfl)) dX6_groupAt_21 ⟨Nat.le_of_ble_eq_true rfl, Nat.le_of_ble_eq_true rfl⟩)) (fun r f_7 => ?_)
          obtain rfl := f_7
          refine lv_aload_n hx hb dX6_groupAt_24 rfl (lv_at hl 0 rfl) ?_
          refine lv_iconst (v := 0) hx hb dX6_groupAt_25 (by decide) ?_
          refine lv_iload_n hx hb dX6_groupAt_26 rfl (lv_at hl 3 rfl) ?_
          refine lv_iconst (v := 1) hx hb dX6_groupAt_27 (by decide) ?_
          refine lv_isub hx hb dX6_groupAt_28 ?_
          refine lv_topi (fun z_8 e_z_8 => ?_)
          obtain rfl : z_8 = nI i := e_z_8.trans (nI_pred _)
          refine vp_callSi (va_Run.run (va_runV (As := [.int 0, .int (nI i)]) (rest := [.int (jmk 0 m3 m5 (i + 1))]) ⟨hx, hb, hml, hown, hts⟩ (gM_key_0 l D cI cL cQ mo g q1 q3 q4 q5 q6 q11 z0 pr gr kd mk w10 w13 w14 m3 m5 i (by first | assumption | decide | omega) (by rw [nI_leI (by omega) (by omega)] at cge; omega)) (cwV 2 hts gX6_groupAt_X6_key rfl rfl rfl (by decide +kernel) ⟨Nat.le_of_ble_eq_true rfl, Nat.le_of_ble_eq_true rfl⟩) (jr_V hK hN hP [0, 1, 2] rfl 6 0 rfl rfl rfl) rfl rfl hl.1 rfl (lv_room (Nat.le_of_ble_eq_true rfl)) dX6_groupAt_29 ⟨Nat.le_of_ble_eq_true rfl, Nat.le_of_ble_eq_true rfl⟩)) (fun r f_9 => ?_)
          obtain rfl := f_9
          refine lv_icmp_eq (tgt := 39) hx hb dX6_groupAt_32 (by decide) (fun cfi => ?_) (fun cfi => ?_)
          · refine lv_iconst (v := 0) hx hb dX6_groupAt_39 (by decide) ?_
            refine lv_istore (lv' := [(4, .int 0), (0, .ref mo), (1, .int (-1)), (2, .int (nI z)), (3, .int (nI (i + 1)))]) hx hb dX6_groupAt_40 hl (by decide) rfl (fun ls hl => ?_)
            refine lv_iload hx hb dX6_groupAt_42 (lv_at hl 0 rfl) ?_
            refine lv_if_eq (tgt := 71) hx hb dX6_groupAt_44 (by decide) (fun c_10 => ?_) (fun c_10 => absurd c_10 (by decide))
            refine lv_iinc (v := nI ((i + 1) + 1)) (lv' := [(3, .int (nI ((i + 1) + 1))), (4, .int 0), (0, .ref mo), (1, .int (-1)), (2, .int (nI z))]) hx hb dX6_groupAt_71 hl (k := 4) rfl (nI_1 _) (by decide) rfl (fun ls hl => ?_)
            refine lv_goto (tgt := 4) hx hb dX6_groupAt_74 (by decide) ?_
            exact ih_1 ((i + 1) + 1) z (by rw [nI_leI (by omega) (by omega)] at cge; omega) (by rw [nI_leI (by omega) (by omega)] at cge; omega) (by omega) (jGn_0 (jgb_f1 (by rw [hk1 (i + 1) (by rw [nI_leI (by omega) (by omega)] at cge; omega), hk1 i (by rw [nI_leI (by omega) (by omega)] at cge; omega)] at cfi; exact cfi.symm)) hz) ls (lv_sub hl [2, 3, 4, 0] rfl)
          · refine lv_iconst (v := 1) hx hb dX6_groupAt_35 (by decide) ?_
            refine lv_goto (tgt := 40) hx hb dX6_groupAt_36 (by decide) ?_
            refine lv_istore (lv' := [(4, .int 1), (0, .ref mo), (1, .int (-1)), (2, .int (nI z)), (3, .int (nI (i + 1)))]) hx hb dX6_groupAt_40 hl (by decide) rfl (fun ls hl => ?_)
            refine lv_iload hx hb dX6_groupAt_42 (lv_at hl 0 rfl) ?_
            refine lv_if_eq (tgt := 71) hx hb dX6_groupAt_44 (by decide) (fun c_11 => absurd c_11 (by decide)) (fun c_11 => ?_)
            refine lv_aload_n hx hb dX6_groupAt_47 rfl (lv_at hl 1 rfl) ?_
            refine lv_iconst (v := 1) hx hb dX6_groupAt_48 (by decide) ?_
            refine lv_aload_n hx hb dX6_groupAt_49 rfl (lv_at hl 1 rfl) ?_
            refine lv_iconst (v := 0) hx hb dX6_groupAt_50 (by decide) ?_
            refine lv_iload_n hx hb dX6_groupAt_51 rfl (lv_at hl 4 rfl) ?_
            refine vp_callSi (va_Run.run (va_runV (As := [.int 0, .int (nI (i + 1))]) (rest := [.int 1, .ref mo]) ⟨hx, hb, hml, hown, hts⟩ (gM_key_0 l D cI cL cQ mo g q1 q3 q4 q5 q6 q11 z0 pr gr kd mk w10 w13 w14 m3 m5 (i + 1) (by first | assumption | decide | omega) (by rw [nI_leI (by omega) (by omega)] at cge; omega)) (cwV 2 hts gX6_groupAt_X6_key rfl rfl rfl (by decide +kernel) ⟨Nat.le_of_ble_eq_true rfl, Nat.le_of_ble_eq_true rfl⟩) (jr_V hK hN hP [0, 1, 2] rfl 6 0 rfl rfl rfl) rfl rfl hl.1 rfl (lv_room (Nat.le_of_ble_eq_true rfl)) dX6_groupAt_52 ⟨Nat.le_of_ble_eq_true rfl, Nat.le_of_ble_eq_true rfl⟩)) (fun r f_12 => ?_)
            obtain rfl := f_12
            refine vp_callSi (va_Run.run (va_runV (As := [.int 1, .int (jmk 0 m3 m5 (i + 1))]) (rest := []) ⟨hx, hb, hml, hown, hts⟩ (gM_rowsOf_1 l D cI cL cQ mo g n n2 q1 q3 q4 q5 q6 q11 z0 pr gr kd mk w10 w13 w14 m3 (jmk 0 m3 m5 (i + 1)) (by first | assumption | decide | omega)) (cwV 2 hts gX6_groupAt_X6_rowsOf rfl rfl rfl (by decide +kernel) ⟨Nat.le_of_ble_eq_true rfl, Nat.le_of_ble_eq_true rfl⟩) (jr_V hK hN hP [0, 1, 3] rfl 6 0 rfl rfl rfl) rfl rfl hl.1 rfl (lv_room (Nat.le_of_ble_eq_true rfl)) dX6_groupAt_55 ⟨Nat.le_of_ble_eq_true rfl, Nat.le_of_ble_eq_true rfl⟩)) (fun r f_13 => ?_)
            obtain rfl := f_13
            refine lv_if_le (tgt := 71) hx hb dX6_groupAt_58 (by decide) (fun cpo => ?_) (fun cpo => ?_)
            · refine lv_iinc (v := nI ((i + 1) + 1)) (lv' := [(3, .int (nI ((i + 1) + 1))), (4, .int 1), (0, .ref mo), (1, .int (-1)), (2, .int (nI z))]) hx hb dX6_groupAt_71 hl (k := 4) rfl (nI_1 _) (by decide) rfl (fun ls hl => ?_)
              refine lv_goto (tgt := 4) hx hb dX6_groupAt_74 (by decide) ?_
              exact ih_1 ((i + 1) + 1) z (by rw [nI_leI (by omega) (by omega)] at cge; omega) (by rw [nI_leI (by omega) (by omega)] at cge; omega) (by omega) (jGn_0 (jgb_f2 (by have h := jgb_c0 hn2 hct cpo; rw [hk1 (i + 1) (by rw [nI_leI (by omega) (by omega)] at cge; omega)] at h; exact h)) hz) ls (lv_sub hl [2, 3, 4, 0] rfl)
            · refine lv_iload_n hx hb dX6_groupAt_61 rfl (lv_at hl 3 rfl) ?_
              refine lv_iload_n hx hb dX6_groupAt_62 rfl (lv_at hl 2 rfl) ?_
              refine lv_icmp_ne (tgt := 68) hx hb dX6_groupAt_63 (by decide) (fun c_14 => ?_) (fun c_14 => absurd c_14 (by exact nI_m1 (by omega)))
              refine lv_iinc (v := nI (z + 1)) (lv' := [(2, .int (nI (z + 1))), (4, .int 1), (0, .ref mo), (1, .int (-1)), (3, .int (nI (i + 1)))]) hx hb dX6_groupAt_68 hl (k := 3) rfl (nI_1 _) (by decide) rfl (fun ls hl => ?_)
              refine lv_iinc (v := nI ((i + 1) + 1)) (lv' := [(3, .int (nI ((i + 1) + 1))), (2, .int (nI (z + 1))), (4, .int 1), (0, .ref mo), (1, .int (-1))]) hx hb dX6_groupAt_71 hl (k := 4) rfl (nI_1 _) (by decide) rfl (fun ls hl => ?_)
              refine lv_goto (tgt := 4) hx hb dX6_groupAt_74 (by decide) ?_
              exact ih_1 ((i + 1) + 1) (z + 1) (by rw [nI_leI (by omega) (by omega)] at cge; omega) (by rw [nI_leI (by omega) (by omega)] at cge; omega) (by omega) (jGn_1 (jgb_t (Or.inr (by rw [hk1 (i + 1) (by rw [nI_leI (by omega) (by omega)] at cge; omega), hk1 i (by rw [nI_leI (by omega) (by omega)] at cge; omega)] at cfi; exact fun q => cfi q.symm)) (by have h := jgb_c1 hct cpo; rw [hk1 (i + 1) (by rw [nI_leI (by omega) (by omega)] at cge; omega)] at h; exact h)) hz) ls (lv_sub hl [3, 4, 1, 0] rfl)
  exact hloop_1 (n - 0 + 1) 0 0 (Nat.lt_succ_self _) (Nat.zero_le _) (Nat.le_refl _) (rfl) ls (lv_sub hl [2, 3, 1, 0] rfl)
set_option maxHeartbeats 1000000 in
set_option maxRecDepth 100000 in
theorem gM_groups (l : Launch) (D : va_G) (cI cL cQ : ClassId) (mo : Nat) (g : Nat) (n : Nat) (n2 : Nat) (q1 : Nat) (q3 : Nat) (q4 : Nat) (q5 : Nat) (q6 : Nat) (q11 : Nat) (z0 : Int32) (gr : Int32) (kd : Int32) (mk : Int32) (w10 : Int64) (w13 : Int64) (w14 : Int64) (m3 : Nat → Int32) (m5 : Nat → Int32) (K1 : Nat → Int32) (K2 : Nat → Int32) (sz : Nat) (hn : n ≤ 400) (hn2 : n2 ≤ 400) (h5 : jo5 m5) (hk1 : ∀ i, i < n → jmk 0 m3 m5 i = K1 i) (hct : ∀ x, jCt n2 (jsh 400 m3) x = jCt n2 K2 x) (hg : g ≤ 400) : Met l yX6_groups wsX6_groups ({ frames := 2, cells := 0, slots := 0, locals := 48 }) (jw_P D vwCl (jT cI cL cQ) cL cQ [.ref mo] [(mo, .inr (6, [.int z0, .ref q1, .int (nI g), .ref q3, .ref q4, .ref q5, .ref q6, .int 1, .int gr, .int kd, .long w10, .ref q11, .int mk, .long w13, .long w14])), (q3, .inl (cI, 800, .inl m3)), (q5, .inl (cI, 800, .inl m5)), (q6, .inl (cI, 2, .inl (jl [nI n, nI n2])))] sz) (va_Qi (fun (r : Int32) (u : va_W) => (r = nI (jGn n2 K1 K2 n) ∧ u = [(mo, .inr (6, [.int 0, .ref q1, .int (nI g), .ref q3, .ref q4, .ref q5, .ref q6, .int 1, .int 1, .int kd, .long w10, .ref q11, .int mk, .long w13, .long w14])), (q3, .inl (cI, 800, .inl m3)), (q5, .inl (cI, 800, .inl m5)), (q6, .inl (cI, 2, .inl (jl [nI n, nI n2])))] ∧ (jGn n2 K1 K2 n ≤ g)) ∨ (r = 0 ∧ u = [(mo, .inr (6, [.int 2, .ref q1, .int (nI g), .ref q3, .ref q4, .ref q5, .ref q6, .int 1, .int 0, .int kd, .long w10, .ref q11, .int mk, .long w13, .long w14])), (q3, .inl (cI, 800, .inl m3)), (q5, .inl (cI, 800, .inl m5)), (q6, .inl (cI, 2, .inl (jl [nI n, nI n2])))] ∧ (¬ jGn n2 K1 K2 n ≤ g))) (jw_B D vwCl (va_A [(mo, .inr (6, [.int z0, .ref q1, .int (nI g), .ref q3, .ref q4, .ref q5, .ref q6, .int 1, .int gr, .int kd, .long w10, .ref q11, .int mk, .long w13, .long w14])), (q3, .inl (cI, 800, .inl m3)), (q5, .inl (cI, 800, .inl m5)), (q6, .inl (cI, 2, .inl (jl [nI n, nI n2])))] sz) (fun u : va_W => u)) (va_A [(mo, .inr (6, [.int z0, .ref q1, .int (nI g), .ref q3, .ref q4, .ref q5, .ref q6, .int 1, .int gr, .int kd, .long w10, .ref q11, .int mk, .long w13, .long w14])), (q3, .inl (cI, 800, .inl m3)), (q5, .inl (cI, 800, .inl m5)), (q6, .inl (cI, 2, .inl (jl [nI n, nI n2])))] sz)) 0 0 (va_A [(mo, .inr (6, [.int z0, .ref q1, .int (nI g), .ref q3, .ref q4, .ref q5, .ref q6, .int 1, .int gr, .int kd, .long w10, .ref q11, .int mk, .long w13, .long w14])), (q3, .inl (cI, 800, .inl m3)), (q5, .inl (cI, 800, .inl m5)), (q6, .inl (cI, 2, .inl (jl [nI n, nI n2])))] sz) := by
  refine Met.ofW (cc := cX6_groups) (maxL := 2) (ret := (some .int)) (by decide) rfl ?_
  intro p e s m args below meth c s₁ B hml hv
  obtain ⟨rfl, hsz, hP, hK, hN, hD0⟩ := hv
  have hx := B.exec
  have hb := B.bytes
  have hr := B.returns
  have hts := atoms_spec (ws := wsX6_groups) B.pre
  have hown : s.vm.findClass RX6 = some m.cls := findClass_of_methodNamed B.named
  have hlocks := B.notSynchronized
  subst hsz
  have hD := hD0.self (sz := s.heap.size)
  generalize hAe : va_A [(mo, .inr (6, [.int z0, .ref q1, .int (nI g), .ref q3, .ref q4, .ref q5, .ref q6, .int 1, .int gr, .int kd, .long w10, .ref q11, .int mk, .long w13, .long w14])), (q3, .inl (cI, 800, .inl m3)), (q5, .inl (cI, 800, .inl m5)), (q6, .inl (cI, 2, .inl (jl [nI n, nI n2])))] s.heap.size = A at hD ⊢
  have hA : ∀ q : Nat, s.heap.size ≤ q → A q := fun q h => by rw [← hAe]; exact Or.inr h
  have hS : va_S A s.heap s.heap [] := va_S.rf
  have hl := lv_entry ([.ref mo]) (n := 2) (Nat.le_of_ble_eq_true rfl)
  rw [lg_entry_eq]
  generalize (lg_sl ([.ref mo]) ++ List.replicate (2 - (lg_sl ([.ref mo])).length) Slot.unset).toArray = ls at hl ⊢
  have hl : lv_has ls 2 [(0, .ref mo)] := hl
  refine lv_aload_n hx hb dX6_groups_0 rfl (lv_at hl 0 rfl) ?_
  refine lv_aload_n hx hb dX6_groups_1 rfl (lv_at hl 0 rfl) ?_
  refine va_get (D := D) (ci := 6) (v := .int 1) (C := RX6) (T := TX6) (N := 15) hx hb hts (by decide +kernel) hown hK hP 0 rfl rfl 7 (by decide) (hts (.fieldLink RX6 43 "JoinDeskModel" "prepared" "Z") (by decide +kernel)) (fun _ h9 => h9) rfl dX6_groups_2 ?_
  refine lv_if_eq (tgt := 12) hx hb dX6_groups_5 (by decide) (fun c_1 => absurd c_1 (by decide)) (fun c_1 => ?_)
  refine lv_iconst (v := 0) hx hb dX6_groups_8 (by decide) ?_
  refine lv_goto (tgt := 13) hx hb dX6_groups_9 (by decide) ?_
  refine jw_i (wr := [(q3, .inl (cI, 800, .inl m3)), (q5, .inl (cI, 800, .inl m5)), (q6, .inl (cI, 2, .inl (jl [nI n, nI n2])))]) (va_runV (As := [.int 0]) (rest := []) ⟨hx, hb, hml, hown, hts⟩ (gM_refuses_0 l D cI cL cQ mo g q1 q3 q4 q5 q6 q11 z0 1 gr kd mk w10 w13 w14 _) (cwV 1 hts gX6_groups_X6_refuses rfl rfl rfl (by decide +kernel) ⟨Nat.le_of_ble_eq_true rfl, Nat.le_of_ble_eq_true rfl⟩) (jw_V hK hN hP hD [0] (by decide) rfl 6 0 rfl rfl rfl) rfl rfl hl.1 rfl (lv_room (Nat.le_of_ble_eq_true rfl)) dX6_groups_13 ⟨Nat.le_of_ble_eq_true rfl, Nat.le_of_ble_eq_true rfl⟩) hP hD hS hA [0] [1, 2, 3] rfl rfl (by decide) (by decide) (fun r u H locs f_2 hP hD hS => ?_)
  obtain ⟨rfl, rfl⟩ := f_2
  have hP : va_P D vwCl [(q3, .inl (cI, 800, .inl m3)), (q5, .inl (cI, 800, .inl m5)), (q6, .inl (cI, 2, .inl (jl [nI n, nI n2]))), (mo, .inr (6, [.int 0, .ref q1, .int (nI g), .ref q3, .ref q4, .ref q5, .ref q6, .int 1, .int gr, .int kd, .long w10, .ref q11, .int mk, .long w13, .long w14]))] H := hP
  have hD : va_D A [(q3, .inl (cI, 800, .inl m3)), (q5, .inl (cI, 800, .inl m5)), (q6, .inl (cI, 2, .inl (jl [nI n, nI n2]))), (mo, .inr (6, [.int 0, .ref q1, .int (nI g), .ref q3, .ref q4, .ref q5, .ref q6, .int 1, .int gr, .int kd, .long w10, .ref q11, .int mk, .long w13, .long w14]))] := hD
  refine lv_if_eq (tgt := 21) hx hb dX6_groups_16 (by decide) (fun c_3 => ?_) (fun c_3 => absurd c_3 (by decide))
  refine lv_aload_n hx hb dX6_groups_21 rfl (lv_at hl 0 rfl) ?_
  refine lv_iconst (v := (-1)) hx hb dX6_groups_22 (by decide) ?_
  refine vp_callSi (va_Run.run (va_runV (As := [.int (-1)]) (rest := []) ⟨hx, hb, hml, hown, hts⟩ (gM_groupAt_m l D cI cL cQ mo g n n2 q1 q3 q4 q5 q6 q11 0 1 gr kd mk w10 w13 w14 m3 m5 K1 K2 (by first | assumption | decide | omega) (by first | assumption | decide | omega) (by first | assumption | decide | omega) (by first | assumption | decide | omega) (by first | assumption | decide | omega)) (cwV 1 hts gX6_groups_X6_groupAt rfl rfl rfl (by decide +kernel) ⟨Nat.le_of_ble_eq_true rfl, Nat.le_of_ble_eq_true rfl⟩) (jr_V hK hN hP [3, 0, 1, 2] rfl 6 3 rfl rfl rfl) rfl rfl hl.1 rfl (lv_room (Nat.le_of_ble_eq_true rfl)) dX6_groups_23 ⟨Nat.le_of_ble_eq_true rfl, Nat.le_of_ble_eq_true rfl⟩)) (fun r f_4 => ?_)
  obtain rfl := f_4
  refine lv_istore_n (lv' := [(1, .int (nI (jGn n2 K1 K2 n))), (0, .ref mo)]) hx hb dX6_groups_26 rfl hl (by decide) rfl (fun ls hl => ?_)
  refine lv_aload_n hx hb dX6_groups_27 rfl (lv_at hl 1 rfl) ?_
  refine lv_iload_n hx hb dX6_groups_28 rfl (lv_at hl 0 rfl) ?_
  refine lv_aload_n hx hb dX6_groups_29 rfl (lv_at hl 1 rfl) ?_
  refine va_get (D := D) (ci := 6) (v := .int (nI g)) (C := RX6) (T := TX6) (N := 15) hx hb hts (by decide +kernel) hown hK hP 3 rfl rfl 2 (by decide) (hts (.fieldLink RX6 32 "JoinDeskModel" "room" "I") (by decide +kernel)) (fun _ h9 => h9) rfl dX6_groups_30 ?_
  refine lv_icmp_gt (tgt := 40) hx hb dX6_groups_33 (by decide) (fun cgg => ?_) (fun cgg => ?_)
  · refine lv_iconst (v := 0) hx hb dX6_groups_40 (by decide) ?_
    refine va_put (D := D) (ci := 6) (v := .int 0) (ty := .boolean) (C := RX6) (T := TX6) (N := 15) hx hb hts (by decide +kernel) tyX6 tyX6_ok nmX6 hown hK hP hD hS 3 rfl rfl 8 (by decide) (hts (.fieldLink RX6 47 "JoinDeskModel" "grouped" "Z") (by decide +kernel)) (fun _ h9 => h9) rfl (by decide +kernel) rfl rfl (Nat.le_of_ble_eq_true rfl) dX6_groups_41 (fun H locs hP hD hS => ?_)
    have hP : va_P D vwCl [(q3, .inl (cI, 800, .inl m3)), (q5, .inl (cI, 800, .inl m5)), (q6, .inl (cI, 2, .inl (jl [nI n, nI n2]))), (mo, .inr (6, [.int 0, .ref q1, .int (nI g), .ref q3, .ref q4, .ref q5, .ref q6, .int 1, .int 0, .int kd, .long w10, .ref q11, .int mk, .long w13, .long w14]))] H := hP
    have hD : va_D A [(q3, .inl (cI, 800, .inl m3)), (q5, .inl (cI, 800, .inl m5)), (q6, .inl (cI, 2, .inl (jl [nI n, nI n2]))), (mo, .inr (6, [.int 0, .ref q1, .int (nI g), .ref q3, .ref q4, .ref q5, .ref q6, .int 1, .int 0, .int kd, .long w10, .ref q11, .int mk, .long w13, .long w14]))] := hD
    refine lv_aload_n hx hb dX6_groups_44 rfl (lv_at hl 1 rfl) ?_
    refine lv_aload_n hx hb dX6_groups_45 rfl (lv_at hl 1 rfl) ?_
    refine va_get (D := D) (ci := 6) (v := .int 0) (C := RX6) (T := TX6) (N := 15) hx hb hts (by decide +kernel) hown hK hP 3 rfl rfl 8 (by decide) (hts (.fieldLink RX6 47 "JoinDeskModel" "grouped" "Z") (by decide +kernel)) (fun _ h9 => h9) rfl dX6_groups_46 ?_
    refine lv_if_eq (tgt := 56) hx hb dX6_groups_49 (by decide) (fun c_5 => ?_) (fun c_5 => absurd c_5 (by decide))
    refine lv_iconst (v := 2) hx hb dX6_groups_56 (by decide) ?_
    refine jw_i (wr := [(q3, .inl (cI, 800, .inl m3)), (q5, .inl (cI, 800, .inl m5)), (q6, .inl (cI, 2, .inl (jl [nI n, nI n2])))]) (va_runV (As := [.int 2]) (rest := []) ⟨hx, hb, hml, hown, hts⟩ (gM_refuses_2 l D cI cL cQ mo g q1 q3 q4 q5 q6 q11 0 1 0 kd mk w10 w13 w14 _) (cwV 1 hts gX6_groups_X6_refuses rfl rfl rfl (by decide +kernel) ⟨Nat.le_of_ble_eq_true rfl, Nat.le_of_ble_eq_true rfl⟩) (jw_V hK hN hP hD [3] (by decide) rfl 6 3 rfl rfl rfl) rfl rfl hl.1 rfl (lv_room (Nat.le_of_ble_eq_true rfl)) dX6_groups_57 ⟨Nat.le_of_ble_eq_true rfl, Nat.le_of_ble_eq_true rfl⟩) hP hD hS hA [3] [0, 1, 2] rfl rfl (by decide) (by decide) (fun r u H locs f_6 hP hD hS => ?_)
    obtain ⟨rfl, rfl⟩ := f_6
    have hP : va_P D vwCl [(q3, .inl (cI, 800, .inl m3)), (q5, .inl (cI, 800, .inl m5)), (q6, .inl (cI, 2, .inl (jl [nI n, nI n2]))), (mo, .inr (6, [.int 2, .ref q1, .int (nI g), .ref q3, .ref q4, .ref q5, .ref q6, .int 1, .int 0, .int kd, .long w10, .ref q11, .int mk, .long w13, .long w14]))] H := hP
    have hD : va_D A [(q3, .inl (cI, 800, .inl m3)), (q5, .inl (cI, 800, .inl m5)), (q6, .inl (cI, 2, .inl (jl [nI n, nI n2]))), (mo, .inr (6, [.int 2, .ref q1, .int (nI g), .ref q3, .ref q4, .ref q5, .ref q6, .int 1, .int 0, .int kd, .long w10, .ref q11, .int mk, .long w13, .long w14]))] := hD
    refine lv_if_eq (tgt := 67) hx hb dX6_groups_60 (by decide) (fun c_7 => absurd c_7 (by decide)) (fun c_7 => ?_)
    refine lv_iconst (v := 0) hx hb dX6_groups_63 (by decide) ?_
    refine lv_goto (tgt := 68) hx hb dX6_groups_64 (by decide) ?_
    have hP := hP.sub (ws' := [(mo, .inr (6, [.int 2, .ref q1, .int (nI g), .ref q3, .ref q4, .ref q5, .ref q6, .int 1, .int 0, .int kd, .long w10, .ref q11, .int mk, .long w13, .long w14])), (q3, .inl (cI, 800, .inl m3)), (q5, .inl (cI, 800, .inl m5)), (q6, .inl (cI, 2, .inl (jl [nI n, nI n2])))]) [3, 0, 1, 2] rfl
    have hD := hD.sub (ws' := [(mo, .inr (6, [.int 2, .ref q1, .int (nI g), .ref q3, .ref q4, .ref q5, .ref q6, .int 1, .int 0, .int kd, .long w10, .ref q11, .int mk, .long w13, .long w14])), (q3, .inl (cI, 800, .inl m3)), (q5, .inl (cI, 800, .inl m5)), (q6, .inl (cI, 2, .inl (jl [nI n, nI n2])))]) [3, 0, 1, 2] (by decide) rfl
    refine W.widen (k := 0) (n := 0) (by omega) (by omega) ?_
    exact W.iret (v := 0) hx hb hr (fun t ht hW => ⟨⟨0, [(mo, .inr (6, [.int 2, .ref q1, .int (nI g), .ref q3, .ref q4, .ref q5, .ref q6, .int 1, .int 0, .int kd, .long w10, .ref q11, .int mk, .long w13, .long w14])), (q3, .inl (cI, 800, .inl m3)), (q5, .inl (cI, 800, .inl m5)), (q6, .inl (cI, 2, .inl (jl [nI n, nI n2])))], rfl, (by exact Or.inr ⟨rfl, rfl, jgg_0 hn hg cgg⟩), by rw [ht]; exact hP, hD⟩, hS.F ht⟩) hS.2.2 dX6_groups_68
  · refine lv_iconst (v := 1) hx hb dX6_groups_36 (by decide) ?_
    refine lv_goto (tgt := 41) hx hb dX6_groups_37 (by decide) ?_
    refine va_put (D := D) (ci := 6) (v := .int 1) (ty := .boolean) (C := RX6) (T := TX6) (N := 15) hx hb hts (by decide +kernel) tyX6 tyX6_ok nmX6 hown hK hP hD hS 3 rfl rfl 8 (by decide) (hts (.fieldLink RX6 47 "JoinDeskModel" "grouped" "Z") (by decide +kernel)) (fun _ h9 => h9) rfl (by decide +kernel) rfl rfl (Nat.le_of_ble_eq_true rfl) dX6_groups_41 (fun H locs hP hD hS => ?_)
    have hP : va_P D vwCl [(q3, .inl (cI, 800, .inl m3)), (q5, .inl (cI, 800, .inl m5)), (q6, .inl (cI, 2, .inl (jl [nI n, nI n2]))), (mo, .inr (6, [.int 0, .ref q1, .int (nI g), .ref q3, .ref q4, .ref q5, .ref q6, .int 1, .int 1, .int kd, .long w10, .ref q11, .int mk, .long w13, .long w14]))] H := hP
    have hD : va_D A [(q3, .inl (cI, 800, .inl m3)), (q5, .inl (cI, 800, .inl m5)), (q6, .inl (cI, 2, .inl (jl [nI n, nI n2]))), (mo, .inr (6, [.int 0, .ref q1, .int (nI g), .ref q3, .ref q4, .ref q5, .ref q6, .int 1, .int 1, .int kd, .long w10, .ref q11, .int mk, .long w13, .long w14]))] := hD
    refine lv_aload_n hx hb dX6_groups_44 rfl (lv_at hl 1 rfl) ?_
    refine lv_aload_n hx hb dX6_groups_45 rfl (lv_at hl 1 rfl) ?_
    refine va_get (D := D) (ci := 6) (v := .int 1) (C := RX6) (T := TX6) (N := 15) hx hb hts (by decide +kernel) hown hK hP 3 rfl rfl 8 (by decide) (hts (.fieldLink RX6 47 "JoinDeskModel" "grouped" "Z") (by decide +kernel)) (fun _ h9 => h9) rfl dX6_groups_46 ?_
    refine lv_if_eq (tgt := 56) hx hb dX6_groups_49 (by decide) (fun c_8 => absurd c_8 (by decide)) (fun c_8 => ?_)
    refine lv_iconst (v := 0) hx hb dX6_groups_52 (by decide) ?_
    refine lv_goto (tgt := 57) hx hb dX6_groups_53 (by decide) ?_
    refine jw_i (wr := [(q3, .inl (cI, 800, .inl m3)), (q5, .inl (cI, 800, .inl m5)), (q6, .inl (cI, 2, .inl (jl [nI n, nI n2])))]) (va_runV (As := [.int 0]) (rest := []) ⟨hx, hb, hml, hown, hts⟩ (gM_refuses_0 l D cI cL cQ mo g q1 q3 q4 q5 q6 q11 0 1 1 kd mk w10 w13 w14 _) (cwV 1 hts gX6_groups_X6_refuses rfl rfl rfl (by decide +kernel) ⟨Nat.le_of_ble_eq_true rfl, Nat.le_of_ble_eq_true rfl⟩) (jw_V hK hN hP hD [3] (by decide) rfl 6 3 rfl rfl rfl) rfl rfl hl.1 rfl (lv_room (Nat.le_of_ble_eq_true rfl)) dX6_groups_57 ⟨Nat.le_of_ble_eq_true rfl, Nat.le_of_ble_eq_true rfl⟩) hP hD hS hA [3] [0, 1, 2] rfl rfl (by decide) (by decide) (fun r u H locs f_9 hP hD hS => ?_)
    obtain ⟨rfl, rfl⟩ := f_9
    have hP : va_P D vwCl [(q3, .inl (cI, 800, .inl m3)), (q5, .inl (cI, 800, .inl m5)), (q6, .inl (cI, 2, .inl (jl [nI n, nI n2]))), (mo, .inr (6, [.int 0, .ref q1, .int (nI g), .ref q3, .ref q4, .ref q5, .ref q6, .int 1, .int 1, .int kd, .long w10, .ref q11, .int mk, .long w13, .long w14]))] H := hP
    have hD : va_D A [(q3, .inl (cI, 800, .inl m3)), (q5, .inl (cI, 800, .inl m5)), (q6, .inl (cI, 2, .inl (jl [nI n, nI n2]))), (mo, .inr (6, [.int 0, .ref q1, .int (nI g), .ref q3, .ref q4, .ref q5, .ref q6, .int 1, .int 1, .int kd, .long w10, .ref q11, .int mk, .long w13, .long w14]))] := hD
    refine lv_if_eq (tgt := 67) hx hb dX6_groups_60 (by decide) (fun c_10 => ?_) (fun c_10 => absurd c_10 (by decide))
    refine lv_iload_n hx hb dX6_groups_67 rfl (lv_at hl 0 rfl) ?_
    have hP := hP.sub (ws' := [(mo, .inr (6, [.int 0, .ref q1, .int (nI g), .ref q3, .ref q4, .ref q5, .ref q6, .int 1, .int 1, .int kd, .long w10, .ref q11, .int mk, .long w13, .long w14])), (q3, .inl (cI, 800, .inl m3)), (q5, .inl (cI, 800, .inl m5)), (q6, .inl (cI, 2, .inl (jl [nI n, nI n2])))]) [3, 0, 1, 2] rfl
    have hD := hD.sub (ws' := [(mo, .inr (6, [.int 0, .ref q1, .int (nI g), .ref q3, .ref q4, .ref q5, .ref q6, .int 1, .int 1, .int kd, .long w10, .ref q11, .int mk, .long w13, .long w14])), (q3, .inl (cI, 800, .inl m3)), (q5, .inl (cI, 800, .inl m5)), (q6, .inl (cI, 2, .inl (jl [nI n, nI n2])))]) [3, 0, 1, 2] (by decide) rfl
    refine W.widen (k := 0) (n := 0) (by omega) (by omega) ?_
    exact W.iret (v := nI (jGn n2 K1 K2 n)) hx hb hr (fun t ht hW => ⟨⟨(nI (jGn n2 K1 K2 n)), [(mo, .inr (6, [.int 0, .ref q1, .int (nI g), .ref q3, .ref q4, .ref q5, .ref q6, .int 1, .int 1, .int kd, .long w10, .ref q11, .int mk, .long w13, .long w14])), (q3, .inl (cI, 800, .inl m3)), (q5, .inl (cI, 800, .inl m5)), (q6, .inl (cI, 2, .inl (jl [nI n, nI n2])))], rfl, (by exact Or.inl ⟨rfl, rfl, jgg_1 hn hg cgg⟩), by rw [ht]; exact hP, hD⟩, hS.F ht⟩) hS.2.2 dX6_groups_68
set_option maxHeartbeats 1000000 in
set_option maxRecDepth 100000 in
theorem gM_groupAt_i (l : Launch) (D : va_G) (cI cL cQ : ClassId) (mo : Nat) (g : Nat) (n : Nat) (n2 : Nat) (q1 : Nat) (q3 : Nat) (q4 : Nat) (q5 : Nat) (q6 : Nat) (q11 : Nat) (z0 : Int32) (pr : Int32) (gr : Int32) (kd : Int32) (mk : Int32) (w10 : Int64) (w13 : Int64) (w14 : Int64) (m3 : Nat → Int32) (m5 : Nat → Int32) (K1 : Nat → Int32) (K2 : Nat → Int32) (mm : Nat) (hn : n ≤ 400) (hn2 : n2 ≤ 400) (h5 : jo5 m5) (hk1 : ∀ i, i < n → jmk 0 m3 m5 i = K1 i) (hct : ∀ x, jCt n2 (jsh 400 m3) x = jCt n2 K2 x) (hm : mm < jGn n2 K1 K2 n) (hm4 : mm ≤ 400) : Met l yX6_groupAt wsX6_groupAt ({ frames := 1, cells := 0, slots := 0, locals := 24 }) (jr_P D vwCl (jT cI cL cQ) cL cQ [.ref mo, .int (nI mm)] [(mo, .inr (6, [.int z0, .ref q1, .int (nI g), .ref q3, .ref q4, .ref q5, .ref q6, .int pr, .int gr, .int kd, .long w10, .ref q11, .int mk, .long w13, .long w14])), (q3, .inl (cI, 800, .inl m3)), (q5, .inl (cI, 800, .inl m5)), (q6, .inl (cI, 2, .inl (jl [nI n, nI n2])))]) (vp_Si (fun r : Int32 => ∃ (p9 : Nat), r = nI p9 ∧ (p9 < n) ∧ (jGb n2 K1 K2 p9 = true) ∧ (jGn n2 K1 K2 p9 = mm))) 0 0 (fun _ => False) := by
  refine Met.ofW (cc := cX6_groupAt) (maxL := 5) (ret := (some .int)) (by decide) rfl ?_
  intro p e s m args below meth c s₁ B hml hv
  obtain ⟨rfl, hP, hK, hN⟩ := hv
  have hx := B.exec
  have hb := B.bytes
  have hr := B.returns
  have hts := atoms_spec (ws := wsX6_groupAt) B.pre
  have hown : s.vm.findClass RX6 = some m.cls := findClass_of_methodNamed B.named
  have hlocks := B.notSynchronized
  have hl := lv_entry ([.ref mo, .int (nI mm)]) (n := 5) (Nat.le_of_ble_eq_true rfl)
  rw [lg_entry_eq]
  generalize (lg_sl ([.ref mo, .int (nI mm)]) ++ List.replicate (5 - (lg_sl ([.ref mo, .int (nI mm)])).length) Slot.unset).toArray = ls at hl ⊢
  have hl : lv_has ls 5 [(0, .ref mo), (1, .int (nI mm))] := hl
  refine lv_iconst (v := 0) hx hb dX6_groupAt_0 (by decide) ?_
  refine lv_istore_n (lv' := [(2, .int 0), (0, .ref mo), (1, .int (nI mm))]) hx hb dX6_groupAt_1 rfl hl (by decide) rfl (fun ls hl => ?_)
  refine lv_iconst (v := 0) hx hb dX6_groupAt_2 (by decide) ?_
  refine lv_istore_n (lv' := [(3, .int 0), (2, .int 0), (0, .ref mo), (1, .int (nI mm))]) hx hb dX6_groupAt_3 rfl hl (by decide) rfl (fun ls hl => ?_)
  have hloop_1 : ∀ (k_1 : Nat) (i : Nat) (z : Nat), n - i < k_1 → (i ≤ n) → (z ≤ i) → (z = jGn n2 K1 K2 i) → (z ≤ mm) → ∀ ls : Array Slot, lv_has ls 5 [(0, .ref mo), (1, .int (nI mm)), (2, .int (nI z)), (3, .int (nI i))] → W p l e (headSpec wsX6_groupAt ({ frames := 1, cells := 0, slots := 0, locals := 24 })).room s m #[.ref mo, .int (nI mm)] below meth c s.heap [] 0 0 (MQ below (vp_Si (fun r : Int32 => ∃ (p9 : Nat), r = nI p9 ∧ (p9 < n) ∧ (jGb n2 K1 K2 p9 = true) ∧ (jGn n2 K1 K2 p9 = mm))) #[.ref mo, .int (nI mm)] s 0 0 (fun _ => False)) (F0 m 4 ls []) := by
    intro k_1
    induction k_1 with
    | zero => exact fun _ _ hm => absurd hm (Nat.not_lt_zero _)
    | succ k_1 ih_1 =>
      intro i z hm1 hi hzi hz hzm ls hl
      rcases i with _ | i
      · have hl : lv_has ls 5 [(0, .ref mo), (1, .int (nI mm)), (2, .int (nI z)), (3, .int (nI 0))] := hl
        refine lv_iload_n hx hb dX6_groupAt_4 rfl (lv_at hl 3 rfl) ?_
        refine lv_aload_n hx hb dX6_groupAt_5 rfl (lv_at hl 0 rfl) ?_
        refine va_get (D := D) (ci := 6) (v := .ref q6) (C := RX6) (T := TX6) (N := 15) hx hb hts (by decide +kernel) hown hK hP 0 rfl rfl 6 (by decide) (hts (.fieldLink RX6 22 "JoinDeskModel" "many" "[I") (by decide +kernel)) (fun _ h9 => h9) rfl dX6_groupAt_6 ?_
        refine lv_iconst (v := 0) hx hb dX6_groupAt_9 (by decide) ?_
        refine va_iald hx hb hK hP 3 0 rfl rfl (by unfold vp_in; decide) dX6_groupAt_10 ?_
        refine W.eq (g2 := F0 m 11 ls [.int (nI n), .int (nI 0)]) rfl ?_
        refine lv_icmp_ge (tgt := 77) hx hb dX6_groupAt_11 (by decide) (fun cge => ?_) (fun cge => ?_)
        · refine lv_iload_n hx hb dX6_groupAt_77 rfl (lv_at hl 2 rfl) ?_
          exact W.iret (v := nI z) hx hb hr (fun t ht hW => ⟨(nI z), rfl, (by exact absurd hm (by rw [nI_leI (by omega) (by omega)] at cge; rw [show n = 0 by omega, ← hz]; omega)), ht⟩) (fun _ h => nomatch h) dX6_groupAt_78
        · refine lv_iload_n hx hb dX6_groupAt_14 rfl (lv_at hl 3 rfl) ?_
          refine lv_if_eq (tgt := 35) hx hb dX6_groupAt_15 (by decide) (fun c_1 => ?_) (fun c_1 => absurd c_1 (by decide))
          refine lv_iconst (v := 1) hx hb dX6_groupAt_35 (by decide) ?_
          refine lv_goto (tgt := 40) hx hb dX6_groupAt_36 (by decide) ?_
          refine lv_istore (lv' := [(4, .int 1), (0, .ref mo), (1, .int (nI mm)), (2, .int (nI z)), (3, .int (nI 0))]) hx hb dX6_groupAt_40 hl (by decide) rfl (fun ls hl => ?_)
          refine lv_iload hx hb dX6_groupAt_42 (lv_at hl 0 rfl) ?_
          refine lv_if_eq (tgt := 71) hx hb dX6_groupAt_44 (by decide) (fun c_2 => absurd c_2 (by decide)) (fun c_2 => ?_)
          refine lv_aload_n hx hb dX6_groupAt_47 rfl (lv_at hl 1 rfl) ?_
          refine lv_iconst (v := 1) hx hb dX6_groupAt_48 (by decide) ?_
          refine lv_aload_n hx hb dX6_groupAt_49 rfl (lv_at hl 1 rfl) ?_
          refine lv_iconst (v := 0) hx hb dX6_groupAt_50 (by decide) ?_
          refine lv_iload_n hx hb dX6_groupAt_51 rfl (lv_at hl 4 rfl) ?_
          refine vp_callSi (va_Run.run (va_runV (As := [.int 0, .int (nI 0)]) (rest := [.int 1, .ref mo]) ⟨hx, hb, hml, hown, hts⟩ (gM_key_0 l D cI cL cQ mo g q1 q3 q4 q5 q6 q11 z0 pr gr kd mk w10 w13 w14 m3 m5 0 (by first | assumption | decide | omega) (by rw [nI_leI (by omega) (by omega)] at cge; omega)) (cwV 2 hts gX6_groupAt_X6_key rfl rfl rfl (by decide +kernel) ⟨Nat.le_of_ble_eq_true rfl, Nat.le_of_ble_eq_true rfl⟩) (jr_V hK hN hP [0, 1, 2] rfl 6 0 rfl rfl rfl) rfl rfl hl.1 rfl (lv_room (Nat.le_of_ble_eq_true rfl)) dX6_groupAt_52 ⟨Nat.le_of_ble_eq_true rfl, Nat.le_of_ble_eq_true rfl⟩)) (fun r f_3 => ?_)
          obtain rfl := f_3
          refine vp_callSi (va_Run.run (va_runV (As := [.int 1, .int (jmk 0 m3 m5 0)]) (rest := []) ⟨hx, hb, hml, hown, hts⟩ (gM_rowsOf_1 l D cI cL cQ mo g n n2 q1 q3 q4 q5 q6 q11 z0 pr gr kd mk w10 w13 w14 m3 (jmk 0 m3 m5 0) (by first | assumption | decide | omega)) (cwV 2 hts gX6_groupAt_X6_rowsOf rfl rfl rfl (by decide +kernel) ⟨Nat.le_of_ble_eq_true rfl, Nat.le_of_ble_eq_true rfl⟩) (jr_V hK hN hP [0, 1, 3] rfl 6 0 rfl rfl rfl) rfl rfl hl.1 rfl (lv_room (Nat.le_of_ble_eq_true rfl)) dX6_groupAt_55 ⟨Nat.le_of_ble_eq_true rfl, Nat.le_of_ble_eq_true rfl⟩)) (fun r f_4 => ?_)
          obtain rfl := f_4
          refine lv_if_le (tgt := 71) hx hb dX6_groupAt_58 (by decide) (fun cpo => ?_) (fun cpo => ?_)
          · refine lv_iinc (v := 1) (lv' := [(3, .int 1), (4, .int 1), (0, .ref mo), (1, .int (nI mm)), (2, .int (nI z))]) hx hb dX6_groupAt_71 hl (k := 4) rfl (by first | rfl | decide) (by decide) rfl (fun ls hl => ?_)
            refine lv_goto (tgt := 4) hx hb dX6_groupAt_74 (by decide) ?_
            exact ih_1 1 z (by rw [nI_leI (by omega) (by omega)] at cge; omega) (by rw [nI_leI (by omega) (by omega)] at cge; omega) (by omega) (jGn_0 (jgb_f2 (by have h := jgb_c0 hn2 hct cpo; rw [hk1 0 (by rw [nI_leI (by omega) (by omega)] at cge; omega)] at h; exact h)) hz) (hzm) ls (lv_sub hl [2, 3, 4, 0] rfl)
          · refine lv_iload_n hx hb dX6_groupAt_61 rfl (lv_at hl 3 rfl) ?_
            refine lv_iload_n hx hb dX6_groupAt_62 rfl (lv_at hl 2 rfl) ?_
            refine lv_icmp_ne (tgt := 68) hx hb dX6_groupAt_63 (by decide) (fun cnm => ?_) (fun cnm => ?_)
            · refine lv_iinc (v := nI (z + 1)) (lv' := [(2, .int (nI (z + 1))), (4, .int 1), (0, .ref mo), (1, .int (nI mm)), (3, .int (nI 0))]) hx hb dX6_groupAt_68 hl (k := 3) rfl (nI_1 _) (by decide) rfl (fun ls hl => ?_)
              refine lv_iinc (v := 1) (lv' := [(3, .int 1), (2, .int (nI (z + 1))), (4, .int 1), (0, .ref mo), (1, .int (nI mm))]) hx hb dX6_groupAt_71 hl (k := 4) rfl (by first | rfl | decide) (by decide) rfl (fun ls hl => ?_)
              refine lv_goto (tgt := 4) hx hb dX6_groupAt_74 (by decide) ?_
              exact ih_1 1 (z + 1) (by rw [nI_leI (by omega) (by omega)] at cge; omega) (by rw [nI_leI (by omega) (by omega)] at cge; omega) (by omega) (jGn_1 (jgb_t (Or.inl rfl) (by have h := jgb_c1 hct cpo; rw [hk1 0 (by rw [nI_leI (by omega) (by omega)] at cge; omega)] at h; exact h)) hz) (by rw [nI_eq (by omega) (by omega)] at cnm; omega) ls (lv_sub hl [3, 4, 1, 0] rfl)
            · refine lv_iload_n hx hb dX6_groupAt_66 rfl (lv_at hl 4 rfl) ?_
              exact W.iret (v := nI 0) hx hb hr (fun t ht hW => ⟨(nI 0), rfl, (⟨0, rfl, (by rw [nI_leI (by omega) (by omega)] at cge; omega), jgb_t (Or.inl rfl) (by have h := jgb_c1 hct cpo; rw [hk1 0 (by rw [nI_leI (by omega) (by omega)] at cge; omega)] at h; exact h), by rw [nI_eq (by omega) (by omega)] at cnm; rw [← hz]; exact cnm⟩), ht⟩) (fun _ h => nomatch h) dX6_groupAt_67
      · have hl : lv_has ls 5 [(0, .ref mo), (1, .int (nI mm)), (2, .int (nI z)), (3, .int (nI (i + 1)))] := hl
        refine lv_iload_n hx hb dX6_groupAt_4 rfl (lv_at hl 3 rfl) ?_
        refine lv_aload_n hx hb dX6_groupAt_5 rfl (lv_at hl 0 rfl) ?_
        refine va_get (D := D) (ci := 6) (v := .ref q6) (C := RX6) (T := TX6) (N := 15) hx hb hts (by decide +kernel) hown hK hP 0 rfl rfl 6 (by decide) (hts (.fieldLink RX6 22 "JoinDeskModel" "many" "[I") (by decide +kernel)) (fun _ h9 => h9) rfl dX6_groupAt_6 ?_
        refine lv_iconst (v := 0) hx hb dX6_groupAt_9 (by decide) ?_
        refine va_iald hx hb hK hP 3 0 rfl rfl (by unfold vp_in; decide) dX6_groupAt_10 ?_
        refine W.eq (g2 := F0 m 11 ls [.int (nI n), .int (nI (i + 1))]) rfl ?_
        refine lv_icmp_ge (tgt := 77) hx hb dX6_groupAt_11 (by decide) (fun cge => ?_) (fun cge => ?_)
        · refine lv_iload_n hx hb dX6_groupAt_77 rfl (lv_at hl 2 rfl) ?_
          exact W.iret (v := nI z) hx hb hr (fun t ht hW => ⟨(nI z), rfl, (by exact absurd hm (by rw [nI_leI (by omega) (by omega)] at cge; rw [show n = (i + 1) by omega, ← hz]; omega)), ht⟩) (fun _ h => nomatch h) dX6_groupAt_78
        · refine lv_iload_n hx hb dX6_groupAt_14 rfl (lv_at hl 3 rfl) ?_
          refine lv_if_eq (tgt := 35) hx hb dX6_groupAt_15 (by decide) (fun c_5 => absurd c_5 (by exact nI_ne0 (by omega) (by omega))) (fun c_5 => ?_)
          refine lv_aload_n hx hb dX6_groupAt_18 rfl (lv_at hl 0 rfl) ?_
          refine lv_iconst (v := 0) hx hb dX6_groupAt_19 (by decide) ?_
          refine lv_iload_n hx hb dX6_groupAt_20 rfl (lv_at hl 3 rfl) ?_
          refine vp_callSi (va_Run.run (va_runV (As := [.int 0, .int (nI (i + 1))]) (rest := []) ⟨hx, hb, hml, hown, hts⟩ (gM_key_0 l D cI cL cQ mo g q1 q3 q4 q5 q6 q11 z0 pr gr kd mk w10 w13 w14 m3 m5 (i + 1) (by first | assumption | decide | omega) (by rw [nI_leI (by omega) (by omega)] at cge; omega)) (cwV 2 hts gX6_groupAt_X6_key rfl rfl rfl (by decide +kernel) ⟨Nat.le_of_ble_eq_true rfl, Nat.le_of_ble_eq_true rfl⟩) (jr_V hK hN hP [0, 1, 2] rfl 6 0 rfl rfl rfl) rfl rfl hl.1 rfl (lv_room (Nat.le_of_ble_eq_true rfl)) dX6_groupAt_21 ⟨Nat.le_of_ble_eq_true rfl, Nat.le_of_ble_eq_true rfl⟩)) (fun r f_6 => ?_)
          obtain rfl := f_6
          refine lv_aload_n hx hb dX6_groupAt_24 rfl (lv_at hl 0 rfl) ?_
          refine lv_iconst (v := 0) hx hb dX6_groupAt_25 (by decide) ?_
          refine lv_iload_n hx hb dX6_groupAt_26 rfl (lv_at hl 3 rfl) ?_
          refine lv_iconst (v := 1) hx hb dX6_groupAt_27 (by decide) ?_
          refine lv_isub hx hb dX6_groupAt_28 ?_
          refine lv_topi (fun z_7 e_z_7 => ?_)
          obtain rfl : z_7 = nI i := e_z_7.trans (nI_pred _)
          refine vp_callSi (va_Run.run (va_runV (As := [.int 0, .int (nI i)]) (rest := [.int (jmk 0 m3 m5 (i + 1))]) ⟨hx, hb, hml, hown, hts⟩ (gM_key_0 l D cI cL cQ mo g q1 q3 q4 q5 q6 q11 z0 pr gr kd mk w10 w13 w14 m3 m5 i (by first | assumption | decide | omega) (by rw [nI_leI (by omega) (by omega)] at cge; omega)) (cwV 2 hts gX6_groupAt_X6_key rfl rfl rfl (by decide +kernel) ⟨Nat.le_of_ble_eq_true rfl, Nat.le_of_ble_eq_true rfl⟩) (jr_V hK hN hP [0, 1, 2] rfl 6 0 rfl rfl rfl) rfl rfl hl.1 rfl (lv_room (Nat.le_of_ble_eq_true rfl)) dX6_groupAt_29 ⟨Nat.le_of_ble_eq_true rfl, Nat.le_of_ble_eq_true rfl⟩)) (fun r f_8 => ?_)
          obtain rfl := f_8
          refine lv_icmp_eq (tgt := 39) hx hb dX6_groupAt_32 (by decide) (fun cfi => ?_) (fun cfi => ?_)
          · refine lv_iconst (v := 0) hx hb dX6_groupAt_39 (by decide) ?_
            refine lv_istore (lv' := [(4, .int 0), (0, .ref mo), (1, .int (nI mm)), (2, .int (nI z)), (3, .int (nI (i + 1)))]) hx hb dX6_groupAt_40 hl (by decide) rfl (fun ls hl => ?_)
            refine lv_iload hx hb dX6_groupAt_42 (lv_at hl 0 rfl) ?_
            refine lv_if_eq (tgt := 71) hx hb dX6_groupAt_44 (by decide) (fun c_9 => ?_) (fun c_9 => absurd c_9 (by decide))
            refine lv_iinc (v := nI ((i + 1) + 1)) (lv' := [(3, .int (nI ((i + 1) + 1))), (4, .int 0), (0, .ref mo), (1, .int (nI mm)), (2, .int (nI z))]) hx hb dX6_groupAt_71 hl (k := 4) rfl (nI_1 _) (by decide) rfl (fun ls hl => ?_)
            refine lv_goto (tgt := 4) hx hb dX6_groupAt_74 (by decide) ?_
            exact ih_1 ((i + 1) + 1) z (by rw [nI_leI (by omega) (by omega)] at cge; omega) (by rw [nI_leI (by omega) (by omega)] at cge; omega) (by omega) (jGn_0 (jgb_f1 (by rw [hk1 (i + 1) (by rw [nI_leI (by omega) (by omega)] at cge; omega), hk1 i (by rw [nI_leI (by omega) (by omega)] at cge; omega)] at cfi; exact cfi.symm)) hz) (hzm) ls (lv_sub hl [2, 3, 4, 0] rfl)
          · refine lv_iconst (v := 1) hx hb dX6_groupAt_35 (by decide) ?_
            refine lv_goto (tgt := 40) hx hb dX6_groupAt_36 (by decide) ?_
            refine lv_istore (lv' := [(4, .int 1), (0, .ref mo), (1, .int (nI mm)), (2, .int (nI z)), (3, .int (nI (i + 1)))]) hx hb dX6_groupAt_40 hl (by decide) rfl (fun ls hl => ?_)
            refine lv_iload hx hb dX6_groupAt_42 (lv_at hl 0 rfl) ?_
            refine lv_if_eq (tgt := 71) hx hb dX6_groupAt_44 (by decide) (fun c_10 => absurd c_10 (by decide)) (fun c_10 => ?_)
            refine lv_aload_n hx hb dX6_groupAt_47 rfl (lv_at hl 1 rfl) ?_
            refine lv_iconst (v := 1) hx hb dX6_groupAt_48 (by decide) ?_
            refine lv_aload_n hx hb dX6_groupAt_49 rfl (lv_at hl 1 rfl) ?_
            refine lv_iconst (v := 0) hx hb dX6_groupAt_50 (by decide) ?_
            refine lv_iload_n hx hb dX6_groupAt_51 rfl (lv_at hl 4 rfl) ?_
            refine vp_callSi (va_Run.run (va_runV (As := [.int 0, .int (nI (i + 1))]) (rest := [.int 1, .ref mo]) ⟨hx, hb, hml, hown, hts⟩ (gM_key_0 l D cI cL cQ mo g q1 q3 q4 q5 q6 q11 z0 pr gr kd mk w10 w13 w14 m3 m5 (i + 1) (by first | assumption | decide | omega) (by rw [nI_leI (by omega) (by omega)] at cge; omega)) (cwV 2 hts gX6_groupAt_X6_key rfl rfl rfl (by decide +kernel) ⟨Nat.le_of_ble_eq_true rfl, Nat.le_of_ble_eq_true rfl⟩) (jr_V hK hN hP [0, 1, 2] rfl 6 0 rfl rfl rfl) rfl rfl hl.1 rfl (lv_room (Nat.le_of_ble_eq_true rfl)) dX6_groupAt_52 ⟨Nat.le_of_ble_eq_true rfl, Nat.le_of_ble_eq_true rfl⟩)) (fun r f_11 => ?_)
            obtain rfl := f_11
            refine vp_callSi (va_Run.run (va_runV (As := [.int 1, .int (jmk 0 m3 m5 (i + 1))]) (rest := []) ⟨hx, hb, hml, hown, hts⟩ (gM_rowsOf_1 l D cI cL cQ mo g n n2 q1 q3 q4 q5 q6 q11 z0 pr gr kd mk w10 w13 w14 m3 (jmk 0 m3 m5 (i + 1)) (by first | assumption | decide | omega)) (cwV 2 hts gX6_groupAt_X6_rowsOf rfl rfl rfl (by decide +kernel) ⟨Nat.le_of_ble_eq_true rfl, Nat.le_of_ble_eq_true rfl⟩) (jr_V hK hN hP [0, 1, 3] rfl 6 0 rfl rfl rfl) rfl rfl hl.1 rfl (lv_room (Nat.le_of_ble_eq_true rfl)) dX6_groupAt_55 ⟨Nat.le_of_ble_eq_true rfl, Nat.le_of_ble_eq_true rfl⟩)) (fun r f_12 => ?_)
            obtain rfl := f_12
            refine lv_if_le (tgt := 71) hx hb dX6_groupAt_58 (by decide) (fun cpo => ?_) (fun cpo => ?_)
            · refine lv_iinc (v := nI ((i + 1) + 1)) (lv' := [(3, .int (nI ((i + 1) + 1))), (4, .int 1), (0, .ref mo), (1, .int (nI mm)), (2, .int (nI z))]) hx hb dX6_groupAt_71 hl (k := 4) rfl (nI_1 _) (by decide) rfl (fun ls hl => ?_)
              refine lv_goto (tgt := 4) hx hb dX6_groupAt_74 (by decide) ?_
              exact ih_1 ((i + 1) + 1) z (by rw [nI_leI (by omega) (by omega)] at cge; omega) (by rw [nI_leI (by omega) (by omega)] at cge; omega) (by omega) (jGn_0 (jgb_f2 (by have h := jgb_c0 hn2 hct cpo; rw [hk1 (i + 1) (by rw [nI_leI (by omega) (by omega)] at cge; omega)] at h; exact h)) hz) (hzm) ls (lv_sub hl [2, 3, 4, 0] rfl)
            · refine lv_iload_n hx hb dX6_groupAt_61 rfl (lv_at hl 3 rfl) ?_
              refine lv_iload_n hx hb dX6_groupAt_62 rfl (lv_at hl 2 rfl) ?_
              refine lv_icmp_ne (tgt := 68) hx hb dX6_groupAt_63 (by decide) (fun cnm => ?_) (fun cnm => ?_)
              · refine lv_iinc (v := nI (z + 1)) (lv' := [(2, .int (nI (z + 1))), (4, .int 1), (0, .ref mo), (1, .int (nI mm)), (3, .int (nI (i + 1)))]) hx hb dX6_groupAt_68 hl (k := 3) rfl (nI_1 _) (by decide) rfl (fun ls hl => ?_)
                refine lv_iinc (v := nI ((i + 1) + 1)) (lv' := [(3, .int (nI ((i + 1) + 1))), (2, .int (nI (z + 1))), (4, .int 1), (0, .ref mo), (1, .int (nI mm))]) hx hb dX6_groupAt_71 hl (k := 4) rfl (nI_1 _) (by decide) rfl (fun ls hl => ?_)
                refine lv_goto (tgt := 4) hx hb dX6_groupAt_74 (by decide) ?_
                exact ih_1 ((i + 1) + 1) (z + 1) (by rw [nI_leI (by omega) (by omega)] at cge; omega) (by rw [nI_leI (by omega) (by omega)] at cge; omega) (by omega) (jGn_1 (jgb_t (Or.inr (by rw [hk1 (i + 1) (by rw [nI_leI (by omega) (by omega)] at cge; omega), hk1 i (by rw [nI_leI (by omega) (by omega)] at cge; omega)] at cfi; exact fun q => cfi q.symm)) (by have h := jgb_c1 hct cpo; rw [hk1 (i + 1) (by rw [nI_leI (by omega) (by omega)] at cge; omega)] at h; exact h)) hz) (by rw [nI_eq (by omega) (by omega)] at cnm; omega) ls (lv_sub hl [3, 4, 1, 0] rfl)
              · refine lv_iload_n hx hb dX6_groupAt_66 rfl (lv_at hl 4 rfl) ?_
                exact W.iret (v := nI (i + 1)) hx hb hr (fun t ht hW => ⟨(nI (i + 1)), rfl, (⟨(i + 1), rfl, (by rw [nI_leI (by omega) (by omega)] at cge; omega), jgb_t (Or.inr (by rw [hk1 (i + 1) (by rw [nI_leI (by omega) (by omega)] at cge; omega), hk1 i (by rw [nI_leI (by omega) (by omega)] at cge; omega)] at cfi; exact fun q => cfi q.symm)) (by have h := jgb_c1 hct cpo; rw [hk1 (i + 1) (by rw [nI_leI (by omega) (by omega)] at cge; omega)] at h; exact h), by rw [nI_eq (by omega) (by omega)] at cnm; rw [← hz]; exact cnm⟩), ht⟩) (fun _ h => nomatch h) dX6_groupAt_67
  exact hloop_1 (n - 0 + 1) 0 0 (Nat.lt_succ_self _) (Nat.zero_le _) (Nat.le_refl _) (rfl) (Nat.zero_le _) ls (lv_sub hl [2, 3, 1, 0] rfl)
set_option maxHeartbeats 1000000 in
set_option maxRecDepth 100000 in
theorem gM_group_10 (l : Launch) (D : va_G) (cI cL cQ : ClassId) (mo : Nat) (g : Nat) (n : Nat) (n2 : Nat) (q1 : Nat) (q3 : Nat) (q4 : Nat) (q5 : Nat) (q6 : Nat) (q11 : Nat) (z0 : Int32) (kd : Int32) (mk : Int32) (w10 : Int64) (w13 : Int64) (w14 : Int64) (m3 : Nat → Int32) (m4 : Nat → Int32) (m5 : Nat → Int32) (K1 : Nat → Int32) (K2 : Nat → Int32) (mm : Nat) (sz : Nat) (hn : n ≤ 400) (hn2 : n2 ≤ 400) (h5 : jo5 m5) (hk1 : ∀ i, i < n → jmk 0 m3 m5 i = K1 i) (hct : ∀ x, jCt n2 (jsh 400 m3) x = jCt n2 K2 x) (hm : mm < jGn n2 K1 K2 n) (hro : ∀ i, i < n → ∃ k, k < n ∧ jsh 0 m3 k = jmk 0 m3 m5 i) : Met l yX6_group wsX6_group ({ frames := 2, cells := 0, slots := 0, locals := 48 }) (jw_P D vwCl (jT cI cL cQ) cL cQ [.ref mo, .int (nI mm), .int 0] [(mo, .inr (6, [.int z0, .ref q1, .int (nI g), .ref q3, .ref q4, .ref q5, .ref q6, .int 1, .int 1, .int kd, .long w10, .ref q11, .int mk, .long w13, .long w14])), (q3, .inl (cI, 800, .inl m3)), (q4, .inl (cI, 800, .inl m4)), (q5, .inl (cI, 800, .inl m5)), (q6, .inl (cI, 2, .inl (jl [nI n, nI n2])))] sz) (va_Ql (fun (r : Int64) (u : va_W) => ∃ (p9 : Nat) (f0 : Int64) (f1 : Int64) (f2 : Int64) (f3 : Int64) (f4 : Int64), r = f0 ∧ u = [(mo, .inr (6, [.int 0, .ref q1, .int (nI g), .ref q3, .ref q4, .ref q5, .ref q6, .int 1, .int 1, .int kd, .long w10, .ref q11, .int mk, .long f3, .long f4])), (q3, .inl (cI, 800, .inl m3)), (q4, .inl (cI, 800, .inl m4)), (q5, .inl (cI, 800, .inl m5)), (q6, .inl (cI, 2, .inl (jl [nI n, nI n2])))] ∧ (p9 < n) ∧ (jGb n2 K1 K2 p9 = true) ∧ (jGn n2 K1 K2 p9 = mm) ∧ (jGf n n2 (jsh 0 m3) (jsh 0 m4) (jsh 400 m3) (jsh 400 m4) (K1 p9) f0 f1 f2 f3 f4)) (jw_B D vwCl (va_A [(mo, .inr (6, [.int z0, .ref q1, .int (nI g), .ref q3, .ref q4, .ref q5, .ref q6, .int 1, .int 1, .int kd, .long w10, .ref q11, .int mk, .long w13, .long w14])), (q3, .inl (cI, 800, .inl m3)), (q4, .inl (cI, 800, .inl m4)), (q5, .inl (cI, 800, .inl m5)), (q6, .inl (cI, 2, .inl (jl [nI n, nI n2])))] sz) (fun u : va_W => u)) (va_A [(mo, .inr (6, [.int z0, .ref q1, .int (nI g), .ref q3, .ref q4, .ref q5, .ref q6, .int 1, .int 1, .int kd, .long w10, .ref q11, .int mk, .long w13, .long w14])), (q3, .inl (cI, 800, .inl m3)), (q4, .inl (cI, 800, .inl m4)), (q5, .inl (cI, 800, .inl m5)), (q6, .inl (cI, 2, .inl (jl [nI n, nI n2])))] sz)) 0 0 (va_A [(mo, .inr (6, [.int z0, .ref q1, .int (nI g), .ref q3, .ref q4, .ref q5, .ref q6, .int 1, .int 1, .int kd, .long w10, .ref q11, .int mk, .long w13, .long w14])), (q3, .inl (cI, 800, .inl m3)), (q4, .inl (cI, 800, .inl m4)), (q5, .inl (cI, 800, .inl m5)), (q6, .inl (cI, 2, .inl (jl [nI n, nI n2])))] sz) := by
  refine Met.ofW (cc := cX6_group) (maxL := 13) (ret := (some .long)) (by decide) rfl ?_
  intro p e s m args below meth c s₁ B hml hv
  obtain ⟨rfl, hsz, hP, hK, hN, hD0⟩ := hv
  have hx := B.exec
  have hb := B.bytes
  have hr := B.returns
  have hts := atoms_spec (ws := wsX6_group) B.pre
  have hown : s.vm.findClass RX6 = some m.cls := findClass_of_methodNamed B.named
  have hlocks := B.notSynchronized
  subst hsz
  have hD := hD0.self (sz := s.heap.size)
  generalize hAe : va_A [(mo, .inr (6, [.int z0, .ref q1, .int (nI g), .ref q3, .ref q4, .ref q5, .ref q6, .int 1, .int 1, .int kd, .long w10, .ref q11, .int mk, .long w13, .long w14])), (q3, .inl (cI, 800, .inl m3)), (q4, .inl (cI, 800, .inl m4)), (q5, .inl (cI, 800, .inl m5)), (q6, .inl (cI, 2, .inl (jl [nI n, nI n2])))] s.heap.size = A at hD ⊢
  have hA : ∀ q : Nat, s.heap.size ≤ q → A q := fun q h => by rw [← hAe]; exact Or.inr h
  have hS : va_S A s.heap s.heap [] := va_S.rf
  have hl := lv_entry ([.ref mo, .int (nI mm), .int 0]) (n := 13) (Nat.le_of_ble_eq_true rfl)
  rw [lg_entry_eq]
  generalize (lg_sl ([.ref mo, .int (nI mm), .int 0]) ++ List.replicate (13 - (lg_sl ([.ref mo, .int (nI mm), .int 0])).length) Slot.unset).toArray = ls at hl ⊢
  have hl : lv_has ls 13 [(0, .ref mo), (1, .int (nI mm)), (2, .int 0)] := hl
  refine lv_aload_n hx hb dX6_group_0 rfl (lv_at hl 0 rfl) ?_
  refine va_get (D := D) (ci := 6) (v := .int 1) (C := RX6) (T := TX6) (N := 15) hx hb hts (by decide +kernel) hown hK hP 0 rfl rfl 7 (by decide) (hts (.fieldLink RX6 43 "JoinDeskModel" "prepared" "Z") (by decide +kernel)) (fun _ h9 => h9) rfl dX6_group_1 ?_
  refine lv_if_eq (tgt := 18) hx hb dX6_group_4 (by decide) (fun c_1 => absurd c_1 (by decide)) (fun c_1 => ?_)
  refine lv_aload_n hx hb dX6_group_7 rfl (lv_at hl 0 rfl) ?_
  refine va_get (D := D) (ci := 6) (v := .int 1) (C := RX6) (T := TX6) (N := 15) hx hb hts (by decide +kernel) hown hK hP 0 rfl rfl 8 (by decide) (hts (.fieldLink RX6 47 "JoinDeskModel" "grouped" "Z") (by decide +kernel)) (fun _ h9 => h9) rfl dX6_group_8 ?_
  refine lv_if_eq (tgt := 18) hx hb dX6_group_11 (by decide) (fun c_2 => absurd c_2 (by decide)) (fun c_2 => ?_)
  refine lv_iconst (v := 1) hx hb dX6_group_14 (by decide) ?_
  refine lv_goto (tgt := 19) hx hb dX6_group_15 (by decide) ?_
  refine lv_istore_n (lv' := [(3, .int 1), (0, .ref mo), (1, .int (nI mm)), (2, .int 0)]) hx hb dX6_group_19 rfl hl (by decide) rfl (fun ls hl => ?_)
  refine lv_aload_n hx hb dX6_group_20 rfl (lv_at hl 1 rfl) ?_
  refine lv_iload_n hx hb dX6_group_21 rfl (lv_at hl 2 rfl) ?_
  refine lv_if_lt (tgt := 47) hx hb dX6_group_22 (by decide) (fun c_3 => absurd c_3 (by exact nI_pos (by have := jGn_le (n2 := n2) (K1 := K1) (K2 := K2) n; omega))) (fun c_3 => ?_)
  refine lv_iload_n hx hb dX6_group_25 rfl (lv_at hl 3 rfl) ?_
  refine lv_if_lt (tgt := 47) hx hb dX6_group_26 (by decide) (fun c_4 => absurd c_4 (by decide)) (fun c_4 => ?_)
  refine lv_iload_n hx hb dX6_group_29 rfl (lv_at hl 3 rfl) ?_
  refine lv_iconst (v := 4) hx hb dX6_group_30 (by decide) ?_
  refine lv_icmp_gt (tgt := 47) hx hb dX6_group_31 (by decide) (fun c_5 => absurd c_5 (by decide)) (fun c_5 => ?_)
  refine lv_iload_n hx hb dX6_group_34 rfl (lv_at hl 0 rfl) ?_
  refine lv_if_eq (tgt := 51) hx hb dX6_group_35 (by decide) (fun c_6 => absurd c_6 (by decide)) (fun c_6 => ?_)
  refine lv_iload_n hx hb dX6_group_38 rfl (lv_at hl 2 rfl) ?_
  refine lv_aload_n hx hb dX6_group_39 rfl (lv_at hl 1 rfl) ?_
  refine lv_iconst (v := (-1)) hx hb dX6_group_40 (by decide) ?_
  refine vp_callSi (va_Run.run (va_runV (As := [.int (-1)]) (rest := [.int (nI mm), .ref mo]) ⟨hx, hb, hml, hown, hts⟩ (gM_groupAt_m l D cI cL cQ mo g n n2 q1 q3 q4 q5 q6 q11 z0 1 1 kd mk w10 w13 w14 m3 m5 K1 K2 (by first | assumption | decide | omega) (by first | assumption | decide | omega) (by first | assumption | decide | omega) (by first | assumption | decide | omega) (by first | assumption | decide | omega)) (cwV 1 hts gX6_group_X6_groupAt rfl rfl rfl (by decide +kernel) ⟨Nat.le_of_ble_eq_true rfl, Nat.le_of_ble_eq_true rfl⟩) (jr_V hK hN hP [0, 1, 3, 4] rfl 6 0 rfl rfl rfl) rfl rfl hl.1 rfl (lv_room (Nat.le_of_ble_eq_true rfl)) dX6_group_41 ⟨Nat.le_of_ble_eq_true rfl, Nat.le_of_ble_eq_true rfl⟩)) (fun r f_7 => ?_)
  obtain rfl := f_7
  refine lv_icmp_lt (tgt := 51) hx hb dX6_group_44 (by decide) (fun c_8 => ?_) (fun c_8 => absurd c_8 (by exact fun h => h (nI_lt hm (by have := jGn_le (n2 := n2) (K1 := K1) (K2 := K2) n; omega))))
  refine lv_iload_n hx hb dX6_group_51 rfl (lv_at hl 0 rfl) ?_
  refine lv_if_eq (tgt := 59) hx hb dX6_group_52 (by decide) (fun c_9 => absurd c_9 (by decide)) (fun c_9 => ?_)
  refine lv_iconst (v := 0) hx hb dX6_group_55 (by decide) ?_
  refine lv_goto (tgt := 60) hx hb dX6_group_56 (by decide) ?_
  refine jw_i (wr := [(q3, .inl (cI, 800, .inl m3)), (q4, .inl (cI, 800, .inl m4)), (q5, .inl (cI, 800, .inl m5)), (q6, .inl (cI, 2, .inl (jl [nI n, nI n2])))]) (va_runV (As := [.int 0]) (rest := []) ⟨hx, hb, hml, hown, hts⟩ (gM_refuses_0 l D cI cL cQ mo g q1 q3 q4 q5 q6 q11 z0 1 1 kd mk w10 w13 w14 _) (cwV 1 hts gX6_group_X6_refuses rfl rfl rfl (by decide +kernel) ⟨Nat.le_of_ble_eq_true rfl, Nat.le_of_ble_eq_true rfl⟩) (jw_V hK hN hP hD [0] (by decide) rfl 6 0 rfl rfl rfl) rfl rfl hl.1 rfl (lv_room (Nat.le_of_ble_eq_true rfl)) dX6_group_60 ⟨Nat.le_of_ble_eq_true rfl, Nat.le_of_ble_eq_true rfl⟩) hP hD hS hA [0] [1, 2, 3, 4] rfl rfl (by decide) (by decide) (fun r u H locs f_10 hP hD hS => ?_)
  obtain ⟨rfl, rfl⟩ := f_10
  have hP : va_P D vwCl [(q3, .inl (cI, 800, .inl m3)), (q4, .inl (cI, 800, .inl m4)), (q5, .inl (cI, 800, .inl m5)), (q6, .inl (cI, 2, .inl (jl [nI n, nI n2]))), (mo, .inr (6, [.int 0, .ref q1, .int (nI g), .ref q3, .ref q4, .ref q5, .ref q6, .int 1, .int 1, .int kd, .long w10, .ref q11, .int mk, .long w13, .long w14]))] H := hP
  have hD : va_D A [(q3, .inl (cI, 800, .inl m3)), (q4, .inl (cI, 800, .inl m4)), (q5, .inl (cI, 800, .inl m5)), (q6, .inl (cI, 2, .inl (jl [nI n, nI n2]))), (mo, .inr (6, [.int 0, .ref q1, .int (nI g), .ref q3, .ref q4, .ref q5, .ref q6, .int 1, .int 1, .int kd, .long w10, .ref q11, .int mk, .long w13, .long w14]))] := hD
  refine lv_if_eq (tgt := 68) hx hb dX6_group_63 (by decide) (fun c_11 => ?_) (fun c_11 => absurd c_11 (by decide))
  refine lv_aload_n hx hb dX6_group_68 rfl (lv_at hl 1 rfl) ?_
  refine lv_iconst (v := 0) hx hb dX6_group_69 (by decide) ?_
  refine lv_aload_n hx hb dX6_group_70 rfl (lv_at hl 1 rfl) ?_
  refine lv_iload_n hx hb dX6_group_71 rfl (lv_at hl 2 rfl) ?_
  refine vp_callSi (va_Run.run (va_runV (As := [.int (nI mm)]) (rest := [.int 0, .ref mo]) ⟨hx, hb, hml, hown, hts⟩ (gM_groupAt_i l D cI cL cQ mo g n n2 q1 q3 q4 q5 q6 q11 0 1 1 kd mk w10 w13 w14 m3 m5 K1 K2 mm (by first | assumption | decide | omega) (by first | assumption | decide | omega) (by first | assumption | decide | omega) (by first | assumption | decide | omega) (by first | assumption | decide | omega) (by first | assumption | decide | omega) (by have := jGn_le (n2 := n2) (K1 := K1) (K2 := K2) n; omega)) (cwV 1 hts gX6_group_X6_groupAt rfl rfl rfl (by decide +kernel) ⟨Nat.le_of_ble_eq_true rfl, Nat.le_of_ble_eq_true rfl⟩) (jr_V hK hN hP [4, 0, 2, 3] rfl 6 4 rfl rfl rfl) rfl rfl hl.1 rfl (lv_room (Nat.le_of_ble_eq_true rfl)) dX6_group_72 ⟨Nat.le_of_ble_eq_true rfl, Nat.le_of_ble_eq_true rfl⟩)) (fun r f_12 => ?_)
  obtain ⟨p9, rfl, f_13, f_14, f_15⟩ := f_12
  refine vp_callSi (va_Run.run (va_runV (As := [.int 0, .int (nI p9)]) (rest := []) ⟨hx, hb, hml, hown, hts⟩ (gM_key_0 l D cI cL cQ mo g q1 q3 q4 q5 q6 q11 0 1 1 kd mk w10 w13 w14 m3 m5 p9 (by first | assumption | decide | omega) (by omega)) (cwV 2 hts gX6_group_X6_key rfl rfl rfl (by decide +kernel) ⟨Nat.le_of_ble_eq_true rfl, Nat.le_of_ble_eq_true rfl⟩) (jr_V hK hN hP [4, 0, 2] rfl 6 4 rfl rfl rfl) rfl rfl hl.1 rfl (lv_room (Nat.le_of_ble_eq_true rfl)) dX6_group_75 ⟨Nat.le_of_ble_eq_true rfl, Nat.le_of_ble_eq_true rfl⟩)) (fun r f_16 => ?_)
  obtain rfl := f_16
  refine lv_istore (lv' := [(4, .int (jmk 0 m3 m5 p9)), (3, .int 1), (0, .ref mo), (1, .int (nI mm)), (2, .int 0)]) hx hb dX6_group_78 hl (by decide) rfl (fun ls hl => ?_)
  refine lv_lconst (v := 0) hx hb dX6_group_80 (by decide) ?_
  refine lv_lstore (lv' := [(5, .long 0), (4, .int (jmk 0 m3 m5 p9)), (3, .int 1), (0, .ref mo), (1, .int (nI mm)), (2, .int 0)]) hx hb dX6_group_81 hl (by decide) rfl (fun ls hl => ?_)
  refine lv_lconst (v := 0) hx hb dX6_group_83 (by decide) ?_
  refine lv_lstore (lv' := [(7, .long 0), (5, .long 0), (4, .int (jmk 0 m3 m5 p9)), (3, .int 1), (0, .ref mo), (1, .int (nI mm)), (2, .int 0)]) hx hb dX6_group_84 hl (by decide) rfl (fun ls hl => ?_)
  refine lv_aload_n hx hb dX6_group_86 rfl (lv_at hl 4 rfl) ?_
  refine lv_ldc2 (v := (9223372036854775807)) hx hb hown (hts (.constantLong RX6 96 (9223372036854775807)) (by decide +kernel)) dX6_group_87 ?_
  refine va_put (D := D) (ci := 6) (v := .long (9223372036854775807)) (ty := .long) (C := RX6) (T := TX6) (N := 15) hx hb hts (by decide +kernel) tyX6 tyX6_ok nmX6 hown hK hP hD hS 4 rfl rfl 13 (by decide) (hts (.fieldLink RX6 98 "JoinDeskModel" "least" "J") (by decide +kernel)) (fun _ h9 => h9) rfl (by decide +kernel) rfl rfl (Nat.le_of_ble_eq_true rfl) dX6_group_90 (fun H locs hP hD hS => ?_)
  have hP : va_P D vwCl [(q3, .inl (cI, 800, .inl m3)), (q4, .inl (cI, 800, .inl m4)), (q5, .inl (cI, 800, .inl m5)), (q6, .inl (cI, 2, .inl (jl [nI n, nI n2]))), (mo, .inr (6, [.int 0, .ref q1, .int (nI g), .ref q3, .ref q4, .ref q5, .ref q6, .int 1, .int 1, .int kd, .long w10, .ref q11, .int mk, .long (9223372036854775807), .long w14]))] H := hP
  have hD : va_D A [(q3, .inl (cI, 800, .inl m3)), (q4, .inl (cI, 800, .inl m4)), (q5, .inl (cI, 800, .inl m5)), (q6, .inl (cI, 2, .inl (jl [nI n, nI n2]))), (mo, .inr (6, [.int 0, .ref q1, .int (nI g), .ref q3, .ref q4, .ref q5, .ref q6, .int 1, .int 1, .int kd, .long w10, .ref q11, .int mk, .long (9223372036854775807), .long w14]))] := hD
  refine lv_aload_n hx hb dX6_group_93 rfl (lv_at hl 4 rfl) ?_
  refine lv_ldc2 (v := (-9223372036854775808)) hx hb hown (hts (.constantLong RX6 101 (-9223372036854775808)) (by decide +kernel)) dX6_group_94 ?_
  refine va_put (D := D) (ci := 6) (v := .long (-9223372036854775808)) (ty := .long) (C := RX6) (T := TX6) (N := 15) hx hb hts (by decide +kernel) tyX6 tyX6_ok nmX6 hown hK hP hD hS 4 rfl rfl 14 (by decide) (hts (.fieldLink RX6 103 "JoinDeskModel" "greatest" "J") (by decide +kernel)) (fun _ h9 => h9) rfl (by decide +kernel) rfl rfl (Nat.le_of_ble_eq_true rfl) dX6_group_97 (fun H locs hP hD hS => ?_)
  have hP : va_P D vwCl [(q3, .inl (cI, 800, .inl m3)), (q4, .inl (cI, 800, .inl m4)), (q5, .inl (cI, 800, .inl m5)), (q6, .inl (cI, 2, .inl (jl [nI n, nI n2]))), (mo, .inr (6, [.int 0, .ref q1, .int (nI g), .ref q3, .ref q4, .ref q5, .ref q6, .int 1, .int 1, .int kd, .long w10, .ref q11, .int mk, .long (9223372036854775807), .long (-9223372036854775808)]))] H := hP
  have hD : va_D A [(q3, .inl (cI, 800, .inl m3)), (q4, .inl (cI, 800, .inl m4)), (q5, .inl (cI, 800, .inl m5)), (q6, .inl (cI, 2, .inl (jl [nI n, nI n2]))), (mo, .inr (6, [.int 0, .ref q1, .int (nI g), .ref q3, .ref q4, .ref q5, .ref q6, .int 1, .int 1, .int kd, .long w10, .ref q11, .int mk, .long (9223372036854775807), .long (-9223372036854775808)]))] := hD
  refine lv_iconst (v := 0) hx hb dX6_group_100 (by decide) ?_
  refine lv_istore (lv' := [(9, .int 0), (7, .long 0), (5, .long 0), (4, .int (jmk 0 m3 m5 p9)), (3, .int 1), (0, .ref mo), (1, .int (nI mm)), (2, .int 0)]) hx hb dX6_group_101 hl (by decide) rfl (fun ls hl => ?_)
  have hP := hP.sub (ws' := [(mo, .inr (6, [.int 0, .ref q1, .int (nI g), .ref q3, .ref q4, .ref q5, .ref q6, .int 1, .int 1, .int kd, .long w10, .ref q11, .int mk, .long (9223372036854775807), .long (-9223372036854775808)])), (q3, .inl (cI, 800, .inl m3)), (q4, .inl (cI, 800, .inl m4)), (q5, .inl (cI, 800, .inl m5)), (q6, .inl (cI, 2, .inl (jl [nI n, nI n2])))]) [4, 0, 1, 2, 3] rfl
  have hD := hD.sub (ws' := [(mo, .inr (6, [.int 0, .ref q1, .int (nI g), .ref q3, .ref q4, .ref q5, .ref q6, .int 1, .int 1, .int kd, .long w10, .ref q11, .int mk, .long (9223372036854775807), .long (-9223372036854775808)])), (q3, .inl (cI, 800, .inl m3)), (q4, .inl (cI, 800, .inl m4)), (q5, .inl (cI, 800, .inl m5)), (q6, .inl (cI, 2, .inl (jl [nI n, nI n2])))]) [4, 0, 1, 2, 3] (by decide) rfl
  have hloop_1 : ∀ (k_1 : Nat) (i : Nat) (u5 : Int64) (u7 : Int64) (ul : Int64) (ug : Int64), n - i < k_1 → (i ≤ n) → (jRw n2 (jsh 0 m3) (jsh 0 m4) (jsh 400 m3) (jsh 400 m4) (jmk 0 m3 m5 p9) i 0 u5 u7 ul ug) → ∀ (H : Heap) (locs : List Loc), va_P D vwCl [(mo, .inr (6, [.int 0, .ref q1, .int (nI g), .ref q3, .ref q4, .ref q5, .ref q6, .int 1, .int 1, .int kd, .long w10, .ref q11, .int mk, .long ul, .long ug])), (q3, .inl (cI, 800, .inl m3)), (q4, .inl (cI, 800, .inl m4)), (q5, .inl (cI, 800, .inl m5)), (q6, .inl (cI, 2, .inl (jl [nI n, nI n2])))] H → va_D A [(mo, .inr (6, [.int 0, .ref q1, .int (nI g), .ref q3, .ref q4, .ref q5, .ref q6, .int 1, .int 1, .int kd, .long w10, .ref q11, .int mk, .long ul, .long ug])), (q3, .inl (cI, 800, .inl m3)), (q4, .inl (cI, 800, .inl m4)), (q5, .inl (cI, 800, .inl m5)), (q6, .inl (cI, 2, .inl (jl [nI n, nI n2])))] → va_S A s.heap H locs → ∀ ls : Array Slot, lv_has ls 13 [(0, .ref mo), (1, .int (nI mm)), (2, .int 0), (3, .int 1), (4, .int (jmk 0 m3 m5 p9)), (5, .long u5), (7, .long u7), (9, .int (nI i))] → W p l e (headSpec wsX6_group ({ frames := 2, cells := 0, slots := 0, locals := 48 })).room s m #[.ref mo, .int (nI mm), .int 0] below meth c H locs 0 0 (MQ below (va_Ql (fun (r : Int64) (u : va_W) => ∃ (p9 : Nat) (f0 : Int64) (f1 : Int64) (f2 : Int64) (f3 : Int64) (f4 : Int64), r = f0 ∧ u = [(mo, .inr (6, [.int 0, .ref q1, .int (nI g), .ref q3, .ref q4, .ref q5, .ref q6, .int 1, .int 1, .int kd, .long w10, .ref q11, .int mk, .long f3, .long f4])), (q3, .inl (cI, 800, .inl m3)), (q4, .inl (cI, 800, .inl m4)), (q5, .inl (cI, 800, .inl m5)), (q6, .inl (cI, 2, .inl (jl [nI n, nI n2])))] ∧ (p9 < n) ∧ (jGb n2 K1 K2 p9 = true) ∧ (jGn n2 K1 K2 p9 = mm) ∧ (jGf n n2 (jsh 0 m3) (jsh 0 m4) (jsh 400 m3) (jsh 400 m4) (K1 p9) f0 f1 f2 f3 f4)) (jw_B D vwCl A (fun u : va_W => u)) A) #[.ref mo, .int (nI mm), .int 0] s 0 0 A) (F0 m 103 ls []) := by
    intro k_1
    induction k_1 with
    | zero => exact fun _ _ _ _ _ hm => absurd hm (Nat.not_lt_zero _)
    | succ k_1 ih_1 =>
      intro i u5 u7 ul ug hm1 hi hrw H locs hP hD hS ls hl
      refine lv_iload hx hb dX6_group_103 (lv_at hl 7 rfl) ?_
      refine lv_aload_n hx hb dX6_group_105 rfl (lv_at hl 0 rfl) ?_
      refine va_get (D := D) (ci := 6) (v := .ref q6) (C := RX6) (T := TX6) (N := 15) hx hb hts (by decide +kernel) hown hK hP 0 rfl rfl 6 (by decide) (hts (.fieldLink RX6 22 "JoinDeskModel" "many" "[I") (by decide +kernel)) (fun _ h9 => h9) rfl dX6_group_106 ?_
      refine lv_iconst (v := 0) hx hb dX6_group_109 (by decide) ?_
      refine va_iald hx hb hK hP 4 0 rfl rfl (by unfold vp_in; decide) dX6_group_110 ?_
      refine W.eq (g2 := F0 m 111 ls [.int (nI n), .int (nI i)]) rfl ?_
      refine lv_icmp_ge (tgt := 250) hx hb dX6_group_111 (by decide) (fun cga => ?_) (fun cga => ?_)
      · refine lv_iload_n hx hb dX6_group_250 rfl (lv_at hl 2 rfl) ?_
        refine lv_if_ne (tgt := 260) hx hb dX6_group_251 (by decide) (fun c_17 => absurd c_17 (by decide)) (fun c_17 => ?_)
        refine lv_iload hx hb dX6_group_254 (lv_at hl 4 rfl) ?_
        refine lv_i2l (v := (jmk 0 m3 m5 p9).toInt64) hx hb dX6_group_256 (by first | rfl | decide) ?_
        refine lv_goto (tgt := 296) hx hb dX6_group_257 (by decide) ?_
        refine W.widen (k := 0) (n := 0) (by omega) (by omega) ?_
        exact W.lret (v := (jmk 0 m3 m5 p9).toInt64) hx hb hr (fun t ht hW => ⟨⟨((jmk 0 m3 m5 p9).toInt64), [(mo, .inr (6, [.int 0, .ref q1, .int (nI g), .ref q3, .ref q4, .ref q5, .ref q6, .int 1, .int 1, .int kd, .long w10, .ref q11, .int mk, .long ul, .long ug])), (q3, .inl (cI, 800, .inl m3)), (q4, .inl (cI, 800, .inl m4)), (q5, .inl (cI, 800, .inl m5)), (q6, .inl (cI, 2, .inl (jl [nI n, nI n2])))], rfl, (⟨p9, (jmk 0 m3 m5 p9).toInt64, u7, u5, ul, ug, rfl, rfl, f_13, f_14, f_15, by rw [← hk1 p9 f_13]; exact jrw_fin (by have h := hrw; rw [show i = n by rw [nI_leI (by omega) (by omega)] at cga; omega] at h; exact h) (hro p9 f_13) (jCt_pos (by rw [hct, hk1 p9 f_13]; exact (jgb_1 f_14).2))⟩), by rw [ht]; exact hP, hD⟩, hS.F ht⟩) hS.2.2 dX6_group_296
      · refine lv_iconst (v := 0) hx hb dX6_group_114 (by decide) ?_
        refine lv_istore (lv' := [(10, .int 0), (0, .ref mo), (1, .int (nI mm)), (2, .int 0), (3, .int 1), (4, .int (jmk 0 m3 m5 p9)), (5, .long u5), (7, .long u7), (9, .int (nI i))]) hx hb dX6_group_115 hl (by decide) rfl (fun ls hl => ?_)
        have hloop_2 : ∀ (k_2 : Nat) (j : Nat) (v5 : Int64) (v7 : Int64) (vl : Int64) (vg : Int64), n2 - j < k_2 → (j ≤ n2) → (jRw n2 (jsh 0 m3) (jsh 0 m4) (jsh 400 m3) (jsh 400 m4) (jmk 0 m3 m5 p9) i j v5 v7 vl vg) → ∀ (H : Heap) (locs : List Loc), va_P D vwCl [(mo, .inr (6, [.int 0, .ref q1, .int (nI g), .ref q3, .ref q4, .ref q5, .ref q6, .int 1, .int 1, .int kd, .long w10, .ref q11, .int mk, .long vl, .long vg])), (q3, .inl (cI, 800, .inl m3)), (q4, .inl (cI, 800, .inl m4)), (q5, .inl (cI, 800, .inl m5)), (q6, .inl (cI, 2, .inl (jl [nI n, nI n2])))] H → va_D A [(mo, .inr (6, [.int 0, .ref q1, .int (nI g), .ref q3, .ref q4, .ref q5, .ref q6, .int 1, .int 1, .int kd, .long w10, .ref q11, .int mk, .long vl, .long vg])), (q3, .inl (cI, 800, .inl m3)), (q4, .inl (cI, 800, .inl m4)), (q5, .inl (cI, 800, .inl m5)), (q6, .inl (cI, 2, .inl (jl [nI n, nI n2])))] → va_S A s.heap H locs → ∀ ls : Array Slot, lv_has ls 13 [(0, .ref mo), (1, .int (nI mm)), (2, .int 0), (3, .int 1), (4, .int (jmk 0 m3 m5 p9)), (5, .long v5), (7, .long v7), (9, .int (nI i)), (10, .int (nI j))] → W p l e (headSpec wsX6_group ({ frames := 2, cells := 0, slots := 0, locals := 48 })).room s m #[.ref mo, .int (nI mm), .int 0] below meth c H locs 0 0 (MQ below (va_Ql (fun (r : Int64) (u : va_W) => ∃ (p9 : Nat) (f0 : Int64) (f1 : Int64) (f2 : Int64) (f3 : Int64) (f4 : Int64), r = f0 ∧ u = [(mo, .inr (6, [.int 0, .ref q1, .int (nI g), .ref q3, .ref q4, .ref q5, .ref q6, .int 1, .int 1, .int kd, .long w10, .ref q11, .int mk, .long f3, .long f4])), (q3, .inl (cI, 800, .inl m3)), (q4, .inl (cI, 800, .inl m4)), (q5, .inl (cI, 800, .inl m5)), (q6, .inl (cI, 2, .inl (jl [nI n, nI n2])))] ∧ (p9 < n) ∧ (jGb n2 K1 K2 p9 = true) ∧ (jGn n2 K1 K2 p9 = mm) ∧ (jGf n n2 (jsh 0 m3) (jsh 0 m4) (jsh 400 m3) (jsh 400 m4) (K1 p9) f0 f1 f2 f3 f4)) (jw_B D vwCl A (fun u : va_W => u)) A) #[.ref mo, .int (nI mm), .int 0] s 0 0 A) (F0 m 117 ls []) := by
          intro k_2
          induction k_2 with
          | zero => exact fun _ _ _ _ _ hm => absurd hm (Nat.not_lt_zero _)
          | succ k_2 ih_2 =>
            intro j v5 v7 vl vg hm2 hj hrw2 H locs hP hD hS ls hl
            refine lv_iload hx hb dX6_group_117 (lv_at hl 8 rfl) ?_
            refine lv_aload_n hx hb dX6_group_119 rfl (lv_at hl 0 rfl) ?_
            refine va_get (D := D) (ci := 6) (v := .ref q6) (C := RX6) (T := TX6) (N := 15) hx hb hts (by decide +kernel) hown hK hP 0 rfl rfl 6 (by decide) (hts (.fieldLink RX6 22 "JoinDeskModel" "many" "[I") (by decide +kernel)) (fun _ h9 => h9) rfl dX6_group_120 ?_
            refine lv_iconst (v := 1) hx hb dX6_group_123 (by decide) ?_
            refine va_iald hx hb hK hP 4 0 rfl rfl (by unfold vp_in; decide) dX6_group_124 ?_
            refine W.eq (g2 := F0 m 125 ls [.int (nI n2), .int (nI j)]) rfl ?_
            refine lv_icmp_ge (tgt := 244) hx hb dX6_group_125 (by decide) (fun cgb => ?_) (fun cgb => ?_)
            · refine lv_iinc (v := nI (i + 1)) (lv' := [(9, .int (nI (i + 1))), (0, .ref mo), (1, .int (nI mm)), (2, .int 0), (3, .int 1), (4, .int (jmk 0 m3 m5 p9)), (5, .long v5), (7, .long v7), (10, .int (nI j))]) hx hb dX6_group_244 hl (k := 7) rfl (nI_1 _) (by decide) rfl (fun ls hl => ?_)
              refine lv_goto (tgt := 103) hx hb dX6_group_247 (by decide) ?_
              exact ih_1 (i + 1) v5 v7 vl vg (by rw [nI_leI (by omega) (by omega)] at cga; omega) (by rw [nI_leI (by omega) (by omega)] at cga; omega) (jrw_out hrw2 (Or.inl (by rw [nI_leI (by omega) (by omega)] at cgb; omega))) _ _ hP hD hS ls (lv_sub hl [1, 2, 3, 4, 5, 6, 7, 0] rfl)
            · refine lv_aload_n hx hb dX6_group_128 rfl (lv_at hl 0 rfl) ?_
              refine va_get (D := D) (ci := 6) (v := .ref q3) (C := RX6) (T := TX6) (N := 15) hx hb hts (by decide +kernel) hown hK hP 0 rfl rfl 3 (by decide) (hts (.fieldLink RX6 13 "JoinDeskModel" "keys" "[I") (by decide +kernel)) (fun _ h9 => h9) rfl dX6_group_129 ?_
              refine lv_iload hx hb dX6_group_132 (lv_at hl 7 rfl) ?_
              refine va_iald hx hb hK hP 1 0 rfl rfl (vp_in_nI (show i < 800 by rw [nI_leI (by omega) (by omega)] at cga; omega) (by omega)) dX6_group_134 ?_
              refine lv_iload hx hb dX6_group_135 (lv_at hl 4 rfl) ?_
              refine lv_icmp_ne (tgt := 244) hx hb dX6_group_137 (by decide) (fun ckx => ?_) (fun ckx => ?_)
              · refine lv_iinc (v := nI (i + 1)) (lv' := [(9, .int (nI (i + 1))), (0, .ref mo), (1, .int (nI mm)), (2, .int 0), (3, .int 1), (4, .int (jmk 0 m3 m5 p9)), (5, .long v5), (7, .long v7), (10, .int (nI j))]) hx hb dX6_group_244 hl (k := 7) rfl (nI_1 _) (by decide) rfl (fun ls hl => ?_)
                refine lv_goto (tgt := 103) hx hb dX6_group_247 (by decide) ?_
                exact ih_1 (i + 1) v5 v7 vl vg (by rw [nI_leI (by omega) (by omega)] at cga; omega) (by rw [nI_leI (by omega) (by omega)] at cga; omega) (jrw_out hrw2 (Or.inr (by rw [jsh0 (m := m3) (i := i) (by omega)] at ckx; exact ckx))) _ _ hP hD hS ls (lv_sub hl [1, 2, 3, 4, 5, 6, 7, 0] rfl)
              · refine lv_aload_n hx hb dX6_group_140 rfl (lv_at hl 0 rfl) ?_
                refine va_get (D := D) (ci := 6) (v := .ref q3) (C := RX6) (T := TX6) (N := 15) hx hb hts (by decide +kernel) hown hK hP 0 rfl rfl 3 (by decide) (hts (.fieldLink RX6 13 "JoinDeskModel" "keys" "[I") (by decide +kernel)) (fun _ h9 => h9) rfl dX6_group_141 ?_
                refine lv_sipush (v := 400) hx hb dX6_group_144 (by decide) ?_
                refine lv_iload hx hb dX6_group_147 (lv_at hl 8 rfl) ?_
                refine lv_iadd hx hb dX6_group_149 ?_
                refine lv_topi (fun z_18 e_z_18 => ?_)
                obtain rfl : z_18 = nI (400 + j) := e_z_18.trans (nI_add 400 j)
                refine va_iald hx hb hK hP 1 0 rfl rfl (vp_in_nI (show 400 + j < 800 by rw [nI_leI (by omega) (by omega)] at cgb; omega) (by omega)) dX6_group_150 ?_
                refine lv_iload hx hb dX6_group_151 (lv_at hl 4 rfl) ?_
                refine lv_icmp_ne (tgt := 238) hx hb dX6_group_153 (by decide) (fun cky => ?_) (fun cky => ?_)
                · refine lv_iinc (v := nI (j + 1)) (lv' := [(10, .int (nI (j + 1))), (0, .ref mo), (1, .int (nI mm)), (2, .int 0), (3, .int 1), (4, .int (jmk 0 m3 m5 p9)), (5, .long v5), (7, .long v7), (9, .int (nI i))]) hx hb dX6_group_238 hl (k := 8) rfl (nI_1 _) (by decide) rfl (fun ls hl => ?_)
                  refine lv_goto (tgt := 117) hx hb dX6_group_241 (by decide) ?_
                  exact ih_2 (j + 1) v5 v7 vl vg (by rw [nI_leI (by omega) (by omega)] at cgb; omega) (by rw [nI_leI (by omega) (by omega)] at cgb; omega) (jrw_skip hrw2 (by rw [nI_leI (by omega) (by omega)] at cgb; omega) (by rw [jsh0 (m := m3) (i := i) (by omega)] at ckx; exact ckx) (by rw [jsh4 (m := m3) (i := j) (by rw [nI_leI (by omega) (by omega)] at cgb; omega)] at cky; exact cky)) _ _ hP hD hS ls (lv_sub hl [1, 2, 3, 4, 5, 6, 7, 8, 0] rfl)
                · refine lv_aload_n hx hb dX6_group_156 rfl (lv_at hl 0 rfl) ?_
                  refine va_get (D := D) (ci := 6) (v := .ref q4) (C := RX6) (T := TX6) (N := 15) hx hb hts (by decide +kernel) hown hK hP 0 rfl rfl 4 (by decide) (hts (.fieldLink RX6 16 "JoinDeskModel" "values" "[I") (by decide +kernel)) (fun _ h9 => h9) rfl dX6_group_157 ?_
                  refine lv_iload hx hb dX6_group_160 (lv_at hl 7 rfl) ?_
                  refine va_iald hx hb hK hP 2 0 rfl rfl (vp_in_nI (show i < 800 by rw [nI_leI (by omega) (by omega)] at cga; omega) (by omega)) dX6_group_162 ?_
                  refine lv_i2l (v := (m4 (nI i).toNatClampNeg).toInt64) hx hb dX6_group_163 (by first | rfl | decide) ?_
                  refine lv_aload_n hx hb dX6_group_164 rfl (lv_at hl 0 rfl) ?_
                  refine va_get (D := D) (ci := 6) (v := .ref q4) (C := RX6) (T := TX6) (N := 15) hx hb hts (by decide +kernel) hown hK hP 0 rfl rfl 4 (by decide) (hts (.fieldLink RX6 16 "JoinDeskModel" "values" "[I") (by decide +kernel)) (fun _ h9 => h9) rfl dX6_group_165 ?_
                  refine lv_sipush (v := 400) hx hb dX6_group_168 (by decide) ?_
                  refine lv_iload hx hb dX6_group_171 (lv_at hl 8 rfl) ?_
                  refine lv_iadd hx hb dX6_group_173 ?_
                  refine lv_topi (fun z_19 e_z_19 => ?_)
                  obtain rfl : z_19 = nI (400 + j) := e_z_19.trans (nI_add 400 j)
                  refine va_iald hx hb hK hP 2 0 rfl rfl (vp_in_nI (show 400 + j < 800 by rw [nI_leI (by omega) (by omega)] at cgb; omega) (by omega)) dX6_group_174 ?_
                  refine lv_i2l (v := (m4 (nI (400 + j)).toNatClampNeg).toInt64) hx hb dX6_group_175 (by first | rfl | decide) ?_
                  refine lv_lmul hx hb dX6_group_176 ?_
                  refine lv_lstore (lv' := [(11, .long (((m4 (nI i).toNatClampNeg).toInt64) * ((m4 (nI (400 + j)).toNatClampNeg).toInt64))), (0, .ref mo), (1, .int (nI mm)), (2, .int 0), (3, .int 1), (4, .int (jmk 0 m3 m5 p9)), (5, .long v5), (7, .long v7), (9, .int (nI i)), (10, .int (nI j))]) hx hb dX6_group_177 hl (by decide) rfl (fun ls hl => ?_)
                  refine lv_lload hx hb dX6_group_179 (lv_at hl 6 rfl) ?_
                  refine lv_lload hx hb dX6_group_181 (lv_at hl 0 rfl) ?_
                  refine lv_ladd hx hb dX6_group_183 ?_
                  refine lv_lstore (lv' := [(5, .long (v5 + (((m4 (nI i).toNatClampNeg).toInt64) * ((m4 (nI (400 + j)).toNatClampNeg).toInt64)))), (11, .long (((m4 (nI i).toNatClampNeg).toInt64) * ((m4 (nI (400 + j)).toNatClampNeg).toInt64))), (0, .ref mo), (1, .int (nI mm)), (2, .int 0), (3, .int 1), (4, .int (jmk 0 m3 m5 p9)), (7, .long v7), (9, .int (nI i)), (10, .int (nI j))]) hx hb dX6_group_184 hl (by decide) rfl (fun ls hl => ?_)
                  refine lv_lload hx hb dX6_group_186 (lv_at hl 7 rfl) ?_
                  refine lv_lconst (v := 1) hx hb dX6_group_188 (by decide) ?_
                  refine lv_ladd hx hb dX6_group_189 ?_
                  refine lv_lstore (lv' := [(7, .long (v7 + 1)), (5, .long (v5 + (((m4 (nI i).toNatClampNeg).toInt64) * ((m4 (nI (400 + j)).toNatClampNeg).toInt64)))), (11, .long (((m4 (nI i).toNatClampNeg).toInt64) * ((m4 (nI (400 + j)).toNatClampNeg).toInt64))), (0, .ref mo), (1, .int (nI mm)), (2, .int 0), (3, .int 1), (4, .int (jmk 0 m3 m5 p9)), (9, .int (nI i)), (10, .int (nI j))]) hx hb dX6_group_190 hl (by decide) rfl (fun ls hl => ?_)
                  refine lv_aload_n hx hb dX6_group_192 rfl (lv_at hl 3 rfl) ?_
                  refine lv_lload hx hb dX6_group_193 (lv_at hl 2 rfl) ?_
                  refine lv_aload_n hx hb dX6_group_195 rfl (lv_at hl 3 rfl) ?_
                  refine va_get (D := D) (ci := 6) (v := .long vl) (C := RX6) (T := TX6) (N := 15) hx hb hts (by decide +kernel) hown hK hP 0 rfl rfl 13 (by decide) (hts (.fieldLink RX6 98 "JoinDeskModel" "least" "J") (by decide +kernel)) (fun _ h9 => h9) rfl dX6_group_196 ?_
                  refine W.lcmp hx hb dX6_group_199 ?_
                  refine lv_topi (fun z_20 e_z_20 => ?_)
                  refine lv_if_ge (tgt := 208) hx hb dX6_group_200 (by decide) (fun cl1 => ?_) (fun cl1 => ?_)
                  · refine lv_aload_n hx hb dX6_group_208 rfl (lv_at hl 3 rfl) ?_
                    refine va_get (D := D) (ci := 6) (v := .long vl) (C := RX6) (T := TX6) (N := 15) hx hb hts (by decide +kernel) hown hK hP 0 rfl rfl 13 (by decide) (hts (.fieldLink RX6 98 "JoinDeskModel" "least" "J") (by decide +kernel)) (fun _ h9 => h9) rfl dX6_group_209 ?_
                    refine va_put (D := D) (ci := 6) (v := .long vl) (ty := .long) (C := RX6) (T := TX6) (N := 15) hx hb hts (by decide +kernel) tyX6 tyX6_ok nmX6 hown hK hP hD hS 0 rfl rfl 13 (by decide) (hts (.fieldLink RX6 98 "JoinDeskModel" "least" "J") (by decide +kernel)) (fun _ h9 => h9) rfl (by decide +kernel) rfl rfl (Nat.le_of_ble_eq_true rfl) dX6_group_212 (fun H locs hP hD hS => ?_)
                    have hP : va_P D vwCl [(mo, .inr (6, [.int 0, .ref q1, .int (nI g), .ref q3, .ref q4, .ref q5, .ref q6, .int 1, .int 1, .int kd, .long w10, .ref q11, .int mk, .long vl, .long vg])), (q3, .inl (cI, 800, .inl m3)), (q4, .inl (cI, 800, .inl m4)), (q5, .inl (cI, 800, .inl m5)), (q6, .inl (cI, 2, .inl (jl [nI n, nI n2])))] H := hP
                    have hD : va_D A [(mo, .inr (6, [.int 0, .ref q1, .int (nI g), .ref q3, .ref q4, .ref q5, .ref q6, .int 1, .int 1, .int kd, .long w10, .ref q11, .int mk, .long vl, .long vg])), (q3, .inl (cI, 800, .inl m3)), (q4, .inl (cI, 800, .inl m4)), (q5, .inl (cI, 800, .inl m5)), (q6, .inl (cI, 2, .inl (jl [nI n, nI n2])))] := hD
                    refine lv_aload_n hx hb dX6_group_215 rfl (lv_at hl 3 rfl) ?_
                    refine lv_lload hx hb dX6_group_216 (lv_at hl 2 rfl) ?_
                    refine lv_aload_n hx hb dX6_group_218 rfl (lv_at hl 3 rfl) ?_
                    refine va_get (D := D) (ci := 6) (v := .long vg) (C := RX6) (T := TX6) (N := 15) hx hb hts (by decide +kernel) hown hK hP 0 rfl rfl 14 (by decide) (hts (.fieldLink RX6 103 "JoinDeskModel" "greatest" "J") (by decide +kernel)) (fun _ h9 => h9) rfl dX6_group_219 ?_
                    refine W.lcmp hx hb dX6_group_222 ?_
                    refine lv_topi (fun z_21 e_z_21 => ?_)
                    refine lv_if_le (tgt := 231) hx hb dX6_group_223 (by decide) (fun cl2 => ?_) (fun cl2 => ?_)
                    · refine lv_aload_n hx hb dX6_group_231 rfl (lv_at hl 3 rfl) ?_
                      refine va_get (D := D) (ci := 6) (v := .long vg) (C := RX6) (T := TX6) (N := 15) hx hb hts (by decide +kernel) hown hK hP 0 rfl rfl 14 (by decide) (hts (.fieldLink RX6 103 "JoinDeskModel" "greatest" "J") (by decide +kernel)) (fun _ h9 => h9) rfl dX6_group_232 ?_
                      refine va_put (D := D) (ci := 6) (v := .long vg) (ty := .long) (C := RX6) (T := TX6) (N := 15) hx hb hts (by decide +kernel) tyX6 tyX6_ok nmX6 hown hK hP hD hS 0 rfl rfl 14 (by decide) (hts (.fieldLink RX6 103 "JoinDeskModel" "greatest" "J") (by decide +kernel)) (fun _ h9 => h9) rfl (by decide +kernel) rfl rfl (Nat.le_of_ble_eq_true rfl) dX6_group_235 (fun H locs hP hD hS => ?_)
                      have hP : va_P D vwCl [(mo, .inr (6, [.int 0, .ref q1, .int (nI g), .ref q3, .ref q4, .ref q5, .ref q6, .int 1, .int 1, .int kd, .long w10, .ref q11, .int mk, .long vl, .long vg])), (q3, .inl (cI, 800, .inl m3)), (q4, .inl (cI, 800, .inl m4)), (q5, .inl (cI, 800, .inl m5)), (q6, .inl (cI, 2, .inl (jl [nI n, nI n2])))] H := hP
                      have hD : va_D A [(mo, .inr (6, [.int 0, .ref q1, .int (nI g), .ref q3, .ref q4, .ref q5, .ref q6, .int 1, .int 1, .int kd, .long w10, .ref q11, .int mk, .long vl, .long vg])), (q3, .inl (cI, 800, .inl m3)), (q4, .inl (cI, 800, .inl m4)), (q5, .inl (cI, 800, .inl m5)), (q6, .inl (cI, 2, .inl (jl [nI n, nI n2])))] := hD
                      refine lv_iinc (v := nI (j + 1)) (lv' := [(10, .int (nI (j + 1))), (7, .long (v7 + 1)), (5, .long (v5 + (((m4 (nI i).toNatClampNeg).toInt64) * ((m4 (nI (400 + j)).toNatClampNeg).toInt64)))), (11, .long (((m4 (nI i).toNatClampNeg).toInt64) * ((m4 (nI (400 + j)).toNatClampNeg).toInt64))), (0, .ref mo), (1, .int (nI mm)), (2, .int 0), (3, .int 1), (4, .int (jmk 0 m3 m5 p9)), (9, .int (nI i))]) hx hb dX6_group_238 hl (k := 9) rfl (nI_1 _) (by decide) rfl (fun ls hl => ?_)
                      refine lv_goto (tgt := 117) hx hb dX6_group_241 (by decide) ?_
                      exact ih_2 (j + 1) (v5 + (((m4 (nI i).toNatClampNeg).toInt64) * ((m4 (nI (400 + j)).toNatClampNeg).toInt64))) (v7 + 1) vl vg (by rw [nI_leI (by omega) (by omega)] at cgb; omega) (by rw [nI_leI (by omega) (by omega)] at cgb; omega) (by rw [jsh0 (m := m4) (i := i) (by omega), jsh4 (m := m4) (i := j) (by rw [nI_leI (by omega) (by omega)] at cgb; omega)] at e_z_20 e_z_21 ⊢; exact jrw_hit hrw2 (by rw [nI_leI (by omega) (by omega)] at cgb; omega) (by rw [jsh0 (m := m3) (i := i) (by omega)] at ckx; exact ckx) (by rw [jsh4 (m := m3) (i := j) (by rw [nI_leI (by omega) (by omega)] at cgb; omega)] at cky; exact cky) (Or.inl ⟨rfl, jlc_ge e_z_20 cl1⟩) (Or.inl ⟨rfl, jlc_le e_z_21 cl2⟩)) _ _ hP hD hS ls (lv_sub hl [4, 5, 6, 7, 8, 2, 1, 9, 0] rfl)
                    · refine lv_lload hx hb dX6_group_226 (lv_at hl 2 rfl) ?_
                      refine lv_goto (tgt := 235) hx hb dX6_group_228 (by decide) ?_
                      refine va_put (D := D) (ci := 6) (v := .long (((m4 (nI i).toNatClampNeg).toInt64) * ((m4 (nI (400 + j)).toNatClampNeg).toInt64))) (ty := .long) (C := RX6) (T := TX6) (N := 15) hx hb hts (by decide +kernel) tyX6 tyX6_ok nmX6 hown hK hP hD hS 0 rfl rfl 14 (by decide) (hts (.fieldLink RX6 103 "JoinDeskModel" "greatest" "J") (by decide +kernel)) (fun _ h9 => h9) rfl (by decide +kernel) rfl rfl (Nat.le_of_ble_eq_true rfl) dX6_group_235 (fun H locs hP hD hS => ?_)
                      have hP : va_P D vwCl [(mo, .inr (6, [.int 0, .ref q1, .int (nI g), .ref q3, .ref q4, .ref q5, .ref q6, .int 1, .int 1, .int kd, .long w10, .ref q11, .int mk, .long vl, .long (((m4 (nI i).toNatClampNeg).toInt64) * ((m4 (nI (400 + j)).toNatClampNeg).toInt64))])), (q3, .inl (cI, 800, .inl m3)), (q4, .inl (cI, 800, .inl m4)), (q5, .inl (cI, 800, .inl m5)), (q6, .inl (cI, 2, .inl (jl [nI n, nI n2])))] H := hP
                      have hD : va_D A [(mo, .inr (6, [.int 0, .ref q1, .int (nI g), .ref q3, .ref q4, .ref q5, .ref q6, .int 1, .int 1, .int kd, .long w10, .ref q11, .int mk, .long vl, .long (((m4 (nI i).toNatClampNeg).toInt64) * ((m4 (nI (400 + j)).toNatClampNeg).toInt64))])), (q3, .inl (cI, 800, .inl m3)), (q4, .inl (cI, 800, .inl m4)), (q5, .inl (cI, 800, .inl m5)), (q6, .inl (cI, 2, .inl (jl [nI n, nI n2])))] := hD
                      refine lv_iinc (v := nI (j + 1)) (lv' := [(10, .int (nI (j + 1))), (7, .long (v7 + 1)), (5, .long (v5 + (((m4 (nI i).toNatClampNeg).toInt64) * ((m4 (nI (400 + j)).toNatClampNeg).toInt64)))), (11, .long (((m4 (nI i).toNatClampNeg).toInt64) * ((m4 (nI (400 + j)).toNatClampNeg).toInt64))), (0, .ref mo), (1, .int (nI mm)), (2, .int 0), (3, .int 1), (4, .int (jmk 0 m3 m5 p9)), (9, .int (nI i))]) hx hb dX6_group_238 hl (k := 9) rfl (nI_1 _) (by decide) rfl (fun ls hl => ?_)
                      refine lv_goto (tgt := 117) hx hb dX6_group_241 (by decide) ?_
                      exact ih_2 (j + 1) (v5 + (((m4 (nI i).toNatClampNeg).toInt64) * ((m4 (nI (400 + j)).toNatClampNeg).toInt64))) (v7 + 1) vl (((m4 (nI i).toNatClampNeg).toInt64) * ((m4 (nI (400 + j)).toNatClampNeg).toInt64)) (by rw [nI_leI (by omega) (by omega)] at cgb; omega) (by rw [nI_leI (by omega) (by omega)] at cgb; omega) (by rw [jsh0 (m := m4) (i := i) (by omega), jsh4 (m := m4) (i := j) (by rw [nI_leI (by omega) (by omega)] at cgb; omega)] at e_z_20 e_z_21 ⊢; exact jrw_hit hrw2 (by rw [nI_leI (by omega) (by omega)] at cgb; omega) (by rw [jsh0 (m := m3) (i := i) (by omega)] at ckx; exact ckx) (by rw [jsh4 (m := m3) (i := j) (by rw [nI_leI (by omega) (by omega)] at cgb; omega)] at cky; exact cky) (Or.inl ⟨rfl, jlc_ge e_z_20 cl1⟩) (Or.inr ⟨rfl, jlc_nle e_z_21 cl2⟩)) _ _ hP hD hS ls (lv_sub hl [4, 5, 6, 7, 8, 2, 1, 9, 0] rfl)
                  · refine lv_lload hx hb dX6_group_203 (lv_at hl 2 rfl) ?_
                    refine lv_goto (tgt := 212) hx hb dX6_group_205 (by decide) ?_
                    refine va_put (D := D) (ci := 6) (v := .long (((m4 (nI i).toNatClampNeg).toInt64) * ((m4 (nI (400 + j)).toNatClampNeg).toInt64))) (ty := .long) (C := RX6) (T := TX6) (N := 15) hx hb hts (by decide +kernel) tyX6 tyX6_ok nmX6 hown hK hP hD hS 0 rfl rfl 13 (by decide) (hts (.fieldLink RX6 98 "JoinDeskModel" "least" "J") (by decide +kernel)) (fun _ h9 => h9) rfl (by decide +kernel) rfl rfl (Nat.le_of_ble_eq_true rfl) dX6_group_212 (fun H locs hP hD hS => ?_)
                    have hP : va_P D vwCl [(mo, .inr (6, [.int 0, .ref q1, .int (nI g), .ref q3, .ref q4, .ref q5, .ref q6, .int 1, .int 1, .int kd, .long w10, .ref q11, .int mk, .long (((m4 (nI i).toNatClampNeg).toInt64) * ((m4 (nI (400 + j)).toNatClampNeg).toInt64)), .long vg])), (q3, .inl (cI, 800, .inl m3)), (q4, .inl (cI, 800, .inl m4)), (q5, .inl (cI, 800, .inl m5)), (q6, .inl (cI, 2, .inl (jl [nI n, nI n2])))] H := hP
                    have hD : va_D A [(mo, .inr (6, [.int 0, .ref q1, .int (nI g), .ref q3, .ref q4, .ref q5, .ref q6, .int 1, .int 1, .int kd, .long w10, .ref q11, .int mk, .long (((m4 (nI i).toNatClampNeg).toInt64) * ((m4 (nI (400 + j)).toNatClampNeg).toInt64)), .long vg])), (q3, .inl (cI, 800, .inl m3)), (q4, .inl (cI, 800, .inl m4)), (q5, .inl (cI, 800, .inl m5)), (q6, .inl (cI, 2, .inl (jl [nI n, nI n2])))] := hD
                    refine lv_aload_n hx hb dX6_group_215 rfl (lv_at hl 3 rfl) ?_
                    refine lv_lload hx hb dX6_group_216 (lv_at hl 2 rfl) ?_
                    refine lv_aload_n hx hb dX6_group_218 rfl (lv_at hl 3 rfl) ?_
                    refine va_get (D := D) (ci := 6) (v := .long vg) (C := RX6) (T := TX6) (N := 15) hx hb hts (by decide +kernel) hown hK hP 0 rfl rfl 14 (by decide) (hts (.fieldLink RX6 103 "JoinDeskModel" "greatest" "J") (by decide +kernel)) (fun _ h9 => h9) rfl dX6_group_219 ?_
                    refine W.lcmp hx hb dX6_group_222 ?_
                    refine lv_topi (fun z_22 e_z_22 => ?_)
                    refine lv_if_le (tgt := 231) hx hb dX6_group_223 (by decide) (fun cl2 => ?_) (fun cl2 => ?_)
                    · refine lv_aload_n hx hb dX6_group_231 rfl (lv_at hl 3 rfl) ?_
                      refine va_get (D := D) (ci := 6) (v := .long vg) (C := RX6) (T := TX6) (N := 15) hx hb hts (by decide +kernel) hown hK hP 0 rfl rfl 14 (by decide) (hts (.fieldLink RX6 103 "JoinDeskModel" "greatest" "J") (by decide +kernel)) (fun _ h9 => h9) rfl dX6_group_232 ?_
                      refine va_put (D := D) (ci := 6) (v := .long vg) (ty := .long) (C := RX6) (T := TX6) (N := 15) hx hb hts (by decide +kernel) tyX6 tyX6_ok nmX6 hown hK hP hD hS 0 rfl rfl 14 (by decide) (hts (.fieldLink RX6 103 "JoinDeskModel" "greatest" "J") (by decide +kernel)) (fun _ h9 => h9) rfl (by decide +kernel) rfl rfl (Nat.le_of_ble_eq_true rfl) dX6_group_235 (fun H locs hP hD hS => ?_)
                      have hP : va_P D vwCl [(mo, .inr (6, [.int 0, .ref q1, .int (nI g), .ref q3, .ref q4, .ref q5, .ref q6, .int 1, .int 1, .int kd, .long w10, .ref q11, .int mk, .long (((m4 (nI i).toNatClampNeg).toInt64) * ((m4 (nI (400 + j)).toNatClampNeg).toInt64)), .long vg])), (q3, .inl (cI, 800, .inl m3)), (q4, .inl (cI, 800, .inl m4)), (q5, .inl (cI, 800, .inl m5)), (q6, .inl (cI, 2, .inl (jl [nI n, nI n2])))] H := hP
                      have hD : va_D A [(mo, .inr (6, [.int 0, .ref q1, .int (nI g), .ref q3, .ref q4, .ref q5, .ref q6, .int 1, .int 1, .int kd, .long w10, .ref q11, .int mk, .long (((m4 (nI i).toNatClampNeg).toInt64) * ((m4 (nI (400 + j)).toNatClampNeg).toInt64)), .long vg])), (q3, .inl (cI, 800, .inl m3)), (q4, .inl (cI, 800, .inl m4)), (q5, .inl (cI, 800, .inl m5)), (q6, .inl (cI, 2, .inl (jl [nI n, nI n2])))] := hD
                      refine lv_iinc (v := nI (j + 1)) (lv' := [(10, .int (nI (j + 1))), (7, .long (v7 + 1)), (5, .long (v5 + (((m4 (nI i).toNatClampNeg).toInt64) * ((m4 (nI (400 + j)).toNatClampNeg).toInt64)))), (11, .long (((m4 (nI i).toNatClampNeg).toInt64) * ((m4 (nI (400 + j)).toNatClampNeg).toInt64))), (0, .ref mo), (1, .int (nI mm)), (2, .int 0), (3, .int 1), (4, .int (jmk 0 m3 m5 p9)), (9, .int (nI i))]) hx hb dX6_group_238 hl (k := 9) rfl (nI_1 _) (by decide) rfl (fun ls hl => ?_)
                      refine lv_goto (tgt := 117) hx hb dX6_group_241 (by decide) ?_
                      exact ih_2 (j + 1) (v5 + (((m4 (nI i).toNatClampNeg).toInt64) * ((m4 (nI (400 + j)).toNatClampNeg).toInt64))) (v7 + 1) (((m4 (nI i).toNatClampNeg).toInt64) * ((m4 (nI (400 + j)).toNatClampNeg).toInt64)) vg (by rw [nI_leI (by omega) (by omega)] at cgb; omega) (by rw [nI_leI (by omega) (by omega)] at cgb; omega) (by rw [jsh0 (m := m4) (i := i) (by omega), jsh4 (m := m4) (i := j) (by rw [nI_leI (by omega) (by omega)] at cgb; omega)] at e_z_20 e_z_22 ⊢; exact jrw_hit hrw2 (by rw [nI_leI (by omega) (by omega)] at cgb; omega) (by rw [jsh0 (m := m3) (i := i) (by omega)] at ckx; exact ckx) (by rw [jsh4 (m := m3) (i := j) (by rw [nI_leI (by omega) (by omega)] at cgb; omega)] at cky; exact cky) (Or.inr ⟨rfl, jlc_nge e_z_20 cl1⟩) (Or.inl ⟨rfl, jlc_le e_z_22 cl2⟩)) _ _ hP hD hS ls (lv_sub hl [4, 5, 6, 7, 8, 2, 1, 9, 0] rfl)
                    · refine lv_lload hx hb dX6_group_226 (lv_at hl 2 rfl) ?_
                      refine lv_goto (tgt := 235) hx hb dX6_group_228 (by decide) ?_
                      refine va_put (D := D) (ci := 6) (v := .long (((m4 (nI i).toNatClampNeg).toInt64) * ((m4 (nI (400 + j)).toNatClampNeg).toInt64))) (ty := .long) (C := RX6) (T := TX6) (N := 15) hx hb hts (by decide +kernel) tyX6 tyX6_ok nmX6 hown hK hP hD hS 0 rfl rfl 14 (by decide) (hts (.fieldLink RX6 103 "JoinDeskModel" "greatest" "J") (by decide +kernel)) (fun _ h9 => h9) rfl (by decide +kernel) rfl rfl (Nat.le_of_ble_eq_true rfl) dX6_group_235 (fun H locs hP hD hS => ?_)
                      have hP : va_P D vwCl [(mo, .inr (6, [.int 0, .ref q1, .int (nI g), .ref q3, .ref q4, .ref q5, .ref q6, .int 1, .int 1, .int kd, .long w10, .ref q11, .int mk, .long (((m4 (nI i).toNatClampNeg).toInt64) * ((m4 (nI (400 + j)).toNatClampNeg).toInt64)), .long (((m4 (nI i).toNatClampNeg).toInt64) * ((m4 (nI (400 + j)).toNatClampNeg).toInt64))])), (q3, .inl (cI, 800, .inl m3)), (q4, .inl (cI, 800, .inl m4)), (q5, .inl (cI, 800, .inl m5)), (q6, .inl (cI, 2, .inl (jl [nI n, nI n2])))] H := hP
                      have hD : va_D A [(mo, .inr (6, [.int 0, .ref q1, .int (nI g), .ref q3, .ref q4, .ref q5, .ref q6, .int 1, .int 1, .int kd, .long w10, .ref q11, .int mk, .long (((m4 (nI i).toNatClampNeg).toInt64) * ((m4 (nI (400 + j)).toNatClampNeg).toInt64)), .long (((m4 (nI i).toNatClampNeg).toInt64) * ((m4 (nI (400 + j)).toNatClampNeg).toInt64))])), (q3, .inl (cI, 800, .inl m3)), (q4, .inl (cI, 800, .inl m4)), (q5, .inl (cI, 800, .inl m5)), (q6, .inl (cI, 2, .inl (jl [nI n, nI n2])))] := hD
                      refine lv_iinc (v := nI (j + 1)) (lv' := [(10, .int (nI (j + 1))), (7, .long (v7 + 1)), (5, .long (v5 + (((m4 (nI i).toNatClampNeg).toInt64) * ((m4 (nI (400 + j)).toNatClampNeg).toInt64)))), (11, .long (((m4 (nI i).toNatClampNeg).toInt64) * ((m4 (nI (400 + j)).toNatClampNeg).toInt64))), (0, .ref mo), (1, .int (nI mm)), (2, .int 0), (3, .int 1), (4, .int (jmk 0 m3 m5 p9)), (9, .int (nI i))]) hx hb dX6_group_238 hl (k := 9) rfl (nI_1 _) (by decide) rfl (fun ls hl => ?_)
                      refine lv_goto (tgt := 117) hx hb dX6_group_241 (by decide) ?_
                      exact ih_2 (j + 1) (v5 + (((m4 (nI i).toNatClampNeg).toInt64) * ((m4 (nI (400 + j)).toNatClampNeg).toInt64))) (v7 + 1) (((m4 (nI i).toNatClampNeg).toInt64) * ((m4 (nI (400 + j)).toNatClampNeg).toInt64)) (((m4 (nI i).toNatClampNeg).toInt64) * ((m4 (nI (400 + j)).toNatClampNeg).toInt64)) (by rw [nI_leI (by omega) (by omega)] at cgb; omega) (by rw [nI_leI (by omega) (by omega)] at cgb; omega) (by rw [jsh0 (m := m4) (i := i) (by omega), jsh4 (m := m4) (i := j) (by rw [nI_leI (by omega) (by omega)] at cgb; omega)] at e_z_20 e_z_22 ⊢; exact jrw_hit hrw2 (by rw [nI_leI (by omega) (by omega)] at cgb; omega) (by rw [jsh0 (m := m3) (i := i) (by omega)] at ckx; exact ckx) (by rw [jsh4 (m := m3) (i := j) (by rw [nI_leI (by omega) (by omega)] at cgb; omega)] at cky; exact cky) (Or.inr ⟨rfl, jlc_nge e_z_20 cl1⟩) (Or.inr ⟨rfl, jlc_nle e_z_22 cl2⟩)) _ _ hP hD hS ls (lv_sub hl [4, 5, 6, 7, 8, 2, 1, 9, 0] rfl)
        exact hloop_2 (n2 - 0 + 1) 0 u5 u7 ul ug (Nat.lt_succ_self _) (Nat.zero_le _) (hrw) _ _ hP hD hS ls (lv_sub hl [1, 2, 3, 4, 5, 6, 7, 8, 0] rfl)
  exact hloop_1 (n - 0 + 1) 0 0 0 (9223372036854775807) (-9223372036854775808) (Nat.lt_succ_self _) (Nat.zero_le _) (jrw_0) _ _ hP hD hS ls (lv_sub hl [5, 6, 7, 4, 3, 2, 1, 0] rfl)
set_option maxHeartbeats 1000000 in
set_option maxRecDepth 100000 in
theorem gM_group_11 (l : Launch) (D : va_G) (cI cL cQ : ClassId) (mo : Nat) (g : Nat) (n : Nat) (n2 : Nat) (q1 : Nat) (q3 : Nat) (q4 : Nat) (q5 : Nat) (q6 : Nat) (q11 : Nat) (z0 : Int32) (kd : Int32) (mk : Int32) (w10 : Int64) (w13 : Int64) (w14 : Int64) (m3 : Nat → Int32) (m4 : Nat → Int32) (m5 : Nat → Int32) (K1 : Nat → Int32) (K2 : Nat → Int32) (mm : Nat) (sz : Nat) (hn : n ≤ 400) (hn2 : n2 ≤ 400) (h5 : jo5 m5) (hk1 : ∀ i, i < n → jmk 0 m3 m5 i = K1 i) (hct : ∀ x, jCt n2 (jsh 400 m3) x = jCt n2 K2 x) (hm : mm < jGn n2 K1 K2 n) (hro : ∀ i, i < n → ∃ k, k < n ∧ jsh 0 m3 k = jmk 0 m3 m5 i) : Met l yX6_group wsX6_group ({ frames := 2, cells := 0, slots := 0, locals := 48 }) (jw_P D vwCl (jT cI cL cQ) cL cQ [.ref mo, .int (nI mm), .int 1] [(mo, .inr (6, [.int z0, .ref q1, .int (nI g), .ref q3, .ref q4, .ref q5, .ref q6, .int 1, .int 1, .int kd, .long w10, .ref q11, .int mk, .long w13, .long w14])), (q3, .inl (cI, 800, .inl m3)), (q4, .inl (cI, 800, .inl m4)), (q5, .inl (cI, 800, .inl m5)), (q6, .inl (cI, 2, .inl (jl [nI n, nI n2])))] sz) (va_Ql (fun (r : Int64) (u : va_W) => ∃ (p9 : Nat) (f0 : Int64) (f1 : Int64) (f2 : Int64) (f3 : Int64) (f4 : Int64), r = f1 ∧ u = [(mo, .inr (6, [.int 0, .ref q1, .int (nI g), .ref q3, .ref q4, .ref q5, .ref q6, .int 1, .int 1, .int kd, .long w10, .ref q11, .int mk, .long f3, .long f4])), (q3, .inl (cI, 800, .inl m3)), (q4, .inl (cI, 800, .inl m4)), (q5, .inl (cI, 800, .inl m5)), (q6, .inl (cI, 2, .inl (jl [nI n, nI n2])))] ∧ (p9 < n) ∧ (jGb n2 K1 K2 p9 = true) ∧ (jGn n2 K1 K2 p9 = mm) ∧ (jGf n n2 (jsh 0 m3) (jsh 0 m4) (jsh 400 m3) (jsh 400 m4) (K1 p9) f0 f1 f2 f3 f4)) (jw_B D vwCl (va_A [(mo, .inr (6, [.int z0, .ref q1, .int (nI g), .ref q3, .ref q4, .ref q5, .ref q6, .int 1, .int 1, .int kd, .long w10, .ref q11, .int mk, .long w13, .long w14])), (q3, .inl (cI, 800, .inl m3)), (q4, .inl (cI, 800, .inl m4)), (q5, .inl (cI, 800, .inl m5)), (q6, .inl (cI, 2, .inl (jl [nI n, nI n2])))] sz) (fun u : va_W => u)) (va_A [(mo, .inr (6, [.int z0, .ref q1, .int (nI g), .ref q3, .ref q4, .ref q5, .ref q6, .int 1, .int 1, .int kd, .long w10, .ref q11, .int mk, .long w13, .long w14])), (q3, .inl (cI, 800, .inl m3)), (q4, .inl (cI, 800, .inl m4)), (q5, .inl (cI, 800, .inl m5)), (q6, .inl (cI, 2, .inl (jl [nI n, nI n2])))] sz)) 0 0 (va_A [(mo, .inr (6, [.int z0, .ref q1, .int (nI g), .ref q3, .ref q4, .ref q5, .ref q6, .int 1, .int 1, .int kd, .long w10, .ref q11, .int mk, .long w13, .long w14])), (q3, .inl (cI, 800, .inl m3)), (q4, .inl (cI, 800, .inl m4)), (q5, .inl (cI, 800, .inl m5)), (q6, .inl (cI, 2, .inl (jl [nI n, nI n2])))] sz) := by
  refine Met.ofW (cc := cX6_group) (maxL := 13) (ret := (some .long)) (by decide) rfl ?_
  intro p e s m args below meth c s₁ B hml hv
  obtain ⟨rfl, hsz, hP, hK, hN, hD0⟩ := hv
  have hx := B.exec
  have hb := B.bytes
  have hr := B.returns
  have hts := atoms_spec (ws := wsX6_group) B.pre
  have hown : s.vm.findClass RX6 = some m.cls := findClass_of_methodNamed B.named
  have hlocks := B.notSynchronized
  subst hsz
  have hD := hD0.self (sz := s.heap.size)
  generalize hAe : va_A [(mo, .inr (6, [.int z0, .ref q1, .int (nI g), .ref q3, .ref q4, .ref q5, .ref q6, .int 1, .int 1, .int kd, .long w10, .ref q11, .int mk, .long w13, .long w14])), (q3, .inl (cI, 800, .inl m3)), (q4, .inl (cI, 800, .inl m4)), (q5, .inl (cI, 800, .inl m5)), (q6, .inl (cI, 2, .inl (jl [nI n, nI n2])))] s.heap.size = A at hD ⊢
  have hA : ∀ q : Nat, s.heap.size ≤ q → A q := fun q h => by rw [← hAe]; exact Or.inr h
  have hS : va_S A s.heap s.heap [] := va_S.rf
  have hl := lv_entry ([.ref mo, .int (nI mm), .int 1]) (n := 13) (Nat.le_of_ble_eq_true rfl)
  rw [lg_entry_eq]
  generalize (lg_sl ([.ref mo, .int (nI mm), .int 1]) ++ List.replicate (13 - (lg_sl ([.ref mo, .int (nI mm), .int 1])).length) Slot.unset).toArray = ls at hl ⊢
  have hl : lv_has ls 13 [(0, .ref mo), (1, .int (nI mm)), (2, .int 1)] := hl
  refine lv_aload_n hx hb dX6_group_0 rfl (lv_at hl 0 rfl) ?_
  refine va_get (D := D) (ci := 6) (v := .int 1) (C := RX6) (T := TX6) (N := 15) hx hb hts (by decide +kernel) hown hK hP 0 rfl rfl 7 (by decide) (hts (.fieldLink RX6 43 "JoinDeskModel" "prepared" "Z") (by decide +kernel)) (fun _ h9 => h9) rfl dX6_group_1 ?_
  refine lv_if_eq (tgt := 18) hx hb dX6_group_4 (by decide) (fun c_1 => absurd c_1 (by decide)) (fun c_1 => ?_)
  refine lv_aload_n hx hb dX6_group_7 rfl (lv_at hl 0 rfl) ?_
  refine va_get (D := D) (ci := 6) (v := .int 1) (C := RX6) (T := TX6) (N := 15) hx hb hts (by decide +kernel) hown hK hP 0 rfl rfl 8 (by decide) (hts (.fieldLink RX6 47 "JoinDeskModel" "grouped" "Z") (by decide +kernel)) (fun _ h9 => h9) rfl dX6_group_8 ?_
  refine lv_if_eq (tgt := 18) hx hb dX6_group_11 (by decide) (fun c_2 => absurd c_2 (by decide)) (fun c_2 => ?_)
  refine lv_iconst (v := 1) hx hb dX6_group_14 (by decide) ?_
  refine lv_goto (tgt := 19) hx hb dX6_group_15 (by decide) ?_
  refine lv_istore_n (lv' := [(3, .int 1), (0, .ref mo), (1, .int (nI mm)), (2, .int 1)]) hx hb dX6_group_19 rfl hl (by decide) rfl (fun ls hl => ?_)
  refine lv_aload_n hx hb dX6_group_20 rfl (lv_at hl 1 rfl) ?_
  refine lv_iload_n hx hb dX6_group_21 rfl (lv_at hl 2 rfl) ?_
  refine lv_if_lt (tgt := 47) hx hb dX6_group_22 (by decide) (fun c_3 => absurd c_3 (by exact nI_pos (by have := jGn_le (n2 := n2) (K1 := K1) (K2 := K2) n; omega))) (fun c_3 => ?_)
  refine lv_iload_n hx hb dX6_group_25 rfl (lv_at hl 3 rfl) ?_
  refine lv_if_lt (tgt := 47) hx hb dX6_group_26 (by decide) (fun c_4 => absurd c_4 (by decide)) (fun c_4 => ?_)
  refine lv_iload_n hx hb dX6_group_29 rfl (lv_at hl 3 rfl) ?_
  refine lv_iconst (v := 4) hx hb dX6_group_30 (by decide) ?_
  refine lv_icmp_gt (tgt := 47) hx hb dX6_group_31 (by decide) (fun c_5 => absurd c_5 (by decide)) (fun c_5 => ?_)
  refine lv_iload_n hx hb dX6_group_34 rfl (lv_at hl 0 rfl) ?_
  refine lv_if_eq (tgt := 51) hx hb dX6_group_35 (by decide) (fun c_6 => absurd c_6 (by decide)) (fun c_6 => ?_)
  refine lv_iload_n hx hb dX6_group_38 rfl (lv_at hl 2 rfl) ?_
  refine lv_aload_n hx hb dX6_group_39 rfl (lv_at hl 1 rfl) ?_
  refine lv_iconst (v := (-1)) hx hb dX6_group_40 (by decide) ?_
  refine vp_callSi (va_Run.run (va_runV (As := [.int (-1)]) (rest := [.int (nI mm), .ref mo]) ⟨hx, hb, hml, hown, hts⟩ (gM_groupAt_m l D cI cL cQ mo g n n2 q1 q3 q4 q5 q6 q11 z0 1 1 kd mk w10 w13 w14 m3 m5 K1 K2 (by first | assumption | decide | omega) (by first | assumption | decide | omega) (by first | assumption | decide | omega) (by first | assumption | decide | omega) (by first | assumption | decide | omega)) (cwV 1 hts gX6_group_X6_groupAt rfl rfl rfl (by decide +kernel) ⟨Nat.le_of_ble_eq_true rfl, Nat.le_of_ble_eq_true rfl⟩) (jr_V hK hN hP [0, 1, 3, 4] rfl 6 0 rfl rfl rfl) rfl rfl hl.1 rfl (lv_room (Nat.le_of_ble_eq_true rfl)) dX6_group_41 ⟨Nat.le_of_ble_eq_true rfl, Nat.le_of_ble_eq_true rfl⟩)) (fun r f_7 => ?_)
  obtain rfl := f_7
  refine lv_icmp_lt (tgt := 51) hx hb dX6_group_44 (by decide) (fun c_8 => ?_) (fun c_8 => absurd c_8 (by exact fun h => h (nI_lt hm (by have := jGn_le (n2 := n2) (K1 := K1) (K2 := K2) n; omega))))
  refine lv_iload_n hx hb dX6_group_51 rfl (lv_at hl 0 rfl) ?_
  refine lv_if_eq (tgt := 59) hx hb dX6_group_52 (by decide) (fun c_9 => absurd c_9 (by decide)) (fun c_9 => ?_)
  refine lv_iconst (v := 0) hx hb dX6_group_55 (by decide) ?_
  refine lv_goto (tgt := 60) hx hb dX6_group_56 (by decide) ?_
  refine jw_i (wr := [(q3, .inl (cI, 800, .inl m3)), (q4, .inl (cI, 800, .inl m4)), (q5, .inl (cI, 800, .inl m5)), (q6, .inl (cI, 2, .inl (jl [nI n, nI n2])))]) (va_runV (As := [.int 0]) (rest := []) ⟨hx, hb, hml, hown, hts⟩ (gM_refuses_0 l D cI cL cQ mo g q1 q3 q4 q5 q6 q11 z0 1 1 kd mk w10 w13 w14 _) (cwV 1 hts gX6_group_X6_refuses rfl rfl rfl (by decide +kernel) ⟨Nat.le_of_ble_eq_true rfl, Nat.le_of_ble_eq_true rfl⟩) (jw_V hK hN hP hD [0] (by decide) rfl 6 0 rfl rfl rfl) rfl rfl hl.1 rfl (lv_room (Nat.le_of_ble_eq_true rfl)) dX6_group_60 ⟨Nat.le_of_ble_eq_true rfl, Nat.le_of_ble_eq_true rfl⟩) hP hD hS hA [0] [1, 2, 3, 4] rfl rfl (by decide) (by decide) (fun r u H locs f_10 hP hD hS => ?_)
  obtain ⟨rfl, rfl⟩ := f_10
  have hP : va_P D vwCl [(q3, .inl (cI, 800, .inl m3)), (q4, .inl (cI, 800, .inl m4)), (q5, .inl (cI, 800, .inl m5)), (q6, .inl (cI, 2, .inl (jl [nI n, nI n2]))), (mo, .inr (6, [.int 0, .ref q1, .int (nI g), .ref q3, .ref q4, .ref q5, .ref q6, .int 1, .int 1, .int kd, .long w10, .ref q11, .int mk, .long w13, .long w14]))] H := hP
  have hD : va_D A [(q3, .inl (cI, 800, .inl m3)), (q4, .inl (cI, 800, .inl m4)), (q5, .inl (cI, 800, .inl m5)), (q6, .inl (cI, 2, .inl (jl [nI n, nI n2]))), (mo, .inr (6, [.int 0, .ref q1, .int (nI g), .ref q3, .ref q4, .ref q5, .ref q6, .int 1, .int 1, .int kd, .long w10, .ref q11, .int mk, .long w13, .long w14]))] := hD
  refine lv_if_eq (tgt := 68) hx hb dX6_group_63 (by decide) (fun c_11 => ?_) (fun c_11 => absurd c_11 (by decide))
  refine lv_aload_n hx hb dX6_group_68 rfl (lv_at hl 1 rfl) ?_
  refine lv_iconst (v := 0) hx hb dX6_group_69 (by decide) ?_
  refine lv_aload_n hx hb dX6_group_70 rfl (lv_at hl 1 rfl) ?_
  refine lv_iload_n hx hb dX6_group_71 rfl (lv_at hl 2 rfl) ?_
  refine vp_callSi (va_Run.run (va_runV (As := [.int (nI mm)]) (rest := [.int 0, .ref mo]) ⟨hx, hb, hml, hown, hts⟩ (gM_groupAt_i l D cI cL cQ mo g n n2 q1 q3 q4 q5 q6 q11 0 1 1 kd mk w10 w13 w14 m3 m5 K1 K2 mm (by first | assumption | decide | omega) (by first | assumption | decide | omega) (by first | assumption | decide | omega) (by first | assumption | decide | omega) (by first | assumption | decide | omega) (by first | assumption | decide | omega) (by have := jGn_le (n2 := n2) (K1 := K1) (K2 := K2) n; omega)) (cwV 1 hts gX6_group_X6_groupAt rfl rfl rfl (by decide +kernel) ⟨Nat.le_of_ble_eq_true rfl, Nat.le_of_ble_eq_true rfl⟩) (jr_V hK hN hP [4, 0, 2, 3] rfl 6 4 rfl rfl rfl) rfl rfl hl.1 rfl (lv_room (Nat.le_of_ble_eq_true rfl)) dX6_group_72 ⟨Nat.le_of_ble_eq_true rfl, Nat.le_of_ble_eq_true rfl⟩)) (fun r f_12 => ?_)
  obtain ⟨p9, rfl, f_13, f_14, f_15⟩ := f_12
  refine vp_callSi (va_Run.run (va_runV (As := [.int 0, .int (nI p9)]) (rest := []) ⟨hx, hb, hml, hown, hts⟩ (gM_key_0 l D cI cL cQ mo g q1 q3 q4 q5 q6 q11 0 1 1 kd mk w10 w13 w14 m3 m5 p9 (by first | assumption | decide | omega) (by omega)) (cwV 2 hts gX6_group_X6_key rfl rfl rfl (by decide +kernel) ⟨Nat.le_of_ble_eq_true rfl, Nat.le_of_ble_eq_true rfl⟩) (jr_V hK hN hP [4, 0, 2] rfl 6 4 rfl rfl rfl) rfl rfl hl.1 rfl (lv_room (Nat.le_of_ble_eq_true rfl)) dX6_group_75 ⟨Nat.le_of_ble_eq_true rfl, Nat.le_of_ble_eq_true rfl⟩)) (fun r f_16 => ?_)
  obtain rfl := f_16
  refine lv_istore (lv' := [(4, .int (jmk 0 m3 m5 p9)), (3, .int 1), (0, .ref mo), (1, .int (nI mm)), (2, .int 1)]) hx hb dX6_group_78 hl (by decide) rfl (fun ls hl => ?_)
  refine lv_lconst (v := 0) hx hb dX6_group_80 (by decide) ?_
  refine lv_lstore (lv' := [(5, .long 0), (4, .int (jmk 0 m3 m5 p9)), (3, .int 1), (0, .ref mo), (1, .int (nI mm)), (2, .int 1)]) hx hb dX6_group_81 hl (by decide) rfl (fun ls hl => ?_)
  refine lv_lconst (v := 0) hx hb dX6_group_83 (by decide) ?_
  refine lv_lstore (lv' := [(7, .long 0), (5, .long 0), (4, .int (jmk 0 m3 m5 p9)), (3, .int 1), (0, .ref mo), (1, .int (nI mm)), (2, .int 1)]) hx hb dX6_group_84 hl (by decide) rfl (fun ls hl => ?_)
  refine lv_aload_n hx hb dX6_group_86 rfl (lv_at hl 4 rfl) ?_
  refine lv_ldc2 (v := (9223372036854775807)) hx hb hown (hts (.constantLong RX6 96 (9223372036854775807)) (by decide +kernel)) dX6_group_87 ?_
  refine va_put (D := D) (ci := 6) (v := .long (9223372036854775807)) (ty := .long) (C := RX6) (T := TX6) (N := 15) hx hb hts (by decide +kernel) tyX6 tyX6_ok nmX6 hown hK hP hD hS 4 rfl rfl 13 (by decide) (hts (.fieldLink RX6 98 "JoinDeskModel" "least" "J") (by decide +kernel)) (fun _ h9 => h9) rfl (by decide +kernel) rfl rfl (Nat.le_of_ble_eq_true rfl) dX6_group_90 (fun H locs hP hD hS => ?_)
  have hP : va_P D vwCl [(q3, .inl (cI, 800, .inl m3)), (q4, .inl (cI, 800, .inl m4)), (q5, .inl (cI, 800, .inl m5)), (q6, .inl (cI, 2, .inl (jl [nI n, nI n2]))), (mo, .inr (6, [.int 0, .ref q1, .int (nI g), .ref q3, .ref q4, .ref q5, .ref q6, .int 1, .int 1, .int kd, .long w10, .ref q11, .int mk, .long (9223372036854775807), .long w14]))] H := hP
  have hD : va_D A [(q3, .inl (cI, 800, .inl m3)), (q4, .inl (cI, 800, .inl m4)), (q5, .inl (cI, 800, .inl m5)), (q6, .inl (cI, 2, .inl (jl [nI n, nI n2]))), (mo, .inr (6, [.int 0, .ref q1, .int (nI g), .ref q3, .ref q4, .ref q5, .ref q6, .int 1, .int 1, .int kd, .long w10, .ref q11, .int mk, .long (9223372036854775807), .long w14]))] := hD
  refine lv_aload_n hx hb dX6_group_93 rfl (lv_at hl 4 rfl) ?_
  refine lv_ldc2 (v := (-9223372036854775808)) hx hb hown (hts (.constantLong RX6 101 (-9223372036854775808)) (by decide +kernel)) dX6_group_94 ?_
  refine va_put (D := D) (ci := 6) (v := .long (-9223372036854775808)) (ty := .long) (C := RX6) (T := TX6) (N := 15) hx hb hts (by decide +kernel) tyX6 tyX6_ok nmX6 hown hK hP hD hS 4 rfl rfl 14 (by decide) (hts (.fieldLink RX6 103 "JoinDeskModel" "greatest" "J") (by decide +kernel)) (fun _ h9 => h9) rfl (by decide +kernel) rfl rfl (Nat.le_of_ble_eq_true rfl) dX6_group_97 (fun H locs hP hD hS => ?_)
  have hP : va_P D vwCl [(q3, .inl (cI, 800, .inl m3)), (q4, .inl (cI, 800, .inl m4)), (q5, .inl (cI, 800, .inl m5)), (q6, .inl (cI, 2, .inl (jl [nI n, nI n2]))), (mo, .inr (6, [.int 0, .ref q1, .int (nI g), .ref q3, .ref q4, .ref q5, .ref q6, .int 1, .int 1, .int kd, .long w10, .ref q11, .int mk, .long (9223372036854775807), .long (-9223372036854775808)]))] H := hP
  have hD : va_D A [(q3, .inl (cI, 800, .inl m3)), (q4, .inl (cI, 800, .inl m4)), (q5, .inl (cI, 800, .inl m5)), (q6, .inl (cI, 2, .inl (jl [nI n, nI n2]))), (mo, .inr (6, [.int 0, .ref q1, .int (nI g), .ref q3, .ref q4, .ref q5, .ref q6, .int 1, .int 1, .int kd, .long w10, .ref q11, .int mk, .long (9223372036854775807), .long (-9223372036854775808)]))] := hD
  refine lv_iconst (v := 0) hx hb dX6_group_100 (by decide) ?_
  refine lv_istore (lv' := [(9, .int 0), (7, .long 0), (5, .long 0), (4, .int (jmk 0 m3 m5 p9)), (3, .int 1), (0, .ref mo), (1, .int (nI mm)), (2, .int 1)]) hx hb dX6_group_101 hl (by decide) rfl (fun ls hl => ?_)
  have hP := hP.sub (ws' := [(mo, .inr (6, [.int 0, .ref q1, .int (nI g), .ref q3, .ref q4, .ref q5, .ref q6, .int 1, .int 1, .int kd, .long w10, .ref q11, .int mk, .long (9223372036854775807), .long (-9223372036854775808)])), (q3, .inl (cI, 800, .inl m3)), (q4, .inl (cI, 800, .inl m4)), (q5, .inl (cI, 800, .inl m5)), (q6, .inl (cI, 2, .inl (jl [nI n, nI n2])))]) [4, 0, 1, 2, 3] rfl
  have hD := hD.sub (ws' := [(mo, .inr (6, [.int 0, .ref q1, .int (nI g), .ref q3, .ref q4, .ref q5, .ref q6, .int 1, .int 1, .int kd, .long w10, .ref q11, .int mk, .long (9223372036854775807), .long (-9223372036854775808)])), (q3, .inl (cI, 800, .inl m3)), (q4, .inl (cI, 800, .inl m4)), (q5, .inl (cI, 800, .inl m5)), (q6, .inl (cI, 2, .inl (jl [nI n, nI n2])))]) [4, 0, 1, 2, 3] (by decide) rfl
  have hloop_1 : ∀ (k_1 : Nat) (i : Nat) (u5 : Int64) (u7 : Int64) (ul : Int64) (ug : Int64), n - i < k_1 → (i ≤ n) → (jRw n2 (jsh 0 m3) (jsh 0 m4) (jsh 400 m3) (jsh 400 m4) (jmk 0 m3 m5 p9) i 0 u5 u7 ul ug) → ∀ (H : Heap) (locs : List Loc), va_P D vwCl [(mo, .inr (6, [.int 0, .ref q1, .int (nI g), .ref q3, .ref q4, .ref q5, .ref q6, .int 1, .int 1, .int kd, .long w10, .ref q11, .int mk, .long ul, .long ug])), (q3, .inl (cI, 800, .inl m3)), (q4, .inl (cI, 800, .inl m4)), (q5, .inl (cI, 800, .inl m5)), (q6, .inl (cI, 2, .inl (jl [nI n, nI n2])))] H → va_D A [(mo, .inr (6, [.int 0, .ref q1, .int (nI g), .ref q3, .ref q4, .ref q5, .ref q6, .int 1, .int 1, .int kd, .long w10, .ref q11, .int mk, .long ul, .long ug])), (q3, .inl (cI, 800, .inl m3)), (q4, .inl (cI, 800, .inl m4)), (q5, .inl (cI, 800, .inl m5)), (q6, .inl (cI, 2, .inl (jl [nI n, nI n2])))] → va_S A s.heap H locs → ∀ ls : Array Slot, lv_has ls 13 [(0, .ref mo), (1, .int (nI mm)), (2, .int 1), (3, .int 1), (4, .int (jmk 0 m3 m5 p9)), (5, .long u5), (7, .long u7), (9, .int (nI i))] → W p l e (headSpec wsX6_group ({ frames := 2, cells := 0, slots := 0, locals := 48 })).room s m #[.ref mo, .int (nI mm), .int 1] below meth c H locs 0 0 (MQ below (va_Ql (fun (r : Int64) (u : va_W) => ∃ (p9 : Nat) (f0 : Int64) (f1 : Int64) (f2 : Int64) (f3 : Int64) (f4 : Int64), r = f1 ∧ u = [(mo, .inr (6, [.int 0, .ref q1, .int (nI g), .ref q3, .ref q4, .ref q5, .ref q6, .int 1, .int 1, .int kd, .long w10, .ref q11, .int mk, .long f3, .long f4])), (q3, .inl (cI, 800, .inl m3)), (q4, .inl (cI, 800, .inl m4)), (q5, .inl (cI, 800, .inl m5)), (q6, .inl (cI, 2, .inl (jl [nI n, nI n2])))] ∧ (p9 < n) ∧ (jGb n2 K1 K2 p9 = true) ∧ (jGn n2 K1 K2 p9 = mm) ∧ (jGf n n2 (jsh 0 m3) (jsh 0 m4) (jsh 400 m3) (jsh 400 m4) (K1 p9) f0 f1 f2 f3 f4)) (jw_B D vwCl A (fun u : va_W => u)) A) #[.ref mo, .int (nI mm), .int 1] s 0 0 A) (F0 m 103 ls []) := by
    intro k_1
    induction k_1 with
    | zero => exact fun _ _ _ _ _ hm => absurd hm (Nat.not_lt_zero _)
    | succ k_1 ih_1 =>
      intro i u5 u7 ul ug hm1 hi hrw H locs hP hD hS ls hl
      refine lv_iload hx hb dX6_group_103 (lv_at hl 7 rfl) ?_
      refine lv_aload_n hx hb dX6_group_105 rfl (lv_at hl 0 rfl) ?_
      refine va_get (D := D) (ci := 6) (v := .ref q6) (C := RX6) (T := TX6) (N := 15) hx hb hts (by decide +kernel) hown hK hP 0 rfl rfl 6 (by decide) (hts (.fieldLink RX6 22 "JoinDeskModel" "many" "[I") (by decide +kernel)) (fun _ h9 => h9) rfl dX6_group_106 ?_
      refine lv_iconst (v := 0) hx hb dX6_group_109 (by decide) ?_
      refine va_iald hx hb hK hP 4 0 rfl rfl (by unfold vp_in; decide) dX6_group_110 ?_
      refine W.eq (g2 := F0 m 111 ls [.int (nI n), .int (nI i)]) rfl ?_
      refine lv_icmp_ge (tgt := 250) hx hb dX6_group_111 (by decide) (fun cga => ?_) (fun cga => ?_)
      · refine lv_iload_n hx hb dX6_group_250 rfl (lv_at hl 2 rfl) ?_
        refine lv_if_ne (tgt := 260) hx hb dX6_group_251 (by decide) (fun c_17 => ?_) (fun c_17 => absurd c_17 (by decide))
        refine lv_iload_n hx hb dX6_group_260 rfl (lv_at hl 2 rfl) ?_
        refine lv_iconst (v := 1) hx hb dX6_group_261 (by decide) ?_
        refine lv_icmp_ne (tgt := 270) hx hb dX6_group_262 (by decide) (fun c_18 => absurd c_18 (by decide)) (fun c_18 => ?_)
        refine lv_lload hx hb dX6_group_265 (lv_at hl 6 rfl) ?_
        refine lv_goto (tgt := 296) hx hb dX6_group_267 (by decide) ?_
        refine W.widen (k := 0) (n := 0) (by omega) (by omega) ?_
        exact W.lret (v := u7) hx hb hr (fun t ht hW => ⟨⟨u7, [(mo, .inr (6, [.int 0, .ref q1, .int (nI g), .ref q3, .ref q4, .ref q5, .ref q6, .int 1, .int 1, .int kd, .long w10, .ref q11, .int mk, .long ul, .long ug])), (q3, .inl (cI, 800, .inl m3)), (q4, .inl (cI, 800, .inl m4)), (q5, .inl (cI, 800, .inl m5)), (q6, .inl (cI, 2, .inl (jl [nI n, nI n2])))], rfl, (⟨p9, (jmk 0 m3 m5 p9).toInt64, u7, u5, ul, ug, rfl, rfl, f_13, f_14, f_15, by rw [← hk1 p9 f_13]; exact jrw_fin (by have h := hrw; rw [show i = n by rw [nI_leI (by omega) (by omega)] at cga; omega] at h; exact h) (hro p9 f_13) (jCt_pos (by rw [hct, hk1 p9 f_13]; exact (jgb_1 f_14).2))⟩), by rw [ht]; exact hP, hD⟩, hS.F ht⟩) hS.2.2 dX6_group_296
      · refine lv_iconst (v := 0) hx hb dX6_group_114 (by decide) ?_
        refine lv_istore (lv' := [(10, .int 0), (0, .ref mo), (1, .int (nI mm)), (2, .int 1), (3, .int 1), (4, .int (jmk 0 m3 m5 p9)), (5, .long u5), (7, .long u7), (9, .int (nI i))]) hx hb dX6_group_115 hl (by decide) rfl (fun ls hl => ?_)
        have hloop_2 : ∀ (k_2 : Nat) (j : Nat) (v5 : Int64) (v7 : Int64) (vl : Int64) (vg : Int64), n2 - j < k_2 → (j ≤ n2) → (jRw n2 (jsh 0 m3) (jsh 0 m4) (jsh 400 m3) (jsh 400 m4) (jmk 0 m3 m5 p9) i j v5 v7 vl vg) → ∀ (H : Heap) (locs : List Loc), va_P D vwCl [(mo, .inr (6, [.int 0, .ref q1, .int (nI g), .ref q3, .ref q4, .ref q5, .ref q6, .int 1, .int 1, .int kd, .long w10, .ref q11, .int mk, .long vl, .long vg])), (q3, .inl (cI, 800, .inl m3)), (q4, .inl (cI, 800, .inl m4)), (q5, .inl (cI, 800, .inl m5)), (q6, .inl (cI, 2, .inl (jl [nI n, nI n2])))] H → va_D A [(mo, .inr (6, [.int 0, .ref q1, .int (nI g), .ref q3, .ref q4, .ref q5, .ref q6, .int 1, .int 1, .int kd, .long w10, .ref q11, .int mk, .long vl, .long vg])), (q3, .inl (cI, 800, .inl m3)), (q4, .inl (cI, 800, .inl m4)), (q5, .inl (cI, 800, .inl m5)), (q6, .inl (cI, 2, .inl (jl [nI n, nI n2])))] → va_S A s.heap H locs → ∀ ls : Array Slot, lv_has ls 13 [(0, .ref mo), (1, .int (nI mm)), (2, .int 1), (3, .int 1), (4, .int (jmk 0 m3 m5 p9)), (5, .long v5), (7, .long v7), (9, .int (nI i)), (10, .int (nI j))] → W p l e (headSpec wsX6_group ({ frames := 2, cells := 0, slots := 0, locals := 48 })).room s m #[.ref mo, .int (nI mm), .int 1] below meth c H locs 0 0 (MQ below (va_Ql (fun (r : Int64) (u : va_W) => ∃ (p9 : Nat) (f0 : Int64) (f1 : Int64) (f2 : Int64) (f3 : Int64) (f4 : Int64), r = f1 ∧ u = [(mo, .inr (6, [.int 0, .ref q1, .int (nI g), .ref q3, .ref q4, .ref q5, .ref q6, .int 1, .int 1, .int kd, .long w10, .ref q11, .int mk, .long f3, .long f4])), (q3, .inl (cI, 800, .inl m3)), (q4, .inl (cI, 800, .inl m4)), (q5, .inl (cI, 800, .inl m5)), (q6, .inl (cI, 2, .inl (jl [nI n, nI n2])))] ∧ (p9 < n) ∧ (jGb n2 K1 K2 p9 = true) ∧ (jGn n2 K1 K2 p9 = mm) ∧ (jGf n n2 (jsh 0 m3) (jsh 0 m4) (jsh 400 m3) (jsh 400 m4) (K1 p9) f0 f1 f2 f3 f4)) (jw_B D vwCl A (fun u : va_W => u)) A) #[.ref mo, .int (nI mm), .int 1] s 0 0 A) (F0 m 117 ls []) := by
          intro k_2
          induction k_2 with
          | zero => exact fun _ _ _ _ _ hm => absurd hm (Nat.not_lt_zero _)
          | succ k_2 ih_2 =>
            intro j v5 v7 vl vg hm2 hj hrw2 H locs hP hD hS ls hl
            refine lv_iload hx hb dX6_group_117 (lv_at hl 8 rfl) ?_
            refine lv_aload_n hx hb dX6_group_119 rfl (lv_at hl 0 rfl) ?_
            refine va_get (D := D) (ci := 6) (v := .ref q6) (C := RX6) (T := TX6) (N := 15) hx hb hts (by decide +kernel) hown hK hP 0 rfl rfl 6 (by decide) (hts (.fieldLink RX6 22 "JoinDeskModel" "many" "[I") (by decide +kernel)) (fun _ h9 => h9) rfl dX6_group_120 ?_
            refine lv_iconst (v := 1) hx hb dX6_group_123 (by decide) ?_
            refine va_iald hx hb hK hP 4 0 rfl rfl (by unfold vp_in; decide) dX6_group_124 ?_
            refine W.eq (g2 := F0 m 125 ls [.int (nI n2), .int (nI j)]) rfl ?_
            refine lv_icmp_ge (tgt := 244) hx hb dX6_group_125 (by decide) (fun cgb => ?_) (fun cgb => ?_)
            · refine lv_iinc (v := nI (i + 1)) (lv' := [(9, .int (nI (i + 1))), (0, .ref mo), (1, .int (nI mm)), (2, .int 1), (3, .int 1), (4, .int (jmk 0 m3 m5 p9)), (5, .long v5), (7, .long v7), (10, .int (nI j))]) hx hb dX6_group_244 hl (k := 7) rfl (nI_1 _) (by decide) rfl (fun ls hl => ?_)
              refine lv_goto (tgt := 103) hx hb dX6_group_247 (by decide) ?_
              exact ih_1 (i + 1) v5 v7 vl vg (by rw [nI_leI (by omega) (by omega)] at cga; omega) (by rw [nI_leI (by omega) (by omega)] at cga; omega) (jrw_out hrw2 (Or.inl (by rw [nI_leI (by omega) (by omega)] at cgb; omega))) _ _ hP hD hS ls (lv_sub hl [1, 2, 3, 4, 5, 6, 7, 0] rfl)
            · refine lv_aload_n hx hb dX6_group_128 rfl (lv_at hl 0 rfl) ?_
              refine va_get (D := D) (ci := 6) (v := .ref q3) (C := RX6) (T := TX6) (N := 15) hx hb hts (by decide +kernel) hown hK hP 0 rfl rfl 3 (by decide) (hts (.fieldLink RX6 13 "JoinDeskModel" "keys" "[I") (by decide +kernel)) (fun _ h9 => h9) rfl dX6_group_129 ?_
              refine lv_iload hx hb dX6_group_132 (lv_at hl 7 rfl) ?_
              refine va_iald hx hb hK hP 1 0 rfl rfl (vp_in_nI (show i < 800 by rw [nI_leI (by omega) (by omega)] at cga; omega) (by omega)) dX6_group_134 ?_
              refine lv_iload hx hb dX6_group_135 (lv_at hl 4 rfl) ?_
              refine lv_icmp_ne (tgt := 244) hx hb dX6_group_137 (by decide) (fun ckx => ?_) (fun ckx => ?_)
              · refine lv_iinc (v := nI (i + 1)) (lv' := [(9, .int (nI (i + 1))), (0, .ref mo), (1, .int (nI mm)), (2, .int 1), (3, .int 1), (4, .int (jmk 0 m3 m5 p9)), (5, .long v5), (7, .long v7), (10, .int (nI j))]) hx hb dX6_group_244 hl (k := 7) rfl (nI_1 _) (by decide) rfl (fun ls hl => ?_)
                refine lv_goto (tgt := 103) hx hb dX6_group_247 (by decide) ?_
                exact ih_1 (i + 1) v5 v7 vl vg (by rw [nI_leI (by omega) (by omega)] at cga; omega) (by rw [nI_leI (by omega) (by omega)] at cga; omega) (jrw_out hrw2 (Or.inr (by rw [jsh0 (m := m3) (i := i) (by omega)] at ckx; exact ckx))) _ _ hP hD hS ls (lv_sub hl [1, 2, 3, 4, 5, 6, 7, 0] rfl)
              · refine lv_aload_n hx hb dX6_group_140 rfl (lv_at hl 0 rfl) ?_
                refine va_get (D := D) (ci := 6) (v := .ref q3) (C := RX6) (T := TX6) (N := 15) hx hb hts (by decide +kernel) hown hK hP 0 rfl rfl 3 (by decide) (hts (.fieldLink RX6 13 "JoinDeskModel" "keys" "[I") (by decide +kernel)) (fun _ h9 => h9) rfl dX6_group_141 ?_
                refine lv_sipush (v := 400) hx hb dX6_group_144 (by decide) ?_
                refine lv_iload hx hb dX6_group_147 (lv_at hl 8 rfl) ?_
                refine lv_iadd hx hb dX6_group_149 ?_
                refine lv_topi (fun z_19 e_z_19 => ?_)
                obtain rfl : z_19 = nI (400 + j) := e_z_19.trans (nI_add 400 j)
                refine va_iald hx hb hK hP 1 0 rfl rfl (vp_in_nI (show 400 + j < 800 by rw [nI_leI (by omega) (by omega)] at cgb; omega) (by omega)) dX6_group_150 ?_
                refine lv_iload hx hb dX6_group_151 (lv_at hl 4 rfl) ?_
                refine lv_icmp_ne (tgt := 238) hx hb dX6_group_153 (by decide) (fun cky => ?_) (fun cky => ?_)
                · refine lv_iinc (v := nI (j + 1)) (lv' := [(10, .int (nI (j + 1))), (0, .ref mo), (1, .int (nI mm)), (2, .int 1), (3, .int 1), (4, .int (jmk 0 m3 m5 p9)), (5, .long v5), (7, .long v7), (9, .int (nI i))]) hx hb dX6_group_238 hl (k := 8) rfl (nI_1 _) (by decide) rfl (fun ls hl => ?_)
                  refine lv_goto (tgt := 117) hx hb dX6_group_241 (by decide) ?_
                  exact ih_2 (j + 1) v5 v7 vl vg (by rw [nI_leI (by omega) (by omega)] at cgb; omega) (by rw [nI_leI (by omega) (by omega)] at cgb; omega) (jrw_skip hrw2 (by rw [nI_leI (by omega) (by omega)] at cgb; omega) (by rw [jsh0 (m := m3) (i := i) (by omega)] at ckx; exact ckx) (by rw [jsh4 (m := m3) (i := j) (by rw [nI_leI (by omega) (by omega)] at cgb; omega)] at cky; exact cky)) _ _ hP hD hS ls (lv_sub hl [1, 2, 3, 4, 5, 6, 7, 8, 0] rfl)
                · refine lv_aload_n hx hb dX6_group_156 rfl (lv_at hl 0 rfl) ?_
                  refine va_get (D := D) (ci := 6) (v := .ref q4) (C := RX6) (T := TX6) (N := 15) hx hb hts (by decide +kernel) hown hK hP 0 rfl rfl 4 (by decide) (hts (.fieldLink RX6 16 "JoinDeskModel" "values" "[I") (by decide +kernel)) (fun _ h9 => h9) rfl dX6_group_157 ?_
                  refine lv_iload hx hb dX6_group_160 (lv_at hl 7 rfl) ?_
                  refine va_iald hx hb hK hP 2 0 rfl rfl (vp_in_nI (show i < 800 by rw [nI_leI (by omega) (by omega)] at cga; omega) (by omega)) dX6_group_162 ?_
                  refine lv_i2l (v := (m4 (nI i).toNatClampNeg).toInt64) hx hb dX6_group_163 (by first | rfl | decide) ?_
                  refine lv_aload_n hx hb dX6_group_164 rfl (lv_at hl 0 rfl) ?_
                  refine va_get (D := D) (ci := 6) (v := .ref q4) (C := RX6) (T := TX6) (N := 15) hx hb hts (by decide +kernel) hown hK hP 0 rfl rfl 4 (by decide) (hts (.fieldLink RX6 16 "JoinDeskModel" "values" "[I") (by decide +kernel)) (fun _ h9 => h9) rfl dX6_group_165 ?_
                  refine lv_sipush (v := 400) hx hb dX6_group_168 (by decide) ?_
                  refine lv_iload hx hb dX6_group_171 (lv_at hl 8 rfl) ?_
                  refine lv_iadd hx hb dX6_group_173 ?_
                  refine lv_topi (fun z_20 e_z_20 => ?_)
                  obtain rfl : z_20 = nI (400 + j) := e_z_20.trans (nI_add 400 j)
                  refine va_iald hx hb hK hP 2 0 rfl rfl (vp_in_nI (show 400 + j < 800 by rw [nI_leI (by omega) (by omega)] at cgb; omega) (by omega)) dX6_group_174 ?_
                  refine lv_i2l (v := (m4 (nI (400 + j)).toNatClampNeg).toInt64) hx hb dX6_group_175 (by first | rfl | decide) ?_
                  refine lv_lmul hx hb dX6_group_176 ?_
                  refine lv_lstore (lv' := [(11, .long (((m4 (nI i).toNatClampNeg).toInt64) * ((m4 (nI (400 + j)).toNatClampNeg).toInt64))), (0, .ref mo), (1, .int (nI mm)), (2, .int 1), (3, .int 1), (4, .int (jmk 0 m3 m5 p9)), (5, .long v5), (7, .long v7), (9, .int (nI i)), (10, .int (nI j))]) hx hb dX6_group_177 hl (by decide) rfl (fun ls hl => ?_)
                  refine lv_lload hx hb dX6_group_179 (lv_at hl 6 rfl) ?_
                  refine lv_lload hx hb dX6_group_181 (lv_at hl 0 rfl) ?_
                  refine lv_ladd hx hb dX6_group_183 ?_
                  refine lv_lstore (lv' := [(5, .long (v5 + (((m4 (nI i).toNatClampNeg).toInt64) * ((m4 (nI (400 + j)).toNatClampNeg).toInt64)))), (11, .long (((m4 (nI i).toNatClampNeg).toInt64) * ((m4 (nI (400 + j)).toNatClampNeg).toInt64))), (0, .ref mo), (1, .int (nI mm)), (2, .int 1), (3, .int 1), (4, .int (jmk 0 m3 m5 p9)), (7, .long v7), (9, .int (nI i)), (10, .int (nI j))]) hx hb dX6_group_184 hl (by decide) rfl (fun ls hl => ?_)
                  refine lv_lload hx hb dX6_group_186 (lv_at hl 7 rfl) ?_
                  refine lv_lconst (v := 1) hx hb dX6_group_188 (by decide) ?_
                  refine lv_ladd hx hb dX6_group_189 ?_
                  refine lv_lstore (lv' := [(7, .long (v7 + 1)), (5, .long (v5 + (((m4 (nI i).toNatClampNeg).toInt64) * ((m4 (nI (400 + j)).toNatClampNeg).toInt64)))), (11, .long (((m4 (nI i).toNatClampNeg).toInt64) * ((m4 (nI (400 + j)).toNatClampNeg).toInt64))), (0, .ref mo), (1, .int (nI mm)), (2, .int 1), (3, .int 1), (4, .int (jmk 0 m3 m5 p9)), (9, .int (nI i)), (10, .int (nI j))]) hx hb dX6_group_190 hl (by decide) rfl (fun ls hl => ?_)
                  refine lv_aload_n hx hb dX6_group_192 rfl (lv_at hl 3 rfl) ?_
                  refine lv_lload hx hb dX6_group_193 (lv_at hl 2 rfl) ?_
                  refine lv_aload_n hx hb dX6_group_195 rfl (lv_at hl 3 rfl) ?_
                  refine va_get (D := D) (ci := 6) (v := .long vl) (C := RX6) (T := TX6) (N := 15) hx hb hts (by decide +kernel) hown hK hP 0 rfl rfl 13 (by decide) (hts (.fieldLink RX6 98 "JoinDeskModel" "least" "J") (by decide +kernel)) (fun _ h9 => h9) rfl dX6_group_196 ?_
                  refine W.lcmp hx hb dX6_group_199 ?_
                  refine lv_topi (fun z_21 e_z_21 => ?_)
                  refine lv_if_ge (tgt := 208) hx hb dX6_group_200 (by decide) (fun cl1 => ?_) (fun cl1 => ?_)
                  · refine lv_aload_n hx hb dX6_group_208 rfl (lv_at hl 3 rfl) ?_
                    refine va_get (D := D) (ci := 6) (v := .long vl) (C := RX6) (T := TX6) (N := 15) hx hb hts (by decide +kernel) hown hK hP 0 rfl rfl 13 (by decide) (hts (.fieldLink RX6 98 "JoinDeskModel" "least" "J") (by decide +kernel)) (fun _ h9 => h9) rfl dX6_group_209 ?_
                    refine va_put (D := D) (ci := 6) (v := .long vl) (ty := .long) (C := RX6) (T := TX6) (N := 15) hx hb hts (by decide +kernel) tyX6 tyX6_ok nmX6 hown hK hP hD hS 0 rfl rfl 13 (by decide) (hts (.fieldLink RX6 98 "JoinDeskModel" "least" "J") (by decide +kernel)) (fun _ h9 => h9) rfl (by decide +kernel) rfl rfl (Nat.le_of_ble_eq_true rfl) dX6_group_212 (fun H locs hP hD hS => ?_)
                    have hP : va_P D vwCl [(mo, .inr (6, [.int 0, .ref q1, .int (nI g), .ref q3, .ref q4, .ref q5, .ref q6, .int 1, .int 1, .int kd, .long w10, .ref q11, .int mk, .long vl, .long vg])), (q3, .inl (cI, 800, .inl m3)), (q4, .inl (cI, 800, .inl m4)), (q5, .inl (cI, 800, .inl m5)), (q6, .inl (cI, 2, .inl (jl [nI n, nI n2])))] H := hP
                    have hD : va_D A [(mo, .inr (6, [.int 0, .ref q1, .int (nI g), .ref q3, .ref q4, .ref q5, .ref q6, .int 1, .int 1, .int kd, .long w10, .ref q11, .int mk, .long vl, .long vg])), (q3, .inl (cI, 800, .inl m3)), (q4, .inl (cI, 800, .inl m4)), (q5, .inl (cI, 800, .inl m5)), (q6, .inl (cI, 2, .inl (jl [nI n, nI n2])))] := hD
                    refine lv_aload_n hx hb dX6_group_215 rfl (lv_at hl 3 rfl) ?_
                    refine lv_lload hx hb dX6_group_216 (lv_at hl 2 rfl) ?_
                    refine lv_aload_n hx hb dX6_group_218 rfl (lv_at hl 3 rfl) ?_
                    refine va_get (D := D) (ci := 6) (v := .long vg) (C := RX6) (T := TX6) (N := 15) hx hb hts (by decide +kernel) hown hK hP 0 rfl rfl 14 (by decide) (hts (.fieldLink RX6 103 "JoinDeskModel" "greatest" "J") (by decide +kernel)) (fun _ h9 => h9) rfl dX6_group_219 ?_
                    refine W.lcmp hx hb dX6_group_222 ?_
                    refine lv_topi (fun z_22 e_z_22 => ?_)
                    refine lv_if_le (tgt := 231) hx hb dX6_group_223 (by decide) (fun cl2 => ?_) (fun cl2 => ?_)
                    · refine lv_aload_n hx hb dX6_group_231 rfl (lv_at hl 3 rfl) ?_
                      refine va_get (D := D) (ci := 6) (v := .long vg) (C := RX6) (T := TX6) (N := 15) hx hb hts (by decide +kernel) hown hK hP 0 rfl rfl 14 (by decide) (hts (.fieldLink RX6 103 "JoinDeskModel" "greatest" "J") (by decide +kernel)) (fun _ h9 => h9) rfl dX6_group_232 ?_
                      refine va_put (D := D) (ci := 6) (v := .long vg) (ty := .long) (C := RX6) (T := TX6) (N := 15) hx hb hts (by decide +kernel) tyX6 tyX6_ok nmX6 hown hK hP hD hS 0 rfl rfl 14 (by decide) (hts (.fieldLink RX6 103 "JoinDeskModel" "greatest" "J") (by decide +kernel)) (fun _ h9 => h9) rfl (by decide +kernel) rfl rfl (Nat.le_of_ble_eq_true rfl) dX6_group_235 (fun H locs hP hD hS => ?_)
                      have hP : va_P D vwCl [(mo, .inr (6, [.int 0, .ref q1, .int (nI g), .ref q3, .ref q4, .ref q5, .ref q6, .int 1, .int 1, .int kd, .long w10, .ref q11, .int mk, .long vl, .long vg])), (q3, .inl (cI, 800, .inl m3)), (q4, .inl (cI, 800, .inl m4)), (q5, .inl (cI, 800, .inl m5)), (q6, .inl (cI, 2, .inl (jl [nI n, nI n2])))] H := hP
                      have hD : va_D A [(mo, .inr (6, [.int 0, .ref q1, .int (nI g), .ref q3, .ref q4, .ref q5, .ref q6, .int 1, .int 1, .int kd, .long w10, .ref q11, .int mk, .long vl, .long vg])), (q3, .inl (cI, 800, .inl m3)), (q4, .inl (cI, 800, .inl m4)), (q5, .inl (cI, 800, .inl m5)), (q6, .inl (cI, 2, .inl (jl [nI n, nI n2])))] := hD
                      refine lv_iinc (v := nI (j + 1)) (lv' := [(10, .int (nI (j + 1))), (7, .long (v7 + 1)), (5, .long (v5 + (((m4 (nI i).toNatClampNeg).toInt64) * ((m4 (nI (400 + j)).toNatClampNeg).toInt64)))), (11, .long (((m4 (nI i).toNatClampNeg).toInt64) * ((m4 (nI (400 + j)).toNatClampNeg).toInt64))), (0, .ref mo), (1, .int (nI mm)), (2, .int 1), (3, .int 1), (4, .int (jmk 0 m3 m5 p9)), (9, .int (nI i))]) hx hb dX6_group_238 hl (k := 9) rfl (nI_1 _) (by decide) rfl (fun ls hl => ?_)
                      refine lv_goto (tgt := 117) hx hb dX6_group_241 (by decide) ?_
                      exact ih_2 (j + 1) (v5 + (((m4 (nI i).toNatClampNeg).toInt64) * ((m4 (nI (400 + j)).toNatClampNeg).toInt64))) (v7 + 1) vl vg (by rw [nI_leI (by omega) (by omega)] at cgb; omega) (by rw [nI_leI (by omega) (by omega)] at cgb; omega) (by rw [jsh0 (m := m4) (i := i) (by omega), jsh4 (m := m4) (i := j) (by rw [nI_leI (by omega) (by omega)] at cgb; omega)] at e_z_21 e_z_22 ⊢; exact jrw_hit hrw2 (by rw [nI_leI (by omega) (by omega)] at cgb; omega) (by rw [jsh0 (m := m3) (i := i) (by omega)] at ckx; exact ckx) (by rw [jsh4 (m := m3) (i := j) (by rw [nI_leI (by omega) (by omega)] at cgb; omega)] at cky; exact cky) (Or.inl ⟨rfl, jlc_ge e_z_21 cl1⟩) (Or.inl ⟨rfl, jlc_le e_z_22 cl2⟩)) _ _ hP hD hS ls (lv_sub hl [4, 5, 6, 7, 8, 2, 1, 9, 0] rfl)
                    · refine lv_lload hx hb dX6_group_226 (lv_at hl 2 rfl) ?_
                      refine lv_goto (tgt := 235) hx hb dX6_group_228 (by decide) ?_
                      refine va_put (D := D) (ci := 6) (v := .long (((m4 (nI i).toNatClampNeg).toInt64) * ((m4 (nI (400 + j)).toNatClampNeg).toInt64))) (ty := .long) (C := RX6) (T := TX6) (N := 15) hx hb hts (by decide +kernel) tyX6 tyX6_ok nmX6 hown hK hP hD hS 0 rfl rfl 14 (by decide) (hts (.fieldLink RX6 103 "JoinDeskModel" "greatest" "J") (by decide +kernel)) (fun _ h9 => h9) rfl (by decide +kernel) rfl rfl (Nat.le_of_ble_eq_true rfl) dX6_group_235 (fun H locs hP hD hS => ?_)
                      have hP : va_P D vwCl [(mo, .inr (6, [.int 0, .ref q1, .int (nI g), .ref q3, .ref q4, .ref q5, .ref q6, .int 1, .int 1, .int kd, .long w10, .ref q11, .int mk, .long vl, .long (((m4 (nI i).toNatClampNeg).toInt64) * ((m4 (nI (400 + j)).toNatClampNeg).toInt64))])), (q3, .inl (cI, 800, .inl m3)), (q4, .inl (cI, 800, .inl m4)), (q5, .inl (cI, 800, .inl m5)), (q6, .inl (cI, 2, .inl (jl [nI n, nI n2])))] H := hP
                      have hD : va_D A [(mo, .inr (6, [.int 0, .ref q1, .int (nI g), .ref q3, .ref q4, .ref q5, .ref q6, .int 1, .int 1, .int kd, .long w10, .ref q11, .int mk, .long vl, .long (((m4 (nI i).toNatClampNeg).toInt64) * ((m4 (nI (400 + j)).toNatClampNeg).toInt64))])), (q3, .inl (cI, 800, .inl m3)), (q4, .inl (cI, 800, .inl m4)), (q5, .inl (cI, 800, .inl m5)), (q6, .inl (cI, 2, .inl (jl [nI n, nI n2])))] := hD
                      refine lv_iinc (v := nI (j + 1)) (lv' := [(10, .int (nI (j + 1))), (7, .long (v7 + 1)), (5, .long (v5 + (((m4 (nI i).toNatClampNeg).toInt64) * ((m4 (nI (400 + j)).toNatClampNeg).toInt64)))), (11, .long (((m4 (nI i).toNatClampNeg).toInt64) * ((m4 (nI (400 + j)).toNatClampNeg).toInt64))), (0, .ref mo), (1, .int (nI mm)), (2, .int 1), (3, .int 1), (4, .int (jmk 0 m3 m5 p9)), (9, .int (nI i))]) hx hb dX6_group_238 hl (k := 9) rfl (nI_1 _) (by decide) rfl (fun ls hl => ?_)
                      refine lv_goto (tgt := 117) hx hb dX6_group_241 (by decide) ?_
                      exact ih_2 (j + 1) (v5 + (((m4 (nI i).toNatClampNeg).toInt64) * ((m4 (nI (400 + j)).toNatClampNeg).toInt64))) (v7 + 1) vl (((m4 (nI i).toNatClampNeg).toInt64) * ((m4 (nI (400 + j)).toNatClampNeg).toInt64)) (by rw [nI_leI (by omega) (by omega)] at cgb; omega) (by rw [nI_leI (by omega) (by omega)] at cgb; omega) (by rw [jsh0 (m := m4) (i := i) (by omega), jsh4 (m := m4) (i := j) (by rw [nI_leI (by omega) (by omega)] at cgb; omega)] at e_z_21 e_z_22 ⊢; exact jrw_hit hrw2 (by rw [nI_leI (by omega) (by omega)] at cgb; omega) (by rw [jsh0 (m := m3) (i := i) (by omega)] at ckx; exact ckx) (by rw [jsh4 (m := m3) (i := j) (by rw [nI_leI (by omega) (by omega)] at cgb; omega)] at cky; exact cky) (Or.inl ⟨rfl, jlc_ge e_z_21 cl1⟩) (Or.inr ⟨rfl, jlc_nle e_z_22 cl2⟩)) _ _ hP hD hS ls (lv_sub hl [4, 5, 6, 7, 8, 2, 1, 9, 0] rfl)
                  · refine lv_lload hx hb dX6_group_203 (lv_at hl 2 rfl) ?_
                    refine lv_goto (tgt := 212) hx hb dX6_group_205 (by decide) ?_
                    refine va_put (D := D) (ci := 6) (v := .long (((m4 (nI i).toNatClampNeg).toInt64) * ((m4 (nI (400 + j)).toNatClampNeg).toInt64))) (ty := .long) (C := RX6) (T := TX6) (N := 15) hx hb hts (by decide +kernel) tyX6 tyX6_ok nmX6 hown hK hP hD hS 0 rfl rfl 13 (by decide) (hts (.fieldLink RX6 98 "JoinDeskModel" "least" "J") (by decide +kernel)) (fun _ h9 => h9) rfl (by decide +kernel) rfl rfl (Nat.le_of_ble_eq_true rfl) dX6_group_212 (fun H locs hP hD hS => ?_)
                    have hP : va_P D vwCl [(mo, .inr (6, [.int 0, .ref q1, .int (nI g), .ref q3, .ref q4, .ref q5, .ref q6, .int 1, .int 1, .int kd, .long w10, .ref q11, .int mk, .long (((m4 (nI i).toNatClampNeg).toInt64) * ((m4 (nI (400 + j)).toNatClampNeg).toInt64)), .long vg])), (q3, .inl (cI, 800, .inl m3)), (q4, .inl (cI, 800, .inl m4)), (q5, .inl (cI, 800, .inl m5)), (q6, .inl (cI, 2, .inl (jl [nI n, nI n2])))] H := hP
                    have hD : va_D A [(mo, .inr (6, [.int 0, .ref q1, .int (nI g), .ref q3, .ref q4, .ref q5, .ref q6, .int 1, .int 1, .int kd, .long w10, .ref q11, .int mk, .long (((m4 (nI i).toNatClampNeg).toInt64) * ((m4 (nI (400 + j)).toNatClampNeg).toInt64)), .long vg])), (q3, .inl (cI, 800, .inl m3)), (q4, .inl (cI, 800, .inl m4)), (q5, .inl (cI, 800, .inl m5)), (q6, .inl (cI, 2, .inl (jl [nI n, nI n2])))] := hD
                    refine lv_aload_n hx hb dX6_group_215 rfl (lv_at hl 3 rfl) ?_
                    refine lv_lload hx hb dX6_group_216 (lv_at hl 2 rfl) ?_
                    refine lv_aload_n hx hb dX6_group_218 rfl (lv_at hl 3 rfl) ?_
                    refine va_get (D := D) (ci := 6) (v := .long vg) (C := RX6) (T := TX6) (N := 15) hx hb hts (by decide +kernel) hown hK hP 0 rfl rfl 14 (by decide) (hts (.fieldLink RX6 103 "JoinDeskModel" "greatest" "J") (by decide +kernel)) (fun _ h9 => h9) rfl dX6_group_219 ?_
                    refine W.lcmp hx hb dX6_group_222 ?_
                    refine lv_topi (fun z_23 e_z_23 => ?_)
                    refine lv_if_le (tgt := 231) hx hb dX6_group_223 (by decide) (fun cl2 => ?_) (fun cl2 => ?_)
                    · refine lv_aload_n hx hb dX6_group_231 rfl (lv_at hl 3 rfl) ?_
                      refine va_get (D := D) (ci := 6) (v := .long vg) (C := RX6) (T := TX6) (N := 15) hx hb hts (by decide +kernel) hown hK hP 0 rfl rfl 14 (by decide) (hts (.fieldLink RX6 103 "JoinDeskModel" "greatest" "J") (by decide +kernel)) (fun _ h9 => h9) rfl dX6_group_232 ?_
                      refine va_put (D := D) (ci := 6) (v := .long vg) (ty := .long) (C := RX6) (T := TX6) (N := 15) hx hb hts (by decide +kernel) tyX6 tyX6_ok nmX6 hown hK hP hD hS 0 rfl rfl 14 (by decide) (hts (.fieldLink RX6 103 "JoinDeskModel" "greatest" "J") (by decide +kernel)) (fun _ h9 => h9) rfl (by decide +kernel) rfl rfl (Nat.le_of_ble_eq_true rfl) dX6_group_235 (fun H locs hP hD hS => ?_)
                      have hP : va_P D vwCl [(mo, .inr (6, [.int 0, .ref q1, .int (nI g), .ref q3, .ref q4, .ref q5, .ref q6, .int 1, .int 1, .int kd, .long w10, .ref q11, .int mk, .long (((m4 (nI i).toNatClampNeg).toInt64) * ((m4 (nI (400 + j)).toNatClampNeg).toInt64)), .long vg])), (q3, .inl (cI, 800, .inl m3)), (q4, .inl (cI, 800, .inl m4)), (q5, .inl (cI, 800, .inl m5)), (q6, .inl (cI, 2, .inl (jl [nI n, nI n2])))] H := hP
                      have hD : va_D A [(mo, .inr (6, [.int 0, .ref q1, .int (nI g), .ref q3, .ref q4, .ref q5, .ref q6, .int 1, .int 1, .int kd, .long w10, .ref q11, .int mk, .long (((m4 (nI i).toNatClampNeg).toInt64) * ((m4 (nI (400 + j)).toNatClampNeg).toInt64)), .long vg])), (q3, .inl (cI, 800, .inl m3)), (q4, .inl (cI, 800, .inl m4)), (q5, .inl (cI, 800, .inl m5)), (q6, .inl (cI, 2, .inl (jl [nI n, nI n2])))] := hD
                      refine lv_iinc (v := nI (j + 1)) (lv' := [(10, .int (nI (j + 1))), (7, .long (v7 + 1)), (5, .long (v5 + (((m4 (nI i).toNatClampNeg).toInt64) * ((m4 (nI (400 + j)).toNatClampNeg).toInt64)))), (11, .long (((m4 (nI i).toNatClampNeg).toInt64) * ((m4 (nI (400 + j)).toNatClampNeg).toInt64))), (0, .ref mo), (1, .int (nI mm)), (2, .int 1), (3, .int 1), (4, .int (jmk 0 m3 m5 p9)), (9, .int (nI i))]) hx hb dX6_group_238 hl (k := 9) rfl (nI_1 _) (by decide) rfl (fun ls hl => ?_)
                      refine lv_goto (tgt := 117) hx hb dX6_group_241 (by decide) ?_
                      exact ih_2 (j + 1) (v5 + (((m4 (nI i).toNatClampNeg).toInt64) * ((m4 (nI (400 + j)).toNatClampNeg).toInt64))) (v7 + 1) (((m4 (nI i).toNatClampNeg).toInt64) * ((m4 (nI (400 + j)).toNatClampNeg).toInt64)) vg (by rw [nI_leI (by omega) (by omega)] at cgb; omega) (by rw [nI_leI (by omega) (by omega)] at cgb; omega) (by rw [jsh0 (m := m4) (i := i) (by omega), jsh4 (m := m4) (i := j) (by rw [nI_leI (by omega) (by omega)] at cgb; omega)] at e_z_21 e_z_23 ⊢; exact jrw_hit hrw2 (by rw [nI_leI (by omega) (by omega)] at cgb; omega) (by rw [jsh0 (m := m3) (i := i) (by omega)] at ckx; exact ckx) (by rw [jsh4 (m := m3) (i := j) (by rw [nI_leI (by omega) (by omega)] at cgb; omega)] at cky; exact cky) (Or.inr ⟨rfl, jlc_nge e_z_21 cl1⟩) (Or.inl ⟨rfl, jlc_le e_z_23 cl2⟩)) _ _ hP hD hS ls (lv_sub hl [4, 5, 6, 7, 8, 2, 1, 9, 0] rfl)
                    · refine lv_lload hx hb dX6_group_226 (lv_at hl 2 rfl) ?_
                      refine lv_goto (tgt := 235) hx hb dX6_group_228 (by decide) ?_
                      refine va_put (D := D) (ci := 6) (v := .long (((m4 (nI i).toNatClampNeg).toInt64) * ((m4 (nI (400 + j)).toNatClampNeg).toInt64))) (ty := .long) (C := RX6) (T := TX6) (N := 15) hx hb hts (by decide +kernel) tyX6 tyX6_ok nmX6 hown hK hP hD hS 0 rfl rfl 14 (by decide) (hts (.fieldLink RX6 103 "JoinDeskModel" "greatest" "J") (by decide +kernel)) (fun _ h9 => h9) rfl (by decide +kernel) rfl rfl (Nat.le_of_ble_eq_true rfl) dX6_group_235 (fun H locs hP hD hS => ?_)
                      have hP : va_P D vwCl [(mo, .inr (6, [.int 0, .ref q1, .int (nI g), .ref q3, .ref q4, .ref q5, .ref q6, .int 1, .int 1, .int kd, .long w10, .ref q11, .int mk, .long (((m4 (nI i).toNatClampNeg).toInt64) * ((m4 (nI (400 + j)).toNatClampNeg).toInt64)), .long (((m4 (nI i).toNatClampNeg).toInt64) * ((m4 (nI (400 + j)).toNatClampNeg).toInt64))])), (q3, .inl (cI, 800, .inl m3)), (q4, .inl (cI, 800, .inl m4)), (q5, .inl (cI, 800, .inl m5)), (q6, .inl (cI, 2, .inl (jl [nI n, nI n2])))] H := hP
                      have hD : va_D A [(mo, .inr (6, [.int 0, .ref q1, .int (nI g), .ref q3, .ref q4, .ref q5, .ref q6, .int 1, .int 1, .int kd, .long w10, .ref q11, .int mk, .long (((m4 (nI i).toNatClampNeg).toInt64) * ((m4 (nI (400 + j)).toNatClampNeg).toInt64)), .long (((m4 (nI i).toNatClampNeg).toInt64) * ((m4 (nI (400 + j)).toNatClampNeg).toInt64))])), (q3, .inl (cI, 800, .inl m3)), (q4, .inl (cI, 800, .inl m4)), (q5, .inl (cI, 800, .inl m5)), (q6, .inl (cI, 2, .inl (jl [nI n, nI n2])))] := hD
                      refine lv_iinc (v := nI (j + 1)) (lv' := [(10, .int (nI (j + 1))), (7, .long (v7 + 1)), (5, .long (v5 + (((m4 (nI i).toNatClampNeg).toInt64) * ((m4 (nI (400 + j)).toNatClampNeg).toInt64)))), (11, .long (((m4 (nI i).toNatClampNeg).toInt64) * ((m4 (nI (400 + j)).toNatClampNeg).toInt64))), (0, .ref mo), (1, .int (nI mm)), (2, .int 1), (3, .int 1), (4, .int (jmk 0 m3 m5 p9)), (9, .int (nI i))]) hx hb dX6_group_238 hl (k := 9) rfl (nI_1 _) (by decide) rfl (fun ls hl => ?_)
                      refine lv_goto (tgt := 117) hx hb dX6_group_241 (by decide) ?_
                      exact ih_2 (j + 1) (v5 + (((m4 (nI i).toNatClampNeg).toInt64) * ((m4 (nI (400 + j)).toNatClampNeg).toInt64))) (v7 + 1) (((m4 (nI i).toNatClampNeg).toInt64) * ((m4 (nI (400 + j)).toNatClampNeg).toInt64)) (((m4 (nI i).toNatClampNeg).toInt64) * ((m4 (nI (400 + j)).toNatClampNeg).toInt64)) (by rw [nI_leI (by omega) (by omega)] at cgb; omega) (by rw [nI_leI (by omega) (by omega)] at cgb; omega) (by rw [jsh0 (m := m4) (i := i) (by omega), jsh4 (m := m4) (i := j) (by rw [nI_leI (by omega) (by omega)] at cgb; omega)] at e_z_21 e_z_23 ⊢; exact jrw_hit hrw2 (by rw [nI_leI (by omega) (by omega)] at cgb; omega) (by rw [jsh0 (m := m3) (i := i) (by omega)] at ckx; exact ckx) (by rw [jsh4 (m := m3) (i := j) (by rw [nI_leI (by omega) (by omega)] at cgb; omega)] at cky; exact cky) (Or.inr ⟨rfl, jlc_nge e_z_21 cl1⟩) (Or.inr ⟨rfl, jlc_nle e_z_23 cl2⟩)) _ _ hP hD hS ls (lv_sub hl [4, 5, 6, 7, 8, 2, 1, 9, 0] rfl)
        exact hloop_2 (n2 - 0 + 1) 0 u5 u7 ul ug (Nat.lt_succ_self _) (Nat.zero_le _) (hrw) _ _ hP hD hS ls (lv_sub hl [1, 2, 3, 4, 5, 6, 7, 8, 0] rfl)
  exact hloop_1 (n - 0 + 1) 0 0 0 (9223372036854775807) (-9223372036854775808) (Nat.lt_succ_self _) (Nat.zero_le _) (jrw_0) _ _ hP hD hS ls (lv_sub hl [5, 6, 7, 4, 3, 2, 1, 0] rfl)
set_option maxHeartbeats 1000000 in
set_option maxRecDepth 100000 in
theorem gM_group_12 (l : Launch) (D : va_G) (cI cL cQ : ClassId) (mo : Nat) (g : Nat) (n : Nat) (n2 : Nat) (q1 : Nat) (q3 : Nat) (q4 : Nat) (q5 : Nat) (q6 : Nat) (q11 : Nat) (z0 : Int32) (kd : Int32) (mk : Int32) (w10 : Int64) (w13 : Int64) (w14 : Int64) (m3 : Nat → Int32) (m4 : Nat → Int32) (m5 : Nat → Int32) (K1 : Nat → Int32) (K2 : Nat → Int32) (mm : Nat) (sz : Nat) (hn : n ≤ 400) (hn2 : n2 ≤ 400) (h5 : jo5 m5) (hk1 : ∀ i, i < n → jmk 0 m3 m5 i = K1 i) (hct : ∀ x, jCt n2 (jsh 400 m3) x = jCt n2 K2 x) (hm : mm < jGn n2 K1 K2 n) (hro : ∀ i, i < n → ∃ k, k < n ∧ jsh 0 m3 k = jmk 0 m3 m5 i) : Met l yX6_group wsX6_group ({ frames := 2, cells := 0, slots := 0, locals := 48 }) (jw_P D vwCl (jT cI cL cQ) cL cQ [.ref mo, .int (nI mm), .int 2] [(mo, .inr (6, [.int z0, .ref q1, .int (nI g), .ref q3, .ref q4, .ref q5, .ref q6, .int 1, .int 1, .int kd, .long w10, .ref q11, .int mk, .long w13, .long w14])), (q3, .inl (cI, 800, .inl m3)), (q4, .inl (cI, 800, .inl m4)), (q5, .inl (cI, 800, .inl m5)), (q6, .inl (cI, 2, .inl (jl [nI n, nI n2])))] sz) (va_Ql (fun (r : Int64) (u : va_W) => ∃ (p9 : Nat) (f0 : Int64) (f1 : Int64) (f2 : Int64) (f3 : Int64) (f4 : Int64), r = f2 ∧ u = [(mo, .inr (6, [.int 0, .ref q1, .int (nI g), .ref q3, .ref q4, .ref q5, .ref q6, .int 1, .int 1, .int kd, .long w10, .ref q11, .int mk, .long f3, .long f4])), (q3, .inl (cI, 800, .inl m3)), (q4, .inl (cI, 800, .inl m4)), (q5, .inl (cI, 800, .inl m5)), (q6, .inl (cI, 2, .inl (jl [nI n, nI n2])))] ∧ (p9 < n) ∧ (jGb n2 K1 K2 p9 = true) ∧ (jGn n2 K1 K2 p9 = mm) ∧ (jGf n n2 (jsh 0 m3) (jsh 0 m4) (jsh 400 m3) (jsh 400 m4) (K1 p9) f0 f1 f2 f3 f4)) (jw_B D vwCl (va_A [(mo, .inr (6, [.int z0, .ref q1, .int (nI g), .ref q3, .ref q4, .ref q5, .ref q6, .int 1, .int 1, .int kd, .long w10, .ref q11, .int mk, .long w13, .long w14])), (q3, .inl (cI, 800, .inl m3)), (q4, .inl (cI, 800, .inl m4)), (q5, .inl (cI, 800, .inl m5)), (q6, .inl (cI, 2, .inl (jl [nI n, nI n2])))] sz) (fun u : va_W => u)) (va_A [(mo, .inr (6, [.int z0, .ref q1, .int (nI g), .ref q3, .ref q4, .ref q5, .ref q6, .int 1, .int 1, .int kd, .long w10, .ref q11, .int mk, .long w13, .long w14])), (q3, .inl (cI, 800, .inl m3)), (q4, .inl (cI, 800, .inl m4)), (q5, .inl (cI, 800, .inl m5)), (q6, .inl (cI, 2, .inl (jl [nI n, nI n2])))] sz)) 0 0 (va_A [(mo, .inr (6, [.int z0, .ref q1, .int (nI g), .ref q3, .ref q4, .ref q5, .ref q6, .int 1, .int 1, .int kd, .long w10, .ref q11, .int mk, .long w13, .long w14])), (q3, .inl (cI, 800, .inl m3)), (q4, .inl (cI, 800, .inl m4)), (q5, .inl (cI, 800, .inl m5)), (q6, .inl (cI, 2, .inl (jl [nI n, nI n2])))] sz) := by
  refine Met.ofW (cc := cX6_group) (maxL := 13) (ret := (some .long)) (by decide) rfl ?_
  intro p e s m args below meth c s₁ B hml hv
  obtain ⟨rfl, hsz, hP, hK, hN, hD0⟩ := hv
  have hx := B.exec
  have hb := B.bytes
  have hr := B.returns
  have hts := atoms_spec (ws := wsX6_group) B.pre
  have hown : s.vm.findClass RX6 = some m.cls := findClass_of_methodNamed B.named
  have hlocks := B.notSynchronized
  subst hsz
  have hD := hD0.self (sz := s.heap.size)
  generalize hAe : va_A [(mo, .inr (6, [.int z0, .ref q1, .int (nI g), .ref q3, .ref q4, .ref q5, .ref q6, .int 1, .int 1, .int kd, .long w10, .ref q11, .int mk, .long w13, .long w14])), (q3, .inl (cI, 800, .inl m3)), (q4, .inl (cI, 800, .inl m4)), (q5, .inl (cI, 800, .inl m5)), (q6, .inl (cI, 2, .inl (jl [nI n, nI n2])))] s.heap.size = A at hD ⊢
  have hA : ∀ q : Nat, s.heap.size ≤ q → A q := fun q h => by rw [← hAe]; exact Or.inr h
  have hS : va_S A s.heap s.heap [] := va_S.rf
  have hl := lv_entry ([.ref mo, .int (nI mm), .int 2]) (n := 13) (Nat.le_of_ble_eq_true rfl)
  rw [lg_entry_eq]
  generalize (lg_sl ([.ref mo, .int (nI mm), .int 2]) ++ List.replicate (13 - (lg_sl ([.ref mo, .int (nI mm), .int 2])).length) Slot.unset).toArray = ls at hl ⊢
  have hl : lv_has ls 13 [(0, .ref mo), (1, .int (nI mm)), (2, .int 2)] := hl
  refine lv_aload_n hx hb dX6_group_0 rfl (lv_at hl 0 rfl) ?_
  refine va_get (D := D) (ci := 6) (v := .int 1) (C := RX6) (T := TX6) (N := 15) hx hb hts (by decide +kernel) hown hK hP 0 rfl rfl 7 (by decide) (hts (.fieldLink RX6 43 "JoinDeskModel" "prepared" "Z") (by decide +kernel)) (fun _ h9 => h9) rfl dX6_group_1 ?_
  refine lv_if_eq (tgt := 18) hx hb dX6_group_4 (by decide) (fun c_1 => absurd c_1 (by decide)) (fun c_1 => ?_)
  refine lv_aload_n hx hb dX6_group_7 rfl (lv_at hl 0 rfl) ?_
  refine va_get (D := D) (ci := 6) (v := .int 1) (C := RX6) (T := TX6) (N := 15) hx hb hts (by decide +kernel) hown hK hP 0 rfl rfl 8 (by decide) (hts (.fieldLink RX6 47 "JoinDeskModel" "grouped" "Z") (by decide +kernel)) (fun _ h9 => h9) rfl dX6_group_8 ?_
  refine lv_if_eq (tgt := 18) hx hb dX6_group_11 (by decide) (fun c_2 => absurd c_2 (by decide)) (fun c_2 => ?_)
  refine lv_iconst (v := 1) hx hb dX6_group_14 (by decide) ?_
  refine lv_goto (tgt := 19) hx hb dX6_group_15 (by decide) ?_
  refine lv_istore_n (lv' := [(3, .int 1), (0, .ref mo), (1, .int (nI mm)), (2, .int 2)]) hx hb dX6_group_19 rfl hl (by decide) rfl (fun ls hl => ?_)
  refine lv_aload_n hx hb dX6_group_20 rfl (lv_at hl 1 rfl) ?_
  refine lv_iload_n hx hb dX6_group_21 rfl (lv_at hl 2 rfl) ?_
  refine lv_if_lt (tgt := 47) hx hb dX6_group_22 (by decide) (fun c_3 => absurd c_3 (by exact nI_pos (by have := jGn_le (n2 := n2) (K1 := K1) (K2 := K2) n; omega))) (fun c_3 => ?_)
  refine lv_iload_n hx hb dX6_group_25 rfl (lv_at hl 3 rfl) ?_
  refine lv_if_lt (tgt := 47) hx hb dX6_group_26 (by decide) (fun c_4 => absurd c_4 (by decide)) (fun c_4 => ?_)
  refine lv_iload_n hx hb dX6_group_29 rfl (lv_at hl 3 rfl) ?_
  refine lv_iconst (v := 4) hx hb dX6_group_30 (by decide) ?_
  refine lv_icmp_gt (tgt := 47) hx hb dX6_group_31 (by decide) (fun c_5 => absurd c_5 (by decide)) (fun c_5 => ?_)
  refine lv_iload_n hx hb dX6_group_34 rfl (lv_at hl 0 rfl) ?_
  refine lv_if_eq (tgt := 51) hx hb dX6_group_35 (by decide) (fun c_6 => absurd c_6 (by decide)) (fun c_6 => ?_)
  refine lv_iload_n hx hb dX6_group_38 rfl (lv_at hl 2 rfl) ?_
  refine lv_aload_n hx hb dX6_group_39 rfl (lv_at hl 1 rfl) ?_
  refine lv_iconst (v := (-1)) hx hb dX6_group_40 (by decide) ?_
  refine vp_callSi (va_Run.run (va_runV (As := [.int (-1)]) (rest := [.int (nI mm), .ref mo]) ⟨hx, hb, hml, hown, hts⟩ (gM_groupAt_m l D cI cL cQ mo g n n2 q1 q3 q4 q5 q6 q11 z0 1 1 kd mk w10 w13 w14 m3 m5 K1 K2 (by first | assumption | decide | omega) (by first | assumption | decide | omega) (by first | assumption | decide | omega) (by first | assumption | decide | omega) (by first | assumption | decide | omega)) (cwV 1 hts gX6_group_X6_groupAt rfl rfl rfl (by decide +kernel) ⟨Nat.le_of_ble_eq_true rfl, Nat.le_of_ble_eq_true rfl⟩) (jr_V hK hN hP [0, 1, 3, 4] rfl 6 0 rfl rfl rfl) rfl rfl hl.1 rfl (lv_room (Nat.le_of_ble_eq_true rfl)) dX6_group_41 ⟨Nat.le_of_ble_eq_true rfl, Nat.le_of_ble_eq_true rfl⟩)) (fun r f_7 => ?_)
  obtain rfl := f_7
  refine lv_icmp_lt (tgt := 51) hx hb dX6_group_44 (by decide) (fun c_8 => ?_) (fun c_8 => absurd c_8 (by exact fun h => h (nI_lt hm (by have := jGn_le (n2 := n2) (K1 := K1) (K2 := K2) n; omega))))
  refine lv_iload_n hx hb dX6_group_51 rfl (lv_at hl 0 rfl) ?_
  refine lv_if_eq (tgt := 59) hx hb dX6_group_52 (by decide) (fun c_9 => absurd c_9 (by decide)) (fun c_9 => ?_)
  refine lv_iconst (v := 0) hx hb dX6_group_55 (by decide) ?_
  refine lv_goto (tgt := 60) hx hb dX6_group_56 (by decide) ?_
  refine jw_i (wr := [(q3, .inl (cI, 800, .inl m3)), (q4, .inl (cI, 800, .inl m4)), (q5, .inl (cI, 800, .inl m5)), (q6, .inl (cI, 2, .inl (jl [nI n, nI n2])))]) (va_runV (As := [.int 0]) (rest := []) ⟨hx, hb, hml, hown, hts⟩ (gM_refuses_0 l D cI cL cQ mo g q1 q3 q4 q5 q6 q11 z0 1 1 kd mk w10 w13 w14 _) (cwV 1 hts gX6_group_X6_refuses rfl rfl rfl (by decide +kernel) ⟨Nat.le_of_ble_eq_true rfl, Nat.le_of_ble_eq_true rfl⟩) (jw_V hK hN hP hD [0] (by decide) rfl 6 0 rfl rfl rfl) rfl rfl hl.1 rfl (lv_room (Nat.le_of_ble_eq_true rfl)) dX6_group_60 ⟨Nat.le_of_ble_eq_true rfl, Nat.le_of_ble_eq_true rfl⟩) hP hD hS hA [0] [1, 2, 3, 4] rfl rfl (by decide) (by decide) (fun r u H locs f_10 hP hD hS => ?_)
  obtain ⟨rfl, rfl⟩ := f_10
  have hP : va_P D vwCl [(q3, .inl (cI, 800, .inl m3)), (q4, .inl (cI, 800, .inl m4)), (q5, .inl (cI, 800, .inl m5)), (q6, .inl (cI, 2, .inl (jl [nI n, nI n2]))), (mo, .inr (6, [.int 0, .ref q1, .int (nI g), .ref q3, .ref q4, .ref q5, .ref q6, .int 1, .int 1, .int kd, .long w10, .ref q11, .int mk, .long w13, .long w14]))] H := hP
  have hD : va_D A [(q3, .inl (cI, 800, .inl m3)), (q4, .inl (cI, 800, .inl m4)), (q5, .inl (cI, 800, .inl m5)), (q6, .inl (cI, 2, .inl (jl [nI n, nI n2]))), (mo, .inr (6, [.int 0, .ref q1, .int (nI g), .ref q3, .ref q4, .ref q5, .ref q6, .int 1, .int 1, .int kd, .long w10, .ref q11, .int mk, .long w13, .long w14]))] := hD
  refine lv_if_eq (tgt := 68) hx hb dX6_group_63 (by decide) (fun c_11 => ?_) (fun c_11 => absurd c_11 (by decide))
  refine lv_aload_n hx hb dX6_group_68 rfl (lv_at hl 1 rfl) ?_
  refine lv_iconst (v := 0) hx hb dX6_group_69 (by decide) ?_
  refine lv_aload_n hx hb dX6_group_70 rfl (lv_at hl 1 rfl) ?_
  refine lv_iload_n hx hb dX6_group_71 rfl (lv_at hl 2 rfl) ?_
  refine vp_callSi (va_Run.run (va_runV (As := [.int (nI mm)]) (rest := [.int 0, .ref mo]) ⟨hx, hb, hml, hown, hts⟩ (gM_groupAt_i l D cI cL cQ mo g n n2 q1 q3 q4 q5 q6 q11 0 1 1 kd mk w10 w13 w14 m3 m5 K1 K2 mm (by first | assumption | decide | omega) (by first | assumption | decide | omega) (by first | assumption | decide | omega) (by first | assumption | decide | omega) (by first | assumption | decide | omega) (by first | assumption | decide | omega) (by have := jGn_le (n2 := n2) (K1 := K1) (K2 := K2) n; omega)) (cwV 1 hts gX6_group_X6_groupAt rfl rfl rfl (by decide +kernel) ⟨Nat.le_of_ble_eq_true rfl, Nat.le_of_ble_eq_true rfl⟩) (jr_V hK hN hP [4, 0, 2, 3] rfl 6 4 rfl rfl rfl) rfl rfl hl.1 rfl (lv_room (Nat.le_of_ble_eq_true rfl)) dX6_group_72 ⟨Nat.le_of_ble_eq_true rfl, Nat.le_of_ble_eq_true rfl⟩)) (fun r f_12 => ?_)
  obtain ⟨p9, rfl, f_13, f_14, f_15⟩ := f_12
  refine vp_callSi (va_Run.run (va_runV (As := [.int 0, .int (nI p9)]) (rest := []) ⟨hx, hb, hml, hown, hts⟩ (gM_key_0 l D cI cL cQ mo g q1 q3 q4 q5 q6 q11 0 1 1 kd mk w10 w13 w14 m3 m5 p9 (by first | assumption | decide | omega) (by omega)) (cwV 2 hts gX6_group_X6_key rfl rfl rfl (by decide +kernel) ⟨Nat.le_of_ble_eq_true rfl, Nat.le_of_ble_eq_true rfl⟩) (jr_V hK hN hP [4, 0, 2] rfl 6 4 rfl rfl rfl) rfl rfl hl.1 rfl (lv_room (Nat.le_of_ble_eq_true rfl)) dX6_group_75 ⟨Nat.le_of_ble_eq_true rfl, Nat.le_of_ble_eq_true rfl⟩)) (fun r f_16 => ?_)
  obtain rfl := f_16
  refine lv_istore (lv' := [(4, .int (jmk 0 m3 m5 p9)), (3, .int 1), (0, .ref mo), (1, .int (nI mm)), (2, .int 2)]) hx hb dX6_group_78 hl (by decide) rfl (fun ls hl => ?_)
  refine lv_lconst (v := 0) hx hb dX6_group_80 (by decide) ?_
  refine lv_lstore (lv' := [(5, .long 0), (4, .int (jmk 0 m3 m5 p9)), (3, .int 1), (0, .ref mo), (1, .int (nI mm)), (2, .int 2)]) hx hb dX6_group_81 hl (by decide) rfl (fun ls hl => ?_)
  refine lv_lconst (v := 0) hx hb dX6_group_83 (by decide) ?_
  refine lv_lstore (lv' := [(7, .long 0), (5, .long 0), (4, .int (jmk 0 m3 m5 p9)), (3, .int 1), (0, .ref mo), (1, .int (nI mm)), (2, .int 2)]) hx hb dX6_group_84 hl (by decide) rfl (fun ls hl => ?_)
  refine lv_aload_n hx hb dX6_group_86 rfl (lv_at hl 4 rfl) ?_
  refine lv_ldc2 (v := (9223372036854775807)) hx hb hown (hts (.constantLong RX6 96 (9223372036854775807)) (by decide +kernel)) dX6_group_87 ?_
  refine va_put (D := D) (ci := 6) (v := .long (9223372036854775807)) (ty := .long) (C := RX6) (T := TX6) (N := 15) hx hb hts (by decide +kernel) tyX6 tyX6_ok nmX6 hown hK hP hD hS 4 rfl rfl 13 (by decide) (hts (.fieldLink RX6 98 "JoinDeskModel" "least" "J") (by decide +kernel)) (fun _ h9 => h9) rfl (by decide +kernel) rfl rfl (Nat.le_of_ble_eq_true rfl) dX6_group_90 (fun H locs hP hD hS => ?_)
  have hP : va_P D vwCl [(q3, .inl (cI, 800, .inl m3)), (q4, .inl (cI, 800, .inl m4)), (q5, .inl (cI, 800, .inl m5)), (q6, .inl (cI, 2, .inl (jl [nI n, nI n2]))), (mo, .inr (6, [.int 0, .ref q1, .int (nI g), .ref q3, .ref q4, .ref q5, .ref q6, .int 1, .int 1, .int kd, .long w10, .ref q11, .int mk, .long (9223372036854775807), .long w14]))] H := hP
  have hD : va_D A [(q3, .inl (cI, 800, .inl m3)), (q4, .inl (cI, 800, .inl m4)), (q5, .inl (cI, 800, .inl m5)), (q6, .inl (cI, 2, .inl (jl [nI n, nI n2]))), (mo, .inr (6, [.int 0, .ref q1, .int (nI g), .ref q3, .ref q4, .ref q5, .ref q6, .int 1, .int 1, .int kd, .long w10, .ref q11, .int mk, .long (9223372036854775807), .long w14]))] := hD
  refine lv_aload_n hx hb dX6_group_93 rfl (lv_at hl 4 rfl) ?_
  refine lv_ldc2 (v := (-9223372036854775808)) hx hb hown (hts (.constantLong RX6 101 (-9223372036854775808)) (by decide +kernel)) dX6_group_94 ?_
  refine va_put (D := D) (ci := 6) (v := .long (-9223372036854775808)) (ty := .long) (C := RX6) (T := TX6) (N := 15) hx hb hts (by decide +kernel) tyX6 tyX6_ok nmX6 hown hK hP hD hS 4 rfl rfl 14 (by decide) (hts (.fieldLink RX6 103 "JoinDeskModel" "greatest" "J") (by decide +kernel)) (fun _ h9 => h9) rfl (by decide +kernel) rfl rfl (Nat.le_of_ble_eq_true rfl) dX6_group_97 (fun H locs hP hD hS => ?_)
  have hP : va_P D vwCl [(q3, .inl (cI, 800, .inl m3)), (q4, .inl (cI, 800, .inl m4)), (q5, .inl (cI, 800, .inl m5)), (q6, .inl (cI, 2, .inl (jl [nI n, nI n2]))), (mo, .inr (6, [.int 0, .ref q1, .int (nI g), .ref q3, .ref q4, .ref q5, .ref q6, .int 1, .int 1, .int kd, .long w10, .ref q11, .int mk, .long (9223372036854775807), .long (-9223372036854775808)]))] H := hP
  have hD : va_D A [(q3, .inl (cI, 800, .inl m3)), (q4, .inl (cI, 800, .inl m4)), (q5, .inl (cI, 800, .inl m5)), (q6, .inl (cI, 2, .inl (jl [nI n, nI n2]))), (mo, .inr (6, [.int 0, .ref q1, .int (nI g), .ref q3, .ref q4, .ref q5, .ref q6, .int 1, .int 1, .int kd, .long w10, .ref q11, .int mk, .long (9223372036854775807), .long (-9223372036854775808)]))] := hD
  refine lv_iconst (v := 0) hx hb dX6_group_100 (by decide) ?_
  refine lv_istore (lv' := [(9, .int 0), (7, .long 0), (5, .long 0), (4, .int (jmk 0 m3 m5 p9)), (3, .int 1), (0, .ref mo), (1, .int (nI mm)), (2, .int 2)]) hx hb dX6_group_101 hl (by decide) rfl (fun ls hl => ?_)
  have hP := hP.sub (ws' := [(mo, .inr (6, [.int 0, .ref q1, .int (nI g), .ref q3, .ref q4, .ref q5, .ref q6, .int 1, .int 1, .int kd, .long w10, .ref q11, .int mk, .long (9223372036854775807), .long (-9223372036854775808)])), (q3, .inl (cI, 800, .inl m3)), (q4, .inl (cI, 800, .inl m4)), (q5, .inl (cI, 800, .inl m5)), (q6, .inl (cI, 2, .inl (jl [nI n, nI n2])))]) [4, 0, 1, 2, 3] rfl
  have hD := hD.sub (ws' := [(mo, .inr (6, [.int 0, .ref q1, .int (nI g), .ref q3, .ref q4, .ref q5, .ref q6, .int 1, .int 1, .int kd, .long w10, .ref q11, .int mk, .long (9223372036854775807), .long (-9223372036854775808)])), (q3, .inl (cI, 800, .inl m3)), (q4, .inl (cI, 800, .inl m4)), (q5, .inl (cI, 800, .inl m5)), (q6, .inl (cI, 2, .inl (jl [nI n, nI n2])))]) [4, 0, 1, 2, 3] (by decide) rfl
  have hloop_1 : ∀ (k_1 : Nat) (i : Nat) (u5 : Int64) (u7 : Int64) (ul : Int64) (ug : Int64), n - i < k_1 → (i ≤ n) → (jRw n2 (jsh 0 m3) (jsh 0 m4) (jsh 400 m3) (jsh 400 m4) (jmk 0 m3 m5 p9) i 0 u5 u7 ul ug) → ∀ (H : Heap) (locs : List Loc), va_P D vwCl [(mo, .inr (6, [.int 0, .ref q1, .int (nI g), .ref q3, .ref q4, .ref q5, .ref q6, .int 1, .int 1, .int kd, .long w10, .ref q11, .int mk, .long ul, .long ug])), (q3, .inl (cI, 800, .inl m3)), (q4, .inl (cI, 800, .inl m4)), (q5, .inl (cI, 800, .inl m5)), (q6, .inl (cI, 2, .inl (jl [nI n, nI n2])))] H → va_D A [(mo, .inr (6, [.int 0, .ref q1, .int (nI g), .ref q3, .ref q4, .ref q5, .ref q6, .int 1, .int 1, .int kd, .long w10, .ref q11, .int mk, .long ul, .long ug])), (q3, .inl (cI, 800, .inl m3)), (q4, .inl (cI, 800, .inl m4)), (q5, .inl (cI, 800, .inl m5)), (q6, .inl (cI, 2, .inl (jl [nI n, nI n2])))] → va_S A s.heap H locs → ∀ ls : Array Slot, lv_has ls 13 [(0, .ref mo), (1, .int (nI mm)), (2, .int 2), (3, .int 1), (4, .int (jmk 0 m3 m5 p9)), (5, .long u5), (7, .long u7), (9, .int (nI i))] → W p l e (headSpec wsX6_group ({ frames := 2, cells := 0, slots := 0, locals := 48 })).room s m #[.ref mo, .int (nI mm), .int 2] below meth c H locs 0 0 (MQ below (va_Ql (fun (r : Int64) (u : va_W) => ∃ (p9 : Nat) (f0 : Int64) (f1 : Int64) (f2 : Int64) (f3 : Int64) (f4 : Int64), r = f2 ∧ u = [(mo, .inr (6, [.int 0, .ref q1, .int (nI g), .ref q3, .ref q4, .ref q5, .ref q6, .int 1, .int 1, .int kd, .long w10, .ref q11, .int mk, .long f3, .long f4])), (q3, .inl (cI, 800, .inl m3)), (q4, .inl (cI, 800, .inl m4)), (q5, .inl (cI, 800, .inl m5)), (q6, .inl (cI, 2, .inl (jl [nI n, nI n2])))] ∧ (p9 < n) ∧ (jGb n2 K1 K2 p9 = true) ∧ (jGn n2 K1 K2 p9 = mm) ∧ (jGf n n2 (jsh 0 m3) (jsh 0 m4) (jsh 400 m3) (jsh 400 m4) (K1 p9) f0 f1 f2 f3 f4)) (jw_B D vwCl A (fun u : va_W => u)) A) #[.ref mo, .int (nI mm), .int 2] s 0 0 A) (F0 m 103 ls []) := by
    intro k_1
    induction k_1 with
    | zero => exact fun _ _ _ _ _ hm => absurd hm (Nat.not_lt_zero _)
    | succ k_1 ih_1 =>
      intro i u5 u7 ul ug hm1 hi hrw H locs hP hD hS ls hl
      refine lv_iload hx hb dX6_group_103 (lv_at hl 7 rfl) ?_
      refine lv_aload_n hx hb dX6_group_105 rfl (lv_at hl 0 rfl) ?_
      refine va_get (D := D) (ci := 6) (v := .ref q6) (C := RX6) (T := TX6) (N := 15) hx hb hts (by decide +kernel) hown hK hP 0 rfl rfl 6 (by decide) (hts (.fieldLink RX6 22 "JoinDeskModel" "many" "[I") (by decide +kernel)) (fun _ h9 => h9) rfl dX6_group_106 ?_
      refine lv_iconst (v := 0) hx hb dX6_group_109 (by decide) ?_
      refine va_iald hx hb hK hP 4 0 rfl rfl (by unfold vp_in; decide) dX6_group_110 ?_
      refine W.eq (g2 := F0 m 111 ls [.int (nI n), .int (nI i)]) rfl ?_
      refine lv_icmp_ge (tgt := 250) hx hb dX6_group_111 (by decide) (fun cga => ?_) (fun cga => ?_)
      · refine lv_iload_n hx hb dX6_group_250 rfl (lv_at hl 2 rfl) ?_
        refine lv_if_ne (tgt := 260) hx hb dX6_group_251 (by decide) (fun c_17 => ?_) (fun c_17 => absurd c_17 (by decide))
        refine lv_iload_n hx hb dX6_group_260 rfl (lv_at hl 2 rfl) ?_
        refine lv_iconst (v := 1) hx hb dX6_group_261 (by decide) ?_
        refine lv_icmp_ne (tgt := 270) hx hb dX6_group_262 (by decide) (fun c_18 => ?_) (fun c_18 => absurd c_18 (by decide))
        refine lv_iload_n hx hb dX6_group_270 rfl (lv_at hl 2 rfl) ?_
        refine lv_iconst (v := 2) hx hb dX6_group_271 (by decide) ?_
        refine lv_icmp_ne (tgt := 280) hx hb dX6_group_272 (by decide) (fun c_19 => absurd c_19 (by decide)) (fun c_19 => ?_)
        refine lv_lload hx hb dX6_group_275 (lv_at hl 5 rfl) ?_
        refine lv_goto (tgt := 296) hx hb dX6_group_277 (by decide) ?_
        refine W.widen (k := 0) (n := 0) (by omega) (by omega) ?_
        exact W.lret (v := u5) hx hb hr (fun t ht hW => ⟨⟨u5, [(mo, .inr (6, [.int 0, .ref q1, .int (nI g), .ref q3, .ref q4, .ref q5, .ref q6, .int 1, .int 1, .int kd, .long w10, .ref q11, .int mk, .long ul, .long ug])), (q3, .inl (cI, 800, .inl m3)), (q4, .inl (cI, 800, .inl m4)), (q5, .inl (cI, 800, .inl m5)), (q6, .inl (cI, 2, .inl (jl [nI n, nI n2])))], rfl, (⟨p9, (jmk 0 m3 m5 p9).toInt64, u7, u5, ul, ug, rfl, rfl, f_13, f_14, f_15, by rw [← hk1 p9 f_13]; exact jrw_fin (by have h := hrw; rw [show i = n by rw [nI_leI (by omega) (by omega)] at cga; omega] at h; exact h) (hro p9 f_13) (jCt_pos (by rw [hct, hk1 p9 f_13]; exact (jgb_1 f_14).2))⟩), by rw [ht]; exact hP, hD⟩, hS.F ht⟩) hS.2.2 dX6_group_296
      · refine lv_iconst (v := 0) hx hb dX6_group_114 (by decide) ?_
        refine lv_istore (lv' := [(10, .int 0), (0, .ref mo), (1, .int (nI mm)), (2, .int 2), (3, .int 1), (4, .int (jmk 0 m3 m5 p9)), (5, .long u5), (7, .long u7), (9, .int (nI i))]) hx hb dX6_group_115 hl (by decide) rfl (fun ls hl => ?_)
        have hloop_2 : ∀ (k_2 : Nat) (j : Nat) (v5 : Int64) (v7 : Int64) (vl : Int64) (vg : Int64), n2 - j < k_2 → (j ≤ n2) → (jRw n2 (jsh 0 m3) (jsh 0 m4) (jsh 400 m3) (jsh 400 m4) (jmk 0 m3 m5 p9) i j v5 v7 vl vg) → ∀ (H : Heap) (locs : List Loc), va_P D vwCl [(mo, .inr (6, [.int 0, .ref q1, .int (nI g), .ref q3, .ref q4, .ref q5, .ref q6, .int 1, .int 1, .int kd, .long w10, .ref q11, .int mk, .long vl, .long vg])), (q3, .inl (cI, 800, .inl m3)), (q4, .inl (cI, 800, .inl m4)), (q5, .inl (cI, 800, .inl m5)), (q6, .inl (cI, 2, .inl (jl [nI n, nI n2])))] H → va_D A [(mo, .inr (6, [.int 0, .ref q1, .int (nI g), .ref q3, .ref q4, .ref q5, .ref q6, .int 1, .int 1, .int kd, .long w10, .ref q11, .int mk, .long vl, .long vg])), (q3, .inl (cI, 800, .inl m3)), (q4, .inl (cI, 800, .inl m4)), (q5, .inl (cI, 800, .inl m5)), (q6, .inl (cI, 2, .inl (jl [nI n, nI n2])))] → va_S A s.heap H locs → ∀ ls : Array Slot, lv_has ls 13 [(0, .ref mo), (1, .int (nI mm)), (2, .int 2), (3, .int 1), (4, .int (jmk 0 m3 m5 p9)), (5, .long v5), (7, .long v7), (9, .int (nI i)), (10, .int (nI j))] → W p l e (headSpec wsX6_group ({ frames := 2, cells := 0, slots := 0, locals := 48 })).room s m #[.ref mo, .int (nI mm), .int 2] below meth c H locs 0 0 (MQ below (va_Ql (fun (r : Int64) (u : va_W) => ∃ (p9 : Nat) (f0 : Int64) (f1 : Int64) (f2 : Int64) (f3 : Int64) (f4 : Int64), r = f2 ∧ u = [(mo, .inr (6, [.int 0, .ref q1, .int (nI g), .ref q3, .ref q4, .ref q5, .ref q6, .int 1, .int 1, .int kd, .long w10, .ref q11, .int mk, .long f3, .long f4])), (q3, .inl (cI, 800, .inl m3)), (q4, .inl (cI, 800, .inl m4)), (q5, .inl (cI, 800, .inl m5)), (q6, .inl (cI, 2, .inl (jl [nI n, nI n2])))] ∧ (p9 < n) ∧ (jGb n2 K1 K2 p9 = true) ∧ (jGn n2 K1 K2 p9 = mm) ∧ (jGf n n2 (jsh 0 m3) (jsh 0 m4) (jsh 400 m3) (jsh 400 m4) (K1 p9) f0 f1 f2 f3 f4)) (jw_B D vwCl A (fun u : va_W => u)) A) #[.ref mo, .int (nI mm), .int 2] s 0 0 A) (F0 m 117 ls []) := by
          intro k_2
          induction k_2 with
          | zero => exact fun _ _ _ _ _ hm => absurd hm (Nat.not_lt_zero _)
          | succ k_2 ih_2 =>
            intro j v5 v7 vl vg hm2 hj hrw2 H locs hP hD hS ls hl
            refine lv_iload hx hb dX6_group_117 (lv_at hl 8 rfl) ?_
            refine lv_aload_n hx hb dX6_group_119 rfl (lv_at hl 0 rfl) ?_
            refine va_get (D := D) (ci := 6) (v := .ref q6) (C := RX6) (T := TX6) (N := 15) hx hb hts (by decide +kernel) hown hK hP 0 rfl rfl 6 (by decide) (hts (.fieldLink RX6 22 "JoinDeskModel" "many" "[I") (by decide +kernel)) (fun _ h9 => h9) rfl dX6_group_120 ?_
            refine lv_iconst (v := 1) hx hb dX6_group_123 (by decide) ?_
            refine va_iald hx hb hK hP 4 0 rfl rfl (by unfold vp_in; decide) dX6_group_124 ?_
            refine W.eq (g2 := F0 m 125 ls [.int (nI n2), .int (nI j)]) rfl ?_
            refine lv_icmp_ge (tgt := 244) hx hb dX6_group_125 (by decide) (fun cgb => ?_) (fun cgb => ?_)
            · refine lv_iinc (v := nI (i + 1)) (lv' := [(9, .int (nI (i + 1))), (0, .ref mo), (1, .int (nI mm)), (2, .int 2), (3, .int 1), (4, .int (jmk 0 m3 m5 p9)), (5, .long v5), (7, .long v7), (10, .int (nI j))]) hx hb dX6_group_244 hl (k := 7) rfl (nI_1 _) (by decide) rfl (fun ls hl => ?_)
              refine lv_goto (tgt := 103) hx hb dX6_group_247 (by decide) ?_
              exact ih_1 (i + 1) v5 v7 vl vg (by rw [nI_leI (by omega) (by omega)] at cga; omega) (by rw [nI_leI (by omega) (by omega)] at cga; omega) (jrw_out hrw2 (Or.inl (by rw [nI_leI (by omega) (by omega)] at cgb; omega))) _ _ hP hD hS ls (lv_sub hl [1, 2, 3, 4, 5, 6, 7, 0] rfl)
            · refine lv_aload_n hx hb dX6_group_128 rfl (lv_at hl 0 rfl) ?_
              refine va_get (D := D) (ci := 6) (v := .ref q3) (C := RX6) (T := TX6) (N := 15) hx hb hts (by decide +kernel) hown hK hP 0 rfl rfl 3 (by decide) (hts (.fieldLink RX6 13 "JoinDeskModel" "keys" "[I") (by decide +kernel)) (fun _ h9 => h9) rfl dX6_group_129 ?_
              refine lv_iload hx hb dX6_group_132 (lv_at hl 7 rfl) ?_
              refine va_iald hx hb hK hP 1 0 rfl rfl (vp_in_nI (show i < 800 by rw [nI_leI (by omega) (by omega)] at cga; omega) (by omega)) dX6_group_134 ?_
              refine lv_iload hx hb dX6_group_135 (lv_at hl 4 rfl) ?_
              refine lv_icmp_ne (tgt := 244) hx hb dX6_group_137 (by decide) (fun ckx => ?_) (fun ckx => ?_)
              · refine lv_iinc (v := nI (i + 1)) (lv' := [(9, .int (nI (i + 1))), (0, .ref mo), (1, .int (nI mm)), (2, .int 2), (3, .int 1), (4, .int (jmk 0 m3 m5 p9)), (5, .long v5), (7, .long v7), (10, .int (nI j))]) hx hb dX6_group_244 hl (k := 7) rfl (nI_1 _) (by decide) rfl (fun ls hl => ?_)
                refine lv_goto (tgt := 103) hx hb dX6_group_247 (by decide) ?_
                exact ih_1 (i + 1) v5 v7 vl vg (by rw [nI_leI (by omega) (by omega)] at cga; omega) (by rw [nI_leI (by omega) (by omega)] at cga; omega) (jrw_out hrw2 (Or.inr (by rw [jsh0 (m := m3) (i := i) (by omega)] at ckx; exact ckx))) _ _ hP hD hS ls (lv_sub hl [1, 2, 3, 4, 5, 6, 7, 0] rfl)
              · refine lv_aload_n hx hb dX6_group_140 rfl (lv_at hl 0 rfl) ?_
                refine va_get (D := D) (ci := 6) (v := .ref q3) (C := RX6) (T := TX6) (N := 15) hx hb hts (by decide +kernel) hown hK hP 0 rfl rfl 3 (by decide) (hts (.fieldLink RX6 13 "JoinDeskModel" "keys" "[I") (by decide +kernel)) (fun _ h9 => h9) rfl dX6_group_141 ?_
                refine lv_sipush (v := 400) hx hb dX6_group_144 (by decide) ?_
                refine lv_iload hx hb dX6_group_147 (lv_at hl 8 rfl) ?_
                refine lv_iadd hx hb dX6_group_149 ?_
                refine lv_topi (fun z_20 e_z_20 => ?_)
                obtain rfl : z_20 = nI (400 + j) := e_z_20.trans (nI_add 400 j)
                refine va_iald hx hb hK hP 1 0 rfl rfl (vp_in_nI (show 400 + j < 800 by rw [nI_leI (by omega) (by omega)] at cgb; omega) (by omega)) dX6_group_150 ?_
                refine lv_iload hx hb dX6_group_151 (lv_at hl 4 rfl) ?_
                refine lv_icmp_ne (tgt := 238) hx hb dX6_group_153 (by decide) (fun cky => ?_) (fun cky => ?_)
                · refine lv_iinc (v := nI (j + 1)) (lv' := [(10, .int (nI (j + 1))), (0, .ref mo), (1, .int (nI mm)), (2, .int 2), (3, .int 1), (4, .int (jmk 0 m3 m5 p9)), (5, .long v5), (7, .long v7), (9, .int (nI i))]) hx hb dX6_group_238 hl (k := 8) rfl (nI_1 _) (by decide) rfl (fun ls hl => ?_)
                  refine lv_goto (tgt := 117) hx hb dX6_group_241 (by decide) ?_
                  exact ih_2 (j + 1) v5 v7 vl vg (by rw [nI_leI (by omega) (by omega)] at cgb; omega) (by rw [nI_leI (by omega) (by omega)] at cgb; omega) (jrw_skip hrw2 (by rw [nI_leI (by omega) (by omega)] at cgb; omega) (by rw [jsh0 (m := m3) (i := i) (by omega)] at ckx; exact ckx) (by rw [jsh4 (m := m3) (i := j) (by rw [nI_leI (by omega) (by omega)] at cgb; omega)] at cky; exact cky)) _ _ hP hD hS ls (lv_sub hl [1, 2, 3, 4, 5, 6, 7, 8, 0] rfl)
                · refine lv_aload_n hx hb dX6_group_156 rfl (lv_at hl 0 rfl) ?_
                  refine va_get (D := D) (ci := 6) (v := .ref q4) (C := RX6) (T := TX6) (N := 15) hx hb hts (by decide +kernel) hown hK hP 0 rfl rfl 4 (by decide) (hts (.fieldLink RX6 16 "JoinDeskModel" "values" "[I") (by decide +kernel)) (fun _ h9 => h9) rfl dX6_group_157 ?_
                  refine lv_iload hx hb dX6_group_160 (lv_at hl 7 rfl) ?_
                  refine va_iald hx hb hK hP 2 0 rfl rfl (vp_in_nI (show i < 800 by rw [nI_leI (by omega) (by omega)] at cga; omega) (by omega)) dX6_group_162 ?_
                  refine lv_i2l (v := (m4 (nI i).toNatClampNeg).toInt64) hx hb dX6_group_163 (by first | rfl | decide) ?_
                  refine lv_aload_n hx hb dX6_group_164 rfl (lv_at hl 0 rfl) ?_
                  refine va_get (D := D) (ci := 6) (v := .ref q4) (C := RX6) (T := TX6) (N := 15) hx hb hts (by decide +kernel) hown hK hP 0 rfl rfl 4 (by decide) (hts (.fieldLink RX6 16 "JoinDeskModel" "values" "[I") (by decide +kernel)) (fun _ h9 => h9) rfl dX6_group_165 ?_
                  refine lv_sipush (v := 400) hx hb dX6_group_168 (by decide) ?_
                  refine lv_iload hx hb dX6_group_171 (lv_at hl 8 rfl) ?_
                  refine lv_iadd hx hb dX6_group_173 ?_
                  refine lv_topi (fun z_21 e_z_21 => ?_)
                  obtain rfl : z_21 = nI (400 + j) := e_z_21.trans (nI_add 400 j)
                  refine va_iald hx hb hK hP 2 0 rfl rfl (vp_in_nI (show 400 + j < 800 by rw [nI_leI (by omega) (by omega)] at cgb; omega) (by omega)) dX6_group_174 ?_
                  refine lv_i2l (v := (m4 (nI (400 + j)).toNatClampNeg).toInt64) hx hb dX6_group_175 (by first | rfl | decide) ?_
                  refine lv_lmul hx hb dX6_group_176 ?_
                  refine lv_lstore (lv' := [(11, .long (((m4 (nI i).toNatClampNeg).toInt64) * ((m4 (nI (400 + j)).toNatClampNeg).toInt64))), (0, .ref mo), (1, .int (nI mm)), (2, .int 2), (3, .int 1), (4, .int (jmk 0 m3 m5 p9)), (5, .long v5), (7, .long v7), (9, .int (nI i)), (10, .int (nI j))]) hx hb dX6_group_177 hl (by decide) rfl (fun ls hl => ?_)
                  refine lv_lload hx hb dX6_group_179 (lv_at hl 6 rfl) ?_
                  refine lv_lload hx hb dX6_group_181 (lv_at hl 0 rfl) ?_
                  refine lv_ladd hx hb dX6_group_183 ?_
                  refine lv_lstore (lv' := [(5, .long (v5 + (((m4 (nI i).toNatClampNeg).toInt64) * ((m4 (nI (400 + j)).toNatClampNeg).toInt64)))), (11, .long (((m4 (nI i).toNatClampNeg).toInt64) * ((m4 (nI (400 + j)).toNatClampNeg).toInt64))), (0, .ref mo), (1, .int (nI mm)), (2, .int 2), (3, .int 1), (4, .int (jmk 0 m3 m5 p9)), (7, .long v7), (9, .int (nI i)), (10, .int (nI j))]) hx hb dX6_group_184 hl (by decide) rfl (fun ls hl => ?_)
                  refine lv_lload hx hb dX6_group_186 (lv_at hl 7 rfl) ?_
                  refine lv_lconst (v := 1) hx hb dX6_group_188 (by decide) ?_
                  refine lv_ladd hx hb dX6_group_189 ?_
                  refine lv_lstore (lv' := [(7, .long (v7 + 1)), (5, .long (v5 + (((m4 (nI i).toNatClampNeg).toInt64) * ((m4 (nI (400 + j)).toNatClampNeg).toInt64)))), (11, .long (((m4 (nI i).toNatClampNeg).toInt64) * ((m4 (nI (400 + j)).toNatClampNeg).toInt64))), (0, .ref mo), (1, .int (nI mm)), (2, .int 2), (3, .int 1), (4, .int (jmk 0 m3 m5 p9)), (9, .int (nI i)), (10, .int (nI j))]) hx hb dX6_group_190 hl (by decide) rfl (fun ls hl => ?_)
                  refine lv_aload_n hx hb dX6_group_192 rfl (lv_at hl 3 rfl) ?_
                  refine lv_lload hx hb dX6_group_193 (lv_at hl 2 rfl) ?_
                  refine lv_aload_n hx hb dX6_group_195 rfl (lv_at hl 3 rfl) ?_
                  refine va_get (D := D) (ci := 6) (v := .long vl) (C := RX6) (T := TX6) (N := 15) hx hb hts (by decide +kernel) hown hK hP 0 rfl rfl 13 (by decide) (hts (.fieldLink RX6 98 "JoinDeskModel" "least" "J") (by decide +kernel)) (fun _ h9 => h9) rfl dX6_group_196 ?_
                  refine W.lcmp hx hb dX6_group_199 ?_
                  refine lv_topi (fun z_22 e_z_22 => ?_)
                  refine lv_if_ge (tgt := 208) hx hb dX6_group_200 (by decide) (fun cl1 => ?_) (fun cl1 => ?_)
                  · refine lv_aload_n hx hb dX6_group_208 rfl (lv_at hl 3 rfl) ?_
                    refine va_get (D := D) (ci := 6) (v := .long vl) (C := RX6) (T := TX6) (N := 15) hx hb hts (by decide +kernel) hown hK hP 0 rfl rfl 13 (by decide) (hts (.fieldLink RX6 98 "JoinDeskModel" "least" "J") (by decide +kernel)) (fun _ h9 => h9) rfl dX6_group_209 ?_
                    refine va_put (D := D) (ci := 6) (v := .long vl) (ty := .long) (C := RX6) (T := TX6) (N := 15) hx hb hts (by decide +kernel) tyX6 tyX6_ok nmX6 hown hK hP hD hS 0 rfl rfl 13 (by decide) (hts (.fieldLink RX6 98 "JoinDeskModel" "least" "J") (by decide +kernel)) (fun _ h9 => h9) rfl (by decide +kernel) rfl rfl (Nat.le_of_ble_eq_true rfl) dX6_group_212 (fun H locs hP hD hS => ?_)
                    have hP : va_P D vwCl [(mo, .inr (6, [.int 0, .ref q1, .int (nI g), .ref q3, .ref q4, .ref q5, .ref q6, .int 1, .int 1, .int kd, .long w10, .ref q11, .int mk, .long vl, .long vg])), (q3, .inl (cI, 800, .inl m3)), (q4, .inl (cI, 800, .inl m4)), (q5, .inl (cI, 800, .inl m5)), (q6, .inl (cI, 2, .inl (jl [nI n, nI n2])))] H := hP
                    have hD : va_D A [(mo, .inr (6, [.int 0, .ref q1, .int (nI g), .ref q3, .ref q4, .ref q5, .ref q6, .int 1, .int 1, .int kd, .long w10, .ref q11, .int mk, .long vl, .long vg])), (q3, .inl (cI, 800, .inl m3)), (q4, .inl (cI, 800, .inl m4)), (q5, .inl (cI, 800, .inl m5)), (q6, .inl (cI, 2, .inl (jl [nI n, nI n2])))] := hD
                    refine lv_aload_n hx hb dX6_group_215 rfl (lv_at hl 3 rfl) ?_
                    refine lv_lload hx hb dX6_group_216 (lv_at hl 2 rfl) ?_
                    refine lv_aload_n hx hb dX6_group_218 rfl (lv_at hl 3 rfl) ?_
                    refine va_get (D := D) (ci := 6) (v := .long vg) (C := RX6) (T := TX6) (N := 15) hx hb hts (by decide +kernel) hown hK hP 0 rfl rfl 14 (by decide) (hts (.fieldLink RX6 103 "JoinDeskModel" "greatest" "J") (by decide +kernel)) (fun _ h9 => h9) rfl dX6_group_219 ?_
                    refine W.lcmp hx hb dX6_group_222 ?_
                    refine lv_topi (fun z_23 e_z_23 => ?_)
                    refine lv_if_le (tgt := 231) hx hb dX6_group_223 (by decide) (fun cl2 => ?_) (fun cl2 => ?_)
                    · refine lv_aload_n hx hb dX6_group_231 rfl (lv_at hl 3 rfl) ?_
                      refine va_get (D := D) (ci := 6) (v := .long vg) (C := RX6) (T := TX6) (N := 15) hx hb hts (by decide +kernel) hown hK hP 0 rfl rfl 14 (by decide) (hts (.fieldLink RX6 103 "JoinDeskModel" "greatest" "J") (by decide +kernel)) (fun _ h9 => h9) rfl dX6_group_232 ?_
                      refine va_put (D := D) (ci := 6) (v := .long vg) (ty := .long) (C := RX6) (T := TX6) (N := 15) hx hb hts (by decide +kernel) tyX6 tyX6_ok nmX6 hown hK hP hD hS 0 rfl rfl 14 (by decide) (hts (.fieldLink RX6 103 "JoinDeskModel" "greatest" "J") (by decide +kernel)) (fun _ h9 => h9) rfl (by decide +kernel) rfl rfl (Nat.le_of_ble_eq_true rfl) dX6_group_235 (fun H locs hP hD hS => ?_)
                      have hP : va_P D vwCl [(mo, .inr (6, [.int 0, .ref q1, .int (nI g), .ref q3, .ref q4, .ref q5, .ref q6, .int 1, .int 1, .int kd, .long w10, .ref q11, .int mk, .long vl, .long vg])), (q3, .inl (cI, 800, .inl m3)), (q4, .inl (cI, 800, .inl m4)), (q5, .inl (cI, 800, .inl m5)), (q6, .inl (cI, 2, .inl (jl [nI n, nI n2])))] H := hP
                      have hD : va_D A [(mo, .inr (6, [.int 0, .ref q1, .int (nI g), .ref q3, .ref q4, .ref q5, .ref q6, .int 1, .int 1, .int kd, .long w10, .ref q11, .int mk, .long vl, .long vg])), (q3, .inl (cI, 800, .inl m3)), (q4, .inl (cI, 800, .inl m4)), (q5, .inl (cI, 800, .inl m5)), (q6, .inl (cI, 2, .inl (jl [nI n, nI n2])))] := hD
                      refine lv_iinc (v := nI (j + 1)) (lv' := [(10, .int (nI (j + 1))), (7, .long (v7 + 1)), (5, .long (v5 + (((m4 (nI i).toNatClampNeg).toInt64) * ((m4 (nI (400 + j)).toNatClampNeg).toInt64)))), (11, .long (((m4 (nI i).toNatClampNeg).toInt64) * ((m4 (nI (400 + j)).toNatClampNeg).toInt64))), (0, .ref mo), (1, .int (nI mm)), (2, .int 2), (3, .int 1), (4, .int (jmk 0 m3 m5 p9)), (9, .int (nI i))]) hx hb dX6_group_238 hl (k := 9) rfl (nI_1 _) (by decide) rfl (fun ls hl => ?_)
                      refine lv_goto (tgt := 117) hx hb dX6_group_241 (by decide) ?_
                      exact ih_2 (j + 1) (v5 + (((m4 (nI i).toNatClampNeg).toInt64) * ((m4 (nI (400 + j)).toNatClampNeg).toInt64))) (v7 + 1) vl vg (by rw [nI_leI (by omega) (by omega)] at cgb; omega) (by rw [nI_leI (by omega) (by omega)] at cgb; omega) (by rw [jsh0 (m := m4) (i := i) (by omega), jsh4 (m := m4) (i := j) (by rw [nI_leI (by omega) (by omega)] at cgb; omega)] at e_z_22 e_z_23 ⊢; exact jrw_hit hrw2 (by rw [nI_leI (by omega) (by omega)] at cgb; omega) (by rw [jsh0 (m := m3) (i := i) (by omega)] at ckx; exact ckx) (by rw [jsh4 (m := m3) (i := j) (by rw [nI_leI (by omega) (by omega)] at cgb; omega)] at cky; exact cky) (Or.inl ⟨rfl, jlc_ge e_z_22 cl1⟩) (Or.inl ⟨rfl, jlc_le e_z_23 cl2⟩)) _ _ hP hD hS ls (lv_sub hl [4, 5, 6, 7, 8, 2, 1, 9, 0] rfl)
                    · refine lv_lload hx hb dX6_group_226 (lv_at hl 2 rfl) ?_
                      refine lv_goto (tgt := 235) hx hb dX6_group_228 (by decide) ?_
                      refine va_put (D := D) (ci := 6) (v := .long (((m4 (nI i).toNatClampNeg).toInt64) * ((m4 (nI (400 + j)).toNatClampNeg).toInt64))) (ty := .long) (C := RX6) (T := TX6) (N := 15) hx hb hts (by decide +kernel) tyX6 tyX6_ok nmX6 hown hK hP hD hS 0 rfl rfl 14 (by decide) (hts (.fieldLink RX6 103 "JoinDeskModel" "greatest" "J") (by decide +kernel)) (fun _ h9 => h9) rfl (by decide +kernel) rfl rfl (Nat.le_of_ble_eq_true rfl) dX6_group_235 (fun H locs hP hD hS => ?_)
                      have hP : va_P D vwCl [(mo, .inr (6, [.int 0, .ref q1, .int (nI g), .ref q3, .ref q4, .ref q5, .ref q6, .int 1, .int 1, .int kd, .long w10, .ref q11, .int mk, .long vl, .long (((m4 (nI i).toNatClampNeg).toInt64) * ((m4 (nI (400 + j)).toNatClampNeg).toInt64))])), (q3, .inl (cI, 800, .inl m3)), (q4, .inl (cI, 800, .inl m4)), (q5, .inl (cI, 800, .inl m5)), (q6, .inl (cI, 2, .inl (jl [nI n, nI n2])))] H := hP
                      have hD : va_D A [(mo, .inr (6, [.int 0, .ref q1, .int (nI g), .ref q3, .ref q4, .ref q5, .ref q6, .int 1, .int 1, .int kd, .long w10, .ref q11, .int mk, .long vl, .long (((m4 (nI i).toNatClampNeg).toInt64) * ((m4 (nI (400 + j)).toNatClampNeg).toInt64))])), (q3, .inl (cI, 800, .inl m3)), (q4, .inl (cI, 800, .inl m4)), (q5, .inl (cI, 800, .inl m5)), (q6, .inl (cI, 2, .inl (jl [nI n, nI n2])))] := hD
                      refine lv_iinc (v := nI (j + 1)) (lv' := [(10, .int (nI (j + 1))), (7, .long (v7 + 1)), (5, .long (v5 + (((m4 (nI i).toNatClampNeg).toInt64) * ((m4 (nI (400 + j)).toNatClampNeg).toInt64)))), (11, .long (((m4 (nI i).toNatClampNeg).toInt64) * ((m4 (nI (400 + j)).toNatClampNeg).toInt64))), (0, .ref mo), (1, .int (nI mm)), (2, .int 2), (3, .int 1), (4, .int (jmk 0 m3 m5 p9)), (9, .int (nI i))]) hx hb dX6_group_238 hl (k := 9) rfl (nI_1 _) (by decide) rfl (fun ls hl => ?_)
                      refine lv_goto (tgt := 117) hx hb dX6_group_241 (by decide) ?_
                      exact ih_2 (j + 1) (v5 + (((m4 (nI i).toNatClampNeg).toInt64) * ((m4 (nI (400 + j)).toNatClampNeg).toInt64))) (v7 + 1) vl (((m4 (nI i).toNatClampNeg).toInt64) * ((m4 (nI (400 + j)).toNatClampNeg).toInt64)) (by rw [nI_leI (by omega) (by omega)] at cgb; omega) (by rw [nI_leI (by omega) (by omega)] at cgb; omega) (by rw [jsh0 (m := m4) (i := i) (by omega), jsh4 (m := m4) (i := j) (by rw [nI_leI (by omega) (by omega)] at cgb; omega)] at e_z_22 e_z_23 ⊢; exact jrw_hit hrw2 (by rw [nI_leI (by omega) (by omega)] at cgb; omega) (by rw [jsh0 (m := m3) (i := i) (by omega)] at ckx; exact ckx) (by rw [jsh4 (m := m3) (i := j) (by rw [nI_leI (by omega) (by omega)] at cgb; omega)] at cky; exact cky) (Or.inl ⟨rfl, jlc_ge e_z_22 cl1⟩) (Or.inr ⟨rfl, jlc_nle e_z_23 cl2⟩)) _ _ hP hD hS ls (lv_sub hl [4, 5, 6, 7, 8, 2, 1, 9, 0] rfl)
                  · refine lv_lload hx hb dX6_group_203 (lv_at hl 2 rfl) ?_
                    refine lv_goto (tgt := 212) hx hb dX6_group_205 (by decide) ?_
                    refine va_put (D := D) (ci := 6) (v := .long (((m4 (nI i).toNatClampNeg).toInt64) * ((m4 (nI (400 + j)).toNatClampNeg).toInt64))) (ty := .long) (C := RX6) (T := TX6) (N := 15) hx hb hts (by decide +kernel) tyX6 tyX6_ok nmX6 hown hK hP hD hS 0 rfl rfl 13 (by decide) (hts (.fieldLink RX6 98 "JoinDeskModel" "least" "J") (by decide +kernel)) (fun _ h9 => h9) rfl (by decide +kernel) rfl rfl (Nat.le_of_ble_eq_true rfl) dX6_group_212 (fun H locs hP hD hS => ?_)
                    have hP : va_P D vwCl [(mo, .inr (6, [.int 0, .ref q1, .int (nI g), .ref q3, .ref q4, .ref q5, .ref q6, .int 1, .int 1, .int kd, .long w10, .ref q11, .int mk, .long (((m4 (nI i).toNatClampNeg).toInt64) * ((m4 (nI (400 + j)).toNatClampNeg).toInt64)), .long vg])), (q3, .inl (cI, 800, .inl m3)), (q4, .inl (cI, 800, .inl m4)), (q5, .inl (cI, 800, .inl m5)), (q6, .inl (cI, 2, .inl (jl [nI n, nI n2])))] H := hP
                    have hD : va_D A [(mo, .inr (6, [.int 0, .ref q1, .int (nI g), .ref q3, .ref q4, .ref q5, .ref q6, .int 1, .int 1, .int kd, .long w10, .ref q11, .int mk, .long (((m4 (nI i).toNatClampNeg).toInt64) * ((m4 (nI (400 + j)).toNatClampNeg).toInt64)), .long vg])), (q3, .inl (cI, 800, .inl m3)), (q4, .inl (cI, 800, .inl m4)), (q5, .inl (cI, 800, .inl m5)), (q6, .inl (cI, 2, .inl (jl [nI n, nI n2])))] := hD
                    refine lv_aload_n hx hb dX6_group_215 rfl (lv_at hl 3 rfl) ?_
                    refine lv_lload hx hb dX6_group_216 (lv_at hl 2 rfl) ?_
                    refine lv_aload_n hx hb dX6_group_218 rfl (lv_at hl 3 rfl) ?_
                    refine va_get (D := D) (ci := 6) (v := .long vg) (C := RX6) (T := TX6) (N := 15) hx hb hts (by decide +kernel) hown hK hP 0 rfl rfl 14 (by decide) (hts (.fieldLink RX6 103 "JoinDeskModel" "greatest" "J") (by decide +kernel)) (fun _ h9 => h9) rfl dX6_group_219 ?_
                    refine W.lcmp hx hb dX6_group_222 ?_
                    refine lv_topi (fun z_24 e_z_24 => ?_)
                    refine lv_if_le (tgt := 231) hx hb dX6_group_223 (by decide) (fun cl2 => ?_) (fun cl2 => ?_)
                    · refine lv_aload_n hx hb dX6_group_231 rfl (lv_at hl 3 rfl) ?_
                      refine va_get (D := D) (ci := 6) (v := .long vg) (C := RX6) (T := TX6) (N := 15) hx hb hts (by decide +kernel) hown hK hP 0 rfl rfl 14 (by decide) (hts (.fieldLink RX6 103 "JoinDeskModel" "greatest" "J") (by decide +kernel)) (fun _ h9 => h9) rfl dX6_group_232 ?_
                      refine va_put (D := D) (ci := 6) (v := .long vg) (ty := .long) (C := RX6) (T := TX6) (N := 15) hx hb hts (by decide +kernel) tyX6 tyX6_ok nmX6 hown hK hP hD hS 0 rfl rfl 14 (by decide) (hts (.fieldLink RX6 103 "JoinDeskModel" "greatest" "J") (by decide +kernel)) (fun _ h9 => h9) rfl (by decide +kernel) rfl rfl (Nat.le_of_ble_eq_true rfl) dX6_group_235 (fun H locs hP hD hS => ?_)
                      have hP : va_P D vwCl [(mo, .inr (6, [.int 0, .ref q1, .int (nI g), .ref q3, .ref q4, .ref q5, .ref q6, .int 1, .int 1, .int kd, .long w10, .ref q11, .int mk, .long (((m4 (nI i).toNatClampNeg).toInt64) * ((m4 (nI (400 + j)).toNatClampNeg).toInt64)), .long vg])), (q3, .inl (cI, 800, .inl m3)), (q4, .inl (cI, 800, .inl m4)), (q5, .inl (cI, 800, .inl m5)), (q6, .inl (cI, 2, .inl (jl [nI n, nI n2])))] H := hP
                      have hD : va_D A [(mo, .inr (6, [.int 0, .ref q1, .int (nI g), .ref q3, .ref q4, .ref q5, .ref q6, .int 1, .int 1, .int kd, .long w10, .ref q11, .int mk, .long (((m4 (nI i).toNatClampNeg).toInt64) * ((m4 (nI (400 + j)).toNatClampNeg).toInt64)), .long vg])), (q3, .inl (cI, 800, .inl m3)), (q4, .inl (cI, 800, .inl m4)), (q5, .inl (cI, 800, .inl m5)), (q6, .inl (cI, 2, .inl (jl [nI n, nI n2])))] := hD
                      refine lv_iinc (v := nI (j + 1)) (lv' := [(10, .int (nI (j + 1))), (7, .long (v7 + 1)), (5, .long (v5 + (((m4 (nI i).toNatClampNeg).toInt64) * ((m4 (nI (400 + j)).toNatClampNeg).toInt64)))), (11, .long (((m4 (nI i).toNatClampNeg).toInt64) * ((m4 (nI (400 + j)).toNatClampNeg).toInt64))), (0, .ref mo), (1, .int (nI mm)), (2, .int 2), (3, .int 1), (4, .int (jmk 0 m3 m5 p9)), (9, .int (nI i))]) hx hb dX6_group_238 hl (k := 9) rfl (nI_1 _) (by decide) rfl (fun ls hl => ?_)
                      refine lv_goto (tgt := 117) hx hb dX6_group_241 (by decide) ?_
                      exact ih_2 (j + 1) (v5 + (((m4 (nI i).toNatClampNeg).toInt64) * ((m4 (nI (400 + j)).toNatClampNeg).toInt64))) (v7 + 1) (((m4 (nI i).toNatClampNeg).toInt64) * ((m4 (nI (400 + j)).toNatClampNeg).toInt64)) vg (by rw [nI_leI (by omega) (by omega)] at cgb; omega) (by rw [nI_leI (by omega) (by omega)] at cgb; omega) (by rw [jsh0 (m := m4) (i := i) (by omega), jsh4 (m := m4) (i := j) (by rw [nI_leI (by omega) (by omega)] at cgb; omega)] at e_z_22 e_z_24 ⊢; exact jrw_hit hrw2 (by rw [nI_leI (by omega) (by omega)] at cgb; omega) (by rw [jsh0 (m := m3) (i := i) (by omega)] at ckx; exact ckx) (by rw [jsh4 (m := m3) (i := j) (by rw [nI_leI (by omega) (by omega)] at cgb; omega)] at cky; exact cky) (Or.inr ⟨rfl, jlc_nge e_z_22 cl1⟩) (Or.inl ⟨rfl, jlc_le e_z_24 cl2⟩)) _ _ hP hD hS ls (lv_sub hl [4, 5, 6, 7, 8, 2, 1, 9, 0] rfl)
                    · refine lv_lload hx hb dX6_group_226 (lv_at hl 2 rfl) ?_
                      refine lv_goto (tgt := 235) hx hb dX6_group_228 (by decide) ?_
                      refine va_put (D := D) (ci := 6) (v := .long (((m4 (nI i).toNatClampNeg).toInt64) * ((m4 (nI (400 + j)).toNatClampNeg).toInt64))) (ty := .long) (C := RX6) (T := TX6) (N := 15) hx hb hts (by decide +kernel) tyX6 tyX6_ok nmX6 hown hK hP hD hS 0 rfl rfl 14 (by decide) (hts (.fieldLink RX6 103 "JoinDeskModel" "greatest" "J") (by decide +kernel)) (fun _ h9 => h9) rfl (by decide +kernel) rfl rfl (Nat.le_of_ble_eq_true rfl) dX6_group_235 (fun H locs hP hD hS => ?_)
                      have hP : va_P D vwCl [(mo, .inr (6, [.int 0, .ref q1, .int (nI g), .ref q3, .ref q4, .ref q5, .ref q6, .int 1, .int 1, .int kd, .long w10, .ref q11, .int mk, .long (((m4 (nI i).toNatClampNeg).toInt64) * ((m4 (nI (400 + j)).toNatClampNeg).toInt64)), .long (((m4 (nI i).toNatClampNeg).toInt64) * ((m4 (nI (400 + j)).toNatClampNeg).toInt64))])), (q3, .inl (cI, 800, .inl m3)), (q4, .inl (cI, 800, .inl m4)), (q5, .inl (cI, 800, .inl m5)), (q6, .inl (cI, 2, .inl (jl [nI n, nI n2])))] H := hP
                      have hD : va_D A [(mo, .inr (6, [.int 0, .ref q1, .int (nI g), .ref q3, .ref q4, .ref q5, .ref q6, .int 1, .int 1, .int kd, .long w10, .ref q11, .int mk, .long (((m4 (nI i).toNatClampNeg).toInt64) * ((m4 (nI (400 + j)).toNatClampNeg).toInt64)), .long (((m4 (nI i).toNatClampNeg).toInt64) * ((m4 (nI (400 + j)).toNatClampNeg).toInt64))])), (q3, .inl (cI, 800, .inl m3)), (q4, .inl (cI, 800, .inl m4)), (q5, .inl (cI, 800, .inl m5)), (q6, .inl (cI, 2, .inl (jl [nI n, nI n2])))] := hD
                      refine lv_iinc (v := nI (j + 1)) (lv' := [(10, .int (nI (j + 1))), (7, .long (v7 + 1)), (5, .long (v5 + (((m4 (nI i).toNatClampNeg).toInt64) * ((m4 (nI (400 + j)).toNatClampNeg).toInt64)))), (11, .long (((m4 (nI i).toNatClampNeg).toInt64) * ((m4 (nI (400 + j)).toNatClampNeg).toInt64))), (0, .ref mo), (1, .int (nI mm)), (2, .int 2), (3, .int 1), (4, .int (jmk 0 m3 m5 p9)), (9, .int (nI i))]) hx hb dX6_group_238 hl (k := 9) rfl (nI_1 _) (by decide) rfl (fun ls hl => ?_)
                      refine lv_goto (tgt := 117) hx hb dX6_group_241 (by decide) ?_
                      exact ih_2 (j + 1) (v5 + (((m4 (nI i).toNatClampNeg).toInt64) * ((m4 (nI (400 + j)).toNatClampNeg).toInt64))) (v7 + 1) (((m4 (nI i).toNatClampNeg).toInt64) * ((m4 (nI (400 + j)).toNatClampNeg).toInt64)) (((m4 (nI i).toNatClampNeg).toInt64) * ((m4 (nI (400 + j)).toNatClampNeg).toInt64)) (by rw [nI_leI (by omega) (by omega)] at cgb; omega) (by rw [nI_leI (by omega) (by omega)] at cgb; omega) (by rw [jsh0 (m := m4) (i := i) (by omega), jsh4 (m := m4) (i := j) (by rw [nI_leI (by omega) (by omega)] at cgb; omega)] at e_z_22 e_z_24 ⊢; exact jrw_hit hrw2 (by rw [nI_leI (by omega) (by omega)] at cgb; omega) (by rw [jsh0 (m := m3) (i := i) (by omega)] at ckx; exact ckx) (by rw [jsh4 (m := m3) (i := j) (by rw [nI_leI (by omega) (by omega)] at cgb; omega)] at cky; exact cky) (Or.inr ⟨rfl, jlc_nge e_z_22 cl1⟩) (Or.inr ⟨rfl, jlc_nle e_z_24 cl2⟩)) _ _ hP hD hS ls (lv_sub hl [4, 5, 6, 7, 8, 2, 1, 9, 0] rfl)
        exact hloop_2 (n2 - 0 + 1) 0 u5 u7 ul ug (Nat.lt_succ_self _) (Nat.zero_le _) (hrw) _ _ hP hD hS ls (lv_sub hl [1, 2, 3, 4, 5, 6, 7, 8, 0] rfl)
  exact hloop_1 (n - 0 + 1) 0 0 0 (9223372036854775807) (-9223372036854775808) (Nat.lt_succ_self _) (Nat.zero_le _) (jrw_0) _ _ hP hD hS ls (lv_sub hl [5, 6, 7, 4, 3, 2, 1, 0] rfl)
set_option maxHeartbeats 1000000 in
set_option maxRecDepth 100000 in
theorem gM_group_13 (l : Launch) (D : va_G) (cI cL cQ : ClassId) (mo : Nat) (g : Nat) (n : Nat) (n2 : Nat) (q1 : Nat) (q3 : Nat) (q4 : Nat) (q5 : Nat) (q6 : Nat) (q11 : Nat) (z0 : Int32) (kd : Int32) (mk : Int32) (w10 : Int64) (w13 : Int64) (w14 : Int64) (m3 : Nat → Int32) (m4 : Nat → Int32) (m5 : Nat → Int32) (K1 : Nat → Int32) (K2 : Nat → Int32) (mm : Nat) (sz : Nat) (hn : n ≤ 400) (hn2 : n2 ≤ 400) (h5 : jo5 m5) (hk1 : ∀ i, i < n → jmk 0 m3 m5 i = K1 i) (hct : ∀ x, jCt n2 (jsh 400 m3) x = jCt n2 K2 x) (hm : mm < jGn n2 K1 K2 n) (hro : ∀ i, i < n → ∃ k, k < n ∧ jsh 0 m3 k = jmk 0 m3 m5 i) : Met l yX6_group wsX6_group ({ frames := 2, cells := 0, slots := 0, locals := 48 }) (jw_P D vwCl (jT cI cL cQ) cL cQ [.ref mo, .int (nI mm), .int 3] [(mo, .inr (6, [.int z0, .ref q1, .int (nI g), .ref q3, .ref q4, .ref q5, .ref q6, .int 1, .int 1, .int kd, .long w10, .ref q11, .int mk, .long w13, .long w14])), (q3, .inl (cI, 800, .inl m3)), (q4, .inl (cI, 800, .inl m4)), (q5, .inl (cI, 800, .inl m5)), (q6, .inl (cI, 2, .inl (jl [nI n, nI n2])))] sz) (va_Ql (fun (r : Int64) (u : va_W) => ∃ (p9 : Nat) (f0 : Int64) (f1 : Int64) (f2 : Int64) (f3 : Int64) (f4 : Int64), r = f3 ∧ u = [(mo, .inr (6, [.int 0, .ref q1, .int (nI g), .ref q3, .ref q4, .ref q5, .ref q6, .int 1, .int 1, .int kd, .long w10, .ref q11, .int mk, .long f3, .long f4])), (q3, .inl (cI, 800, .inl m3)), (q4, .inl (cI, 800, .inl m4)), (q5, .inl (cI, 800, .inl m5)), (q6, .inl (cI, 2, .inl (jl [nI n, nI n2])))] ∧ (p9 < n) ∧ (jGb n2 K1 K2 p9 = true) ∧ (jGn n2 K1 K2 p9 = mm) ∧ (jGf n n2 (jsh 0 m3) (jsh 0 m4) (jsh 400 m3) (jsh 400 m4) (K1 p9) f0 f1 f2 f3 f4)) (jw_B D vwCl (va_A [(mo, .inr (6, [.int z0, .ref q1, .int (nI g), .ref q3, .ref q4, .ref q5, .ref q6, .int 1, .int 1, .int kd, .long w10, .ref q11, .int mk, .long w13, .long w14])), (q3, .inl (cI, 800, .inl m3)), (q4, .inl (cI, 800, .inl m4)), (q5, .inl (cI, 800, .inl m5)), (q6, .inl (cI, 2, .inl (jl [nI n, nI n2])))] sz) (fun u : va_W => u)) (va_A [(mo, .inr (6, [.int z0, .ref q1, .int (nI g), .ref q3, .ref q4, .ref q5, .ref q6, .int 1, .int 1, .int kd, .long w10, .ref q11, .int mk, .long w13, .long w14])), (q3, .inl (cI, 800, .inl m3)), (q4, .inl (cI, 800, .inl m4)), (q5, .inl (cI, 800, .inl m5)), (q6, .inl (cI, 2, .inl (jl [nI n, nI n2])))] sz)) 0 0 (va_A [(mo, .inr (6, [.int z0, .ref q1, .int (nI g), .ref q3, .ref q4, .ref q5, .ref q6, .int 1, .int 1, .int kd, .long w10, .ref q11, .int mk, .long w13, .long w14])), (q3, .inl (cI, 800, .inl m3)), (q4, .inl (cI, 800, .inl m4)), (q5, .inl (cI, 800, .inl m5)), (q6, .inl (cI, 2, .inl (jl [nI n, nI n2])))] sz) := by
  refine Met.ofW (cc := cX6_group) (maxL := 13) (ret := (some .long)) (by decide) rfl ?_
  intro p e s m args below meth c s₁ B hml hv
  obtain ⟨rfl, hsz, hP, hK, hN, hD0⟩ := hv
  have hx := B.exec
  have hb := B.bytes
  have hr := B.returns
  have hts := atoms_spec (ws := wsX6_group) B.pre
  have hown : s.vm.findClass RX6 = some m.cls := findClass_of_methodNamed B.named
  have hlocks := B.notSynchronized
  subst hsz
  have hD := hD0.self (sz := s.heap.size)
  generalize hAe : va_A [(mo, .inr (6, [.int z0, .ref q1, .int (nI g), .ref q3, .ref q4, .ref q5, .ref q6, .int 1, .int 1, .int kd, .long w10, .ref q11, .int mk, .long w13, .long w14])), (q3, .inl (cI, 800, .inl m3)), (q4, .inl (cI, 800, .inl m4)), (q5, .inl (cI, 800, .inl m5)), (q6, .inl (cI, 2, .inl (jl [nI n, nI n2])))] s.heap.size = A at hD ⊢
  have hA : ∀ q : Nat, s.heap.size ≤ q → A q := fun q h => by rw [← hAe]; exact Or.inr h
  have hS : va_S A s.heap s.heap [] := va_S.rf
  have hl := lv_entry ([.ref mo, .int (nI mm), .int 3]) (n := 13) (Nat.le_of_ble_eq_true rfl)
  rw [lg_entry_eq]
  generalize (lg_sl ([.ref mo, .int (nI mm), .int 3]) ++ List.replicate (13 - (lg_sl ([.ref mo, .int (nI mm), .int 3])).length) Slot.unset).toArray = ls at hl ⊢
  have hl : lv_has ls 13 [(0, .ref mo), (1, .int (nI mm)), (2, .int 3)] := hl
  refine lv_aload_n hx hb dX6_group_0 rfl (lv_at hl 0 rfl) ?_
  refine va_get (D := D) (ci := 6) (v := .int 1) (C := RX6) (T := TX6) (N := 15) hx hb hts (by decide +kernel) hown hK hP 0 rfl rfl 7 (by decide) (hts (.fieldLink RX6 43 "JoinDeskModel" "prepared" "Z") (by decide +kernel)) (fun _ h9 => h9) rfl dX6_group_1 ?_
  refine lv_if_eq (tgt := 18) hx hb dX6_group_4 (by decide) (fun c_1 => absurd c_1 (by decide)) (fun c_1 => ?_)
  refine lv_aload_n hx hb dX6_group_7 rfl (lv_at hl 0 rfl) ?_
  refine va_get (D := D) (ci := 6) (v := .int 1) (C := RX6) (T := TX6) (N := 15) hx hb hts (by decide +kernel) hown hK hP 0 rfl rfl 8 (by decide) (hts (.fieldLink RX6 47 "JoinDeskModel" "grouped" "Z") (by decide +kernel)) (fun _ h9 => h9) rfl dX6_group_8 ?_
  refine lv_if_eq (tgt := 18) hx hb dX6_group_11 (by decide) (fun c_2 => absurd c_2 (by decide)) (fun c_2 => ?_)
  refine lv_iconst (v := 1) hx hb dX6_group_14 (by decide) ?_
  refine lv_goto (tgt := 19) hx hb dX6_group_15 (by decide) ?_
  refine lv_istore_n (lv' := [(3, .int 1), (0, .ref mo), (1, .int (nI mm)), (2, .int 3)]) hx hb dX6_group_19 rfl hl (by decide) rfl (fun ls hl => ?_)
  refine lv_aload_n hx hb dX6_group_20 rfl (lv_at hl 1 rfl) ?_
  refine lv_iload_n hx hb dX6_group_21 rfl (lv_at hl 2 rfl) ?_
  refine lv_if_lt (tgt := 47) hx hb dX6_group_22 (by decide) (fun c_3 => absurd c_3 (by exact nI_pos (by have := jGn_le (n2 := n2) (K1 := K1) (K2 := K2) n; omega))) (fun c_3 => ?_)
  refine lv_iload_n hx hb dX6_group_25 rfl (lv_at hl 3 rfl) ?_
  refine lv_if_lt (tgt := 47) hx hb dX6_group_26 (by decide) (fun c_4 => absurd c_4 (by decide)) (fun c_4 => ?_)
  refine lv_iload_n hx hb dX6_group_29 rfl (lv_at hl 3 rfl) ?_
  refine lv_iconst (v := 4) hx hb dX6_group_30 (by decide) ?_
  refine lv_icmp_gt (tgt := 47) hx hb dX6_group_31 (by decide) (fun c_5 => absurd c_5 (by decide)) (fun c_5 => ?_)
  refine lv_iload_n hx hb dX6_group_34 rfl (lv_at hl 0 rfl) ?_
  refine lv_if_eq (tgt := 51) hx hb dX6_group_35 (by decide) (fun c_6 => absurd c_6 (by decide)) (fun c_6 => ?_)
  refine lv_iload_n hx hb dX6_group_38 rfl (lv_at hl 2 rfl) ?_
  refine lv_aload_n hx hb dX6_group_39 rfl (lv_at hl 1 rfl) ?_
  refine lv_iconst (v := (-1)) hx hb dX6_group_40 (by decide) ?_
  refine vp_callSi (va_Run.run (va_runV (As := [.int (-1)]) (rest := [.int (nI mm), .ref mo]) ⟨hx, hb, hml, hown, hts⟩ (gM_groupAt_m l D cI cL cQ mo g n n2 q1 q3 q4 q5 q6 q11 z0 1 1 kd mk w10 w13 w14 m3 m5 K1 K2 (by first | assumption | decide | omega) (by first | assumption | decide | omega) (by first | assumption | decide | omega) (by first | assumption | decide | omega) (by first | assumption | decide | omega)) (cwV 1 hts gX6_group_X6_groupAt rfl rfl rfl (by decide +kernel) ⟨Nat.le_of_ble_eq_true rfl, Nat.le_of_ble_eq_true rfl⟩) (jr_V hK hN hP [0, 1, 3, 4] rfl 6 0 rfl rfl rfl) rfl rfl hl.1 rfl (lv_room (Nat.le_of_ble_eq_true rfl)) dX6_group_41 ⟨Nat.le_of_ble_eq_true rfl, Nat.le_of_ble_eq_true rfl⟩)) (fun r f_7 => ?_)
  obtain rfl := f_7
  refine lv_icmp_lt (tgt := 51) hx hb dX6_group_44 (by decide) (fun c_8 => ?_) (fun c_8 => absurd c_8 (by exact fun h => h (nI_lt hm (by have := jGn_le (n2 := n2) (K1 := K1) (K2 := K2) n; omega))))
  refine lv_iload_n hx hb dX6_group_51 rfl (lv_at hl 0 rfl) ?_
  refine lv_if_eq (tgt := 59) hx hb dX6_group_52 (by decide) (fun c_9 => absurd c_9 (by decide)) (fun c_9 => ?_)
  refine lv_iconst (v := 0) hx hb dX6_group_55 (by decide) ?_
  refine lv_goto (tgt := 60) hx hb dX6_group_56 (by decide) ?_
  refine jw_i (wr := [(q3, .inl (cI, 800, .inl m3)), (q4, .inl (cI, 800, .inl m4)), (q5, .inl (cI, 800, .inl m5)), (q6, .inl (cI, 2, .inl (jl [nI n, nI n2])))]) (va_runV (As := [.int 0]) (rest := []) ⟨hx, hb, hml, hown, hts⟩ (gM_refuses_0 l D cI cL cQ mo g q1 q3 q4 q5 q6 q11 z0 1 1 kd mk w10 w13 w14 _) (cwV 1 hts gX6_group_X6_refuses rfl rfl rfl (by decide +kernel) ⟨Nat.le_of_ble_eq_true rfl, Nat.le_of_ble_eq_true rfl⟩) (jw_V hK hN hP hD [0] (by decide) rfl 6 0 rfl rfl rfl) rfl rfl hl.1 rfl (lv_room (Nat.le_of_ble_eq_true rfl)) dX6_group_60 ⟨Nat.le_of_ble_eq_true rfl, Nat.le_of_ble_eq_true rfl⟩) hP hD hS hA [0] [1, 2, 3, 4] rfl rfl (by decide) (by decide) (fun r u H locs f_10 hP hD hS => ?_)
  obtain ⟨rfl, rfl⟩ := f_10
  have hP : va_P D vwCl [(q3, .inl (cI, 800, .inl m3)), (q4, .inl (cI, 800, .inl m4)), (q5, .inl (cI, 800, .inl m5)), (q6, .inl (cI, 2, .inl (jl [nI n, nI n2]))), (mo, .inr (6, [.int 0, .ref q1, .int (nI g), .ref q3, .ref q4, .ref q5, .ref q6, .int 1, .int 1, .int kd, .long w10, .ref q11, .int mk, .long w13, .long w14]))] H := hP
  have hD : va_D A [(q3, .inl (cI, 800, .inl m3)), (q4, .inl (cI, 800, .inl m4)), (q5, .inl (cI, 800, .inl m5)), (q6, .inl (cI, 2, .inl (jl [nI n, nI n2]))), (mo, .inr (6, [.int 0, .ref q1, .int (nI g), .ref q3, .ref q4, .ref q5, .ref q6, .int 1, .int 1, .int kd, .long w10, .ref q11, .int mk, .long w13, .long w14]))] := hD
  refine lv_if_eq (tgt := 68) hx hb dX6_group_63 (by decide) (fun c_11 => ?_) (fun c_11 => absurd c_11 (by decide))
  refine lv_aload_n hx hb dX6_group_68 rfl (lv_at hl 1 rfl) ?_
  refine lv_iconst (v := 0) hx hb dX6_group_69 (by decide) ?_
  refine lv_aload_n hx hb dX6_group_70 rfl (lv_at hl 1 rfl) ?_
  refine lv_iload_n hx hb dX6_group_71 rfl (lv_at hl 2 rfl) ?_
  refine vp_callSi (va_Run.run (va_runV (As := [.int (nI mm)]) (rest := [.int 0, .ref mo]) ⟨hx, hb, hml, hown, hts⟩ (gM_groupAt_i l D cI cL cQ mo g n n2 q1 q3 q4 q5 q6 q11 0 1 1 kd mk w10 w13 w14 m3 m5 K1 K2 mm (by first | assumption | decide | omega) (by first | assumption | decide | omega) (by first | assumption | decide | omega) (by first | assumption | decide | omega) (by first | assumption | decide | omega) (by first | assumption | decide | omega) (by have := jGn_le (n2 := n2) (K1 := K1) (K2 := K2) n; omega)) (cwV 1 hts gX6_group_X6_groupAt rfl rfl rfl (by decide +kernel) ⟨Nat.le_of_ble_eq_true rfl, Nat.le_of_ble_eq_true rfl⟩) (jr_V hK hN hP [4, 0, 2, 3] rfl 6 4 rfl rfl rfl) rfl rfl hl.1 rfl (lv_room (Nat.le_of_ble_eq_true rfl)) dX6_group_72 ⟨Nat.le_of_ble_eq_true rfl, Nat.le_of_ble_eq_true rfl⟩)) (fun r f_12 => ?_)
  obtain ⟨p9, rfl, f_13, f_14, f_15⟩ := f_12
  refine vp_callSi (va_Run.run (va_runV (As := [.int 0, .int (nI p9)]) (rest := []) ⟨hx, hb, hml, hown, hts⟩ (gM_key_0 l D cI cL cQ mo g q1 q3 q4 q5 q6 q11 0 1 1 kd mk w10 w13 w14 m3 m5 p9 (by first | assumption | decide | omega) (by omega)) (cwV 2 hts gX6_group_X6_key rfl rfl rfl (by decide +kernel) ⟨Nat.le_of_ble_eq_true rfl, Nat.le_of_ble_eq_true rfl⟩) (jr_V hK hN hP [4, 0, 2] rfl 6 4 rfl rfl rfl) rfl rfl hl.1 rfl (lv_room (Nat.le_of_ble_eq_true rfl)) dX6_group_75 ⟨Nat.le_of_ble_eq_true rfl, Nat.le_of_ble_eq_true rfl⟩)) (fun r f_16 => ?_)
  obtain rfl := f_16
  refine lv_istore (lv' := [(4, .int (jmk 0 m3 m5 p9)), (3, .int 1), (0, .ref mo), (1, .int (nI mm)), (2, .int 3)]) hx hb dX6_group_78 hl (by decide) rfl (fun ls hl => ?_)
  refine lv_lconst (v := 0) hx hb dX6_group_80 (by decide) ?_
  refine lv_lstore (lv' := [(5, .long 0), (4, .int (jmk 0 m3 m5 p9)), (3, .int 1), (0, .ref mo), (1, .int (nI mm)), (2, .int 3)]) hx hb dX6_group_81 hl (by decide) rfl (fun ls hl => ?_)
  refine lv_lconst (v := 0) hx hb dX6_group_83 (by decide) ?_
  refine lv_lstore (lv' := [(7, .long 0), (5, .long 0), (4, .int (jmk 0 m3 m5 p9)), (3, .int 1), (0, .ref mo), (1, .int (nI mm)), (2, .int 3)]) hx hb dX6_group_84 hl (by decide) rfl (fun ls hl => ?_)
  refine lv_aload_n hx hb dX6_group_86 rfl (lv_at hl 4 rfl) ?_
  refine lv_ldc2 (v := (9223372036854775807)) hx hb hown (hts (.constantLong RX6 96 (9223372036854775807)) (by decide +kernel)) dX6_group_87 ?_
  refine va_put (D := D) (ci := 6) (v := .long (9223372036854775807)) (ty := .long) (C := RX6) (T := TX6) (N := 15) hx hb hts (by decide +kernel) tyX6 tyX6_ok nmX6 hown hK hP hD hS 4 rfl rfl 13 (by decide) (hts (.fieldLink RX6 98 "JoinDeskModel" "least" "J") (by decide +kernel)) (fun _ h9 => h9) rfl (by decide +kernel) rfl rfl (Nat.le_of_ble_eq_true rfl) dX6_group_90 (fun H locs hP hD hS => ?_)
  have hP : va_P D vwCl [(q3, .inl (cI, 800, .inl m3)), (q4, .inl (cI, 800, .inl m4)), (q5, .inl (cI, 800, .inl m5)), (q6, .inl (cI, 2, .inl (jl [nI n, nI n2]))), (mo, .inr (6, [.int 0, .ref q1, .int (nI g), .ref q3, .ref q4, .ref q5, .ref q6, .int 1, .int 1, .int kd, .long w10, .ref q11, .int mk, .long (9223372036854775807), .long w14]))] H := hP
  have hD : va_D A [(q3, .inl (cI, 800, .inl m3)), (q4, .inl (cI, 800, .inl m4)), (q5, .inl (cI, 800, .inl m5)), (q6, .inl (cI, 2, .inl (jl [nI n, nI n2]))), (mo, .inr (6, [.int 0, .ref q1, .int (nI g), .ref q3, .ref q4, .ref q5, .ref q6, .int 1, .int 1, .int kd, .long w10, .ref q11, .int mk, .long (9223372036854775807), .long w14]))] := hD
  refine lv_aload_n hx hb dX6_group_93 rfl (lv_at hl 4 rfl) ?_
  refine lv_ldc2 (v := (-9223372036854775808)) hx hb hown (hts (.constantLong RX6 101 (-9223372036854775808)) (by decide +kernel)) dX6_group_94 ?_
  refine va_put (D := D) (ci := 6) (v := .long (-9223372036854775808)) (ty := .long) (C := RX6) (T := TX6) (N := 15) hx hb hts (by decide +kernel) tyX6 tyX6_ok nmX6 hown hK hP hD hS 4 rfl rfl 14 (by decide) (hts (.fieldLink RX6 103 "JoinDeskModel" "greatest" "J") (by decide +kernel)) (fun _ h9 => h9) rfl (by decide +kernel) rfl rfl (Nat.le_of_ble_eq_true rfl) dX6_group_97 (fun H locs hP hD hS => ?_)
  have hP : va_P D vwCl [(q3, .inl (cI, 800, .inl m3)), (q4, .inl (cI, 800, .inl m4)), (q5, .inl (cI, 800, .inl m5)), (q6, .inl (cI, 2, .inl (jl [nI n, nI n2]))), (mo, .inr (6, [.int 0, .ref q1, .int (nI g), .ref q3, .ref q4, .ref q5, .ref q6, .int 1, .int 1, .int kd, .long w10, .ref q11, .int mk, .long (9223372036854775807), .long (-9223372036854775808)]))] H := hP
  have hD : va_D A [(q3, .inl (cI, 800, .inl m3)), (q4, .inl (cI, 800, .inl m4)), (q5, .inl (cI, 800, .inl m5)), (q6, .inl (cI, 2, .inl (jl [nI n, nI n2]))), (mo, .inr (6, [.int 0, .ref q1, .int (nI g), .ref q3, .ref q4, .ref q5, .ref q6, .int 1, .int 1, .int kd, .long w10, .ref q11, .int mk, .long (9223372036854775807), .long (-9223372036854775808)]))] := hD
  refine lv_iconst (v := 0) hx hb dX6_group_100 (by decide) ?_
  refine lv_istore (lv' := [(9, .int 0), (7, .long 0), (5, .long 0), (4, .int (jmk 0 m3 m5 p9)), (3, .int 1), (0, .ref mo), (1, .int (nI mm)), (2, .int 3)]) hx hb dX6_group_101 hl (by decide) rfl (fun ls hl => ?_)
  have hP := hP.sub (ws' := [(mo, .inr (6, [.int 0, .ref q1, .int (nI g), .ref q3, .ref q4, .ref q5, .ref q6, .int 1, .int 1, .int kd, .long w10, .ref q11, .int mk, .long (9223372036854775807), .long (-9223372036854775808)])), (q3, .inl (cI, 800, .inl m3)), (q4, .inl (cI, 800, .inl m4)), (q5, .inl (cI, 800, .inl m5)), (q6, .inl (cI, 2, .inl (jl [nI n, nI n2])))]) [4, 0, 1, 2, 3] rfl
  have hD := hD.sub (ws' := [(mo, .inr (6, [.int 0, .ref q1, .int (nI g), .ref q3, .ref q4, .ref q5, .ref q6, .int 1, .int 1, .int kd, .long w10, .ref q11, .int mk, .long (9223372036854775807), .long (-9223372036854775808)])), (q3, .inl (cI, 800, .inl m3)), (q4, .inl (cI, 800, .inl m4)), (q5, .inl (cI, 800, .inl m5)), (q6, .inl (cI, 2, .inl (jl [nI n, nI n2])))]) [4, 0, 1, 2, 3] (by decide) rfl
  have hloop_1 : ∀ (k_1 : Nat) (i : Nat) (u5 : Int64) (u7 : Int64) (ul : Int64) (ug : Int64), n - i < k_1 → (i ≤ n) → (jRw n2 (jsh 0 m3) (jsh 0 m4) (jsh 400 m3) (jsh 400 m4) (jmk 0 m3 m5 p9) i 0 u5 u7 ul ug) → ∀ (H : Heap) (locs : List Loc), va_P D vwCl [(mo, .inr (6, [.int 0, .ref q1, .int (nI g), .ref q3, .ref q4, .ref q5, .ref q6, .int 1, .int 1, .int kd, .long w10, .ref q11, .int mk, .long ul, .long ug])), (q3, .inl (cI, 800, .inl m3)), (q4, .inl (cI, 800, .inl m4)), (q5, .inl (cI, 800, .inl m5)), (q6, .inl (cI, 2, .inl (jl [nI n, nI n2])))] H → va_D A [(mo, .inr (6, [.int 0, .ref q1, .int (nI g), .ref q3, .ref q4, .ref q5, .ref q6, .int 1, .int 1, .int kd, .long w10, .ref q11, .int mk, .long ul, .long ug])), (q3, .inl (cI, 800, .inl m3)), (q4, .inl (cI, 800, .inl m4)), (q5, .inl (cI, 800, .inl m5)), (q6, .inl (cI, 2, .inl (jl [nI n, nI n2])))] → va_S A s.heap H locs → ∀ ls : Array Slot, lv_has ls 13 [(0, .ref mo), (1, .int (nI mm)), (2, .int 3), (3, .int 1), (4, .int (jmk 0 m3 m5 p9)), (5, .long u5), (7, .long u7), (9, .int (nI i))] → W p l e (headSpec wsX6_group ({ frames := 2, cells := 0, slots := 0, locals := 48 })).room s m #[.ref mo, .int (nI mm), .int 3] below meth c H locs 0 0 (MQ below (va_Ql (fun (r : Int64) (u : va_W) => ∃ (p9 : Nat) (f0 : Int64) (f1 : Int64) (f2 : Int64) (f3 : Int64) (f4 : Int64), r = f3 ∧ u = [(mo, .inr (6, [.int 0, .ref q1, .int (nI g), .ref q3, .ref q4, .ref q5, .ref q6, .int 1, .int 1, .int kd, .long w10, .ref q11, .int mk, .long f3, .long f4])), (q3, .inl (cI, 800, .inl m3)), (q4, .inl (cI, 800, .inl m4)), (q5, .inl (cI, 800, .inl m5)), (q6, .inl (cI, 2, .inl (jl [nI n, nI n2])))] ∧ (p9 < n) ∧ (jGb n2 K1 K2 p9 = true) ∧ (jGn n2 K1 K2 p9 = mm) ∧ (jGf n n2 (jsh 0 m3) (jsh 0 m4) (jsh 400 m3) (jsh 400 m4) (K1 p9) f0 f1 f2 f3 f4)) (jw_B D vwCl A (fun u : va_W => u)) A) #[.ref mo, .int (nI mm), .int 3] s 0 0 A) (F0 m 103 ls []) := by
    intro k_1
    induction k_1 with
    | zero => exact fun _ _ _ _ _ hm => absurd hm (Nat.not_lt_zero _)
    | succ k_1 ih_1 =>
      intro i u5 u7 ul ug hm1 hi hrw H locs hP hD hS ls hl
      refine lv_iload hx hb dX6_group_103 (lv_at hl 7 rfl) ?_
      refine lv_aload_n hx hb dX6_group_105 rfl (lv_at hl 0 rfl) ?_
      refine va_get (D := D) (ci := 6) (v := .ref q6) (C := RX6) (T := TX6) (N := 15) hx hb hts (by decide +kernel) hown hK hP 0 rfl rfl 6 (by decide) (hts (.fieldLink RX6 22 "JoinDeskModel" "many" "[I") (by decide +kernel)) (fun _ h9 => h9) rfl dX6_group_106 ?_
      refine lv_iconst (v := 0) hx hb dX6_group_109 (by decide) ?_
      refine va_iald hx hb hK hP 4 0 rfl rfl (by unfold vp_in; decide) dX6_group_110 ?_
      refine W.eq (g2 := F0 m 111 ls [.int (nI n), .int (nI i)]) rfl ?_
      refine lv_icmp_ge (tgt := 250) hx hb dX6_group_111 (by decide) (fun cga => ?_) (fun cga => ?_)
      · refine lv_iload_n hx hb dX6_group_250 rfl (lv_at hl 2 rfl) ?_
        refine lv_if_ne (tgt := 260) hx hb dX6_group_251 (by decide) (fun c_17 => ?_) (fun c_17 => absurd c_17 (by decide))
        refine lv_iload_n hx hb dX6_group_260 rfl (lv_at hl 2 rfl) ?_
        refine lv_iconst (v := 1) hx hb dX6_group_261 (by decide) ?_
        refine lv_icmp_ne (tgt := 270) hx hb dX6_group_262 (by decide) (fun c_18 => ?_) (fun c_18 => absurd c_18 (by decide))
        refine lv_iload_n hx hb dX6_group_270 rfl (lv_at hl 2 rfl) ?_
        refine lv_iconst (v := 2) hx hb dX6_group_271 (by decide) ?_
        refine lv_icmp_ne (tgt := 280) hx hb dX6_group_272 (by decide) (fun c_19 => ?_) (fun c_19 => absurd c_19 (by decide))
        refine lv_iload_n hx hb dX6_group_280 rfl (lv_at hl 2 rfl) ?_
        refine lv_iconst (v := 3) hx hb dX6_group_281 (by decide) ?_
        refine lv_icmp_ne (tgt := 292) hx hb dX6_group_282 (by decide) (fun c_20 => absurd c_20 (by decide)) (fun c_20 => ?_)
        refine lv_aload_n hx hb dX6_group_285 rfl (lv_at hl 0 rfl) ?_
        refine va_get (D := D) (ci := 6) (v := .long ul) (C := RX6) (T := TX6) (N := 15) hx hb hts (by decide +kernel) hown hK hP 0 rfl rfl 13 (by decide) (hts (.fieldLink RX6 98 "JoinDeskModel" "least" "J") (by decide +kernel)) (fun _ h9 => h9) rfl dX6_group_286 ?_
        refine lv_goto (tgt := 296) hx hb dX6_group_289 (by decide) ?_
        refine W.widen (k := 0) (n := 0) (by omega) (by omega) ?_
        exact W.lret (v := ul) hx hb hr (fun t ht hW => ⟨⟨ul, [(mo, .inr (6, [.int 0, .ref q1, .int (nI g), .ref q3, .ref q4, .ref q5, .ref q6, .int 1, .int 1, .int kd, .long w10, .ref q11, .int mk, .long ul, .long ug])), (q3, .inl (cI, 800, .inl m3)), (q4, .inl (cI, 800, .inl m4)), (q5, .inl (cI, 800, .inl m5)), (q6, .inl (cI, 2, .inl (jl [nI n, nI n2])))], rfl, (⟨p9, (jmk 0 m3 m5 p9).toInt64, u7, u5, ul, ug, rfl, rfl, f_13, f_14, f_15, by rw [← hk1 p9 f_13]; exact jrw_fin (by have h := hrw; rw [show i = n by rw [nI_leI (by omega) (by omega)] at cga; omega] at h; exact h) (hro p9 f_13) (jCt_pos (by rw [hct, hk1 p9 f_13]; exact (jgb_1 f_14).2))⟩), by rw [ht]; exact hP, hD⟩, hS.F ht⟩) hS.2.2 dX6_group_296
      · refine lv_iconst (v := 0) hx hb dX6_group_114 (by decide) ?_
        refine lv_istore (lv' := [(10, .int 0), (0, .ref mo), (1, .int (nI mm)), (2, .int 3), (3, .int 1), (4, .int (jmk 0 m3 m5 p9)), (5, .long u5), (7, .long u7), (9, .int (nI i))]) hx hb dX6_group_115 hl (by decide) rfl (fun ls hl => ?_)
        have hloop_2 : ∀ (k_2 : Nat) (j : Nat) (v5 : Int64) (v7 : Int64) (vl : Int64) (vg : Int64), n2 - j < k_2 → (j ≤ n2) → (jRw n2 (jsh 0 m3) (jsh 0 m4) (jsh 400 m3) (jsh 400 m4) (jmk 0 m3 m5 p9) i j v5 v7 vl vg) → ∀ (H : Heap) (locs : List Loc), va_P D vwCl [(mo, .inr (6, [.int 0, .ref q1, .int (nI g), .ref q3, .ref q4, .ref q5, .ref q6, .int 1, .int 1, .int kd, .long w10, .ref q11, .int mk, .long vl, .long vg])), (q3, .inl (cI, 800, .inl m3)), (q4, .inl (cI, 800, .inl m4)), (q5, .inl (cI, 800, .inl m5)), (q6, .inl (cI, 2, .inl (jl [nI n, nI n2])))] H → va_D A [(mo, .inr (6, [.int 0, .ref q1, .int (nI g), .ref q3, .ref q4, .ref q5, .ref q6, .int 1, .int 1, .int kd, .long w10, .ref q11, .int mk, .long vl, .long vg])), (q3, .inl (cI, 800, .inl m3)), (q4, .inl (cI, 800, .inl m4)), (q5, .inl (cI, 800, .inl m5)), (q6, .inl (cI, 2, .inl (jl [nI n, nI n2])))] → va_S A s.heap H locs → ∀ ls : Array Slot, lv_has ls 13 [(0, .ref mo), (1, .int (nI mm)), (2, .int 3), (3, .int 1), (4, .int (jmk 0 m3 m5 p9)), (5, .long v5), (7, .long v7), (9, .int (nI i)), (10, .int (nI j))] → W p l e (headSpec wsX6_group ({ frames := 2, cells := 0, slots := 0, locals := 48 })).room s m #[.ref mo, .int (nI mm), .int 3] below meth c H locs 0 0 (MQ below (va_Ql (fun (r : Int64) (u : va_W) => ∃ (p9 : Nat) (f0 : Int64) (f1 : Int64) (f2 : Int64) (f3 : Int64) (f4 : Int64), r = f3 ∧ u = [(mo, .inr (6, [.int 0, .ref q1, .int (nI g), .ref q3, .ref q4, .ref q5, .ref q6, .int 1, .int 1, .int kd, .long w10, .ref q11, .int mk, .long f3, .long f4])), (q3, .inl (cI, 800, .inl m3)), (q4, .inl (cI, 800, .inl m4)), (q5, .inl (cI, 800, .inl m5)), (q6, .inl (cI, 2, .inl (jl [nI n, nI n2])))] ∧ (p9 < n) ∧ (jGb n2 K1 K2 p9 = true) ∧ (jGn n2 K1 K2 p9 = mm) ∧ (jGf n n2 (jsh 0 m3) (jsh 0 m4) (jsh 400 m3) (jsh 400 m4) (K1 p9) f0 f1 f2 f3 f4)) (jw_B D vwCl A (fun u : va_W => u)) A) #[.ref mo, .int (nI mm), .int 3] s 0 0 A) (F0 m 117 ls []) := by
          intro k_2
          induction k_2 with
          | zero => exact fun _ _ _ _ _ hm => absurd hm (Nat.not_lt_zero _)
          | succ k_2 ih_2 =>
            intro j v5 v7 vl vg hm2 hj hrw2 H locs hP hD hS ls hl
            refine lv_iload hx hb dX6_group_117 (lv_at hl 8 rfl) ?_
            refine lv_aload_n hx hb dX6_group_119 rfl (lv_at hl 0 rfl) ?_
            refine va_get (D := D) (ci := 6) (v := .ref q6) (C := RX6) (T := TX6) (N := 15) hx hb hts (by decide +kernel) hown hK hP 0 rfl rfl 6 (by decide) (hts (.fieldLink RX6 22 "JoinDeskModel" "many" "[I") (by decide +kernel)) (fun _ h9 => h9) rfl dX6_group_120 ?_
            refine lv_iconst (v := 1) hx hb dX6_group_123 (by decide) ?_
            refine va_iald hx hb hK hP 4 0 rfl rfl (by unfold vp_in; decide) dX6_group_124 ?_
            refine W.eq (g2 := F0 m 125 ls [.int (nI n2), .int (nI j)]) rfl ?_
            refine lv_icmp_ge (tgt := 244) hx hb dX6_group_125 (by decide) (fun cgb => ?_) (fun cgb => ?_)
            · refine lv_iinc (v := nI (i + 1)) (lv' := [(9, .int (nI (i + 1))), (0, .ref mo), (1, .int (nI mm)), (2, .int 3), (3, .int 1), (4, .int (jmk 0 m3 m5 p9)), (5, .long v5), (7, .long v7), (10, .int (nI j))]) hx hb dX6_group_244 hl (k := 7) rfl (nI_1 _) (by decide) rfl (fun ls hl => ?_)
              refine lv_goto (tgt := 103) hx hb dX6_group_247 (by decide) ?_
              exact ih_1 (i + 1) v5 v7 vl vg (by rw [nI_leI (by omega) (by omega)] at cga; omega) (by rw [nI_leI (by omega) (by omega)] at cga; omega) (jrw_out hrw2 (Or.inl (by rw [nI_leI (by omega) (by omega)] at cgb; omega))) _ _ hP hD hS ls (lv_sub hl [1, 2, 3, 4, 5, 6, 7, 0] rfl)
            · refine lv_aload_n hx hb dX6_group_128 rfl (lv_at hl 0 rfl) ?_
              refine va_get (D := D) (ci := 6) (v := .ref q3) (C := RX6) (T := TX6) (N := 15) hx hb hts (by decide +kernel) hown hK hP 0 rfl rfl 3 (by decide) (hts (.fieldLink RX6 13 "JoinDeskModel" "keys" "[I") (by decide +kernel)) (fun _ h9 => h9) rfl dX6_group_129 ?_
              refine lv_iload hx hb dX6_group_132 (lv_at hl 7 rfl) ?_
              refine va_iald hx hb hK hP 1 0 rfl rfl (vp_in_nI (show i < 800 by rw [nI_leI (by omega) (by omega)] at cga; omega) (by omega)) dX6_group_134 ?_
              refine lv_iload hx hb dX6_group_135 (lv_at hl 4 rfl) ?_
              refine lv_icmp_ne (tgt := 244) hx hb dX6_group_137 (by decide) (fun ckx => ?_) (fun ckx => ?_)
              · refine lv_iinc (v := nI (i + 1)) (lv' := [(9, .int (nI (i + 1))), (0, .ref mo), (1, .int (nI mm)), (2, .int 3), (3, .int 1), (4, .int (jmk 0 m3 m5 p9)), (5, .long v5), (7, .long v7), (10, .int (nI j))]) hx hb dX6_group_244 hl (k := 7) rfl (nI_1 _) (by decide) rfl (fun ls hl => ?_)
                refine lv_goto (tgt := 103) hx hb dX6_group_247 (by decide) ?_
                exact ih_1 (i + 1) v5 v7 vl vg (by rw [nI_leI (by omega) (by omega)] at cga; omega) (by rw [nI_leI (by omega) (by omega)] at cga; omega) (jrw_out hrw2 (Or.inr (by rw [jsh0 (m := m3) (i := i) (by omega)] at ckx; exact ckx))) _ _ hP hD hS ls (lv_sub hl [1, 2, 3, 4, 5, 6, 7, 0] rfl)
              · refine lv_aload_n hx hb dX6_group_140 rfl (lv_at hl 0 rfl) ?_
                refine va_get (D := D) (ci := 6) (v := .ref q3) (C := RX6) (T := TX6) (N := 15) hx hb hts (by decide +kernel) hown hK hP 0 rfl rfl 3 (by decide) (hts (.fieldLink RX6 13 "JoinDeskModel" "keys" "[I") (by decide +kernel)) (fun _ h9 => h9) rfl dX6_group_141 ?_
                refine lv_sipush (v := 400) hx hb dX6_group_144 (by decide) ?_
                refine lv_iload hx hb dX6_group_147 (lv_at hl 8 rfl) ?_
                refine lv_iadd hx hb dX6_group_149 ?_
                refine lv_topi (fun z_21 e_z_21 => ?_)
                obtain rfl : z_21 = nI (400 + j) := e_z_21.trans (nI_add 400 j)
                refine va_iald hx hb hK hP 1 0 rfl rfl (vp_in_nI (show 400 + j < 800 by rw [nI_leI (by omega) (by omega)] at cgb; omega) (by omega)) dX6_group_150 ?_
                refine lv_iload hx hb dX6_group_151 (lv_at hl 4 rfl) ?_
                refine lv_icmp_ne (tgt := 238) hx hb dX6_group_153 (by decide) (fun cky => ?_) (fun cky => ?_)
                · refine lv_iinc (v := nI (j + 1)) (lv' := [(10, .int (nI (j + 1))), (0, .ref mo), (1, .int (nI mm)), (2, .int 3), (3, .int 1), (4, .int (jmk 0 m3 m5 p9)), (5, .long v5), (7, .long v7), (9, .int (nI i))]) hx hb dX6_group_238 hl (k := 8) rfl (nI_1 _) (by decide) rfl (fun ls hl => ?_)
                  refine lv_goto (tgt := 117) hx hb dX6_group_241 (by decide) ?_
                  exact ih_2 (j + 1) v5 v7 vl vg (by rw [nI_leI (by omega) (by omega)] at cgb; omega) (by rw [nI_leI (by omega) (by omega)] at cgb; omega) (jrw_skip hrw2 (by rw [nI_leI (by omega) (by omega)] at cgb; omega) (by rw [jsh0 (m := m3) (i := i) (by omega)] at ckx; exact ckx) (by rw [jsh4 (m := m3) (i := j) (by rw [nI_leI (by omega) (by omega)] at cgb; omega)] at cky; exact cky)) _ _ hP hD hS ls (lv_sub hl [1, 2, 3, 4, 5, 6, 7, 8, 0] rfl)
                · refine lv_aload_n hx hb dX6_group_156 rfl (lv_at hl 0 rfl) ?_
                  refine va_get (D := D) (ci := 6) (v := .ref q4) (C := RX6) (T := TX6) (N := 15) hx hb hts (by decide +kernel) hown hK hP 0 rfl rfl 4 (by decide) (hts (.fieldLink RX6 16 "JoinDeskModel" "values" "[I") (by decide +kernel)) (fun _ h9 => h9) rfl dX6_group_157 ?_
                  refine lv_iload hx hb dX6_group_160 (lv_at hl 7 rfl) ?_
                  refine va_iald hx hb hK hP 2 0 rfl rfl (vp_in_nI (show i < 800 by rw [nI_leI (by omega) (by omega)] at cga; omega) (by omega)) dX6_group_162 ?_
                  refine lv_i2l (v := (m4 (nI i).toNatClampNeg).toInt64) hx hb dX6_group_163 (by first | rfl | decide) ?_
                  refine lv_aload_n hx hb dX6_group_164 rfl (lv_at hl 0 rfl) ?_
                  refine va_get (D := D) (ci := 6) (v := .ref q4) (C := RX6) (T := TX6) (N := 15) hx hb hts (by decide +kernel) hown hK hP 0 rfl rfl 4 (by decide) (hts (.fieldLink RX6 16 "JoinDeskModel" "values" "[I") (by decide +kernel)) (fun _ h9 => h9) rfl dX6_group_165 ?_
                  refine lv_sipush (v := 400) hx hb dX6_group_168 (by decide) ?_
                  refine lv_iload hx hb dX6_group_171 (lv_at hl 8 rfl) ?_
                  refine lv_iadd hx hb dX6_group_173 ?_
                  refine lv_topi (fun z_22 e_z_22 => ?_)
                  obtain rfl : z_22 = nI (400 + j) := e_z_22.trans (nI_add 400 j)
                  refine va_iald hx hb hK hP 2 0 rfl rfl (vp_in_nI (show 400 + j < 800 by rw [nI_leI (by omega) (by omega)] at cgb; omega) (by omega)) dX6_group_174 ?_
                  refine lv_i2l (v := (m4 (nI (400 + j)).toNatClampNeg).toInt64) hx hb dX6_group_175 (by first | rfl | decide) ?_
                  refine lv_lmul hx hb dX6_group_176 ?_
                  refine lv_lstore (lv' := [(11, .long (((m4 (nI i).toNatClampNeg).toInt64) * ((m4 (nI (400 + j)).toNatClampNeg).toInt64))), (0, .ref mo), (1, .int (nI mm)), (2, .int 3), (3, .int 1), (4, .int (jmk 0 m3 m5 p9)), (5, .long v5), (7, .long v7), (9, .int (nI i)), (10, .int (nI j))]) hx hb dX6_group_177 hl (by decide) rfl (fun ls hl => ?_)
                  refine lv_lload hx hb dX6_group_179 (lv_at hl 6 rfl) ?_
                  refine lv_lload hx hb dX6_group_181 (lv_at hl 0 rfl) ?_
                  refine lv_ladd hx hb dX6_group_183 ?_
                  refine lv_lstore (lv' := [(5, .long (v5 + (((m4 (nI i).toNatClampNeg).toInt64) * ((m4 (nI (400 + j)).toNatClampNeg).toInt64)))), (11, .long (((m4 (nI i).toNatClampNeg).toInt64) * ((m4 (nI (400 + j)).toNatClampNeg).toInt64))), (0, .ref mo), (1, .int (nI mm)), (2, .int 3), (3, .int 1), (4, .int (jmk 0 m3 m5 p9)), (7, .long v7), (9, .int (nI i)), (10, .int (nI j))]) hx hb dX6_group_184 hl (by decide) rfl (fun ls hl => ?_)
                  refine lv_lload hx hb dX6_group_186 (lv_at hl 7 rfl) ?_
                  refine lv_lconst (v := 1) hx hb dX6_group_188 (by decide) ?_
                  refine lv_ladd hx hb dX6_group_189 ?_
                  refine lv_lstore (lv' := [(7, .long (v7 + 1)), (5, .long (v5 + (((m4 (nI i).toNatClampNeg).toInt64) * ((m4 (nI (400 + j)).toNatClampNeg).toInt64)))), (11, .long (((m4 (nI i).toNatClampNeg).toInt64) * ((m4 (nI (400 + j)).toNatClampNeg).toInt64))), (0, .ref mo), (1, .int (nI mm)), (2, .int 3), (3, .int 1), (4, .int (jmk 0 m3 m5 p9)), (9, .int (nI i)), (10, .int (nI j))]) hx hb dX6_group_190 hl (by decide) rfl (fun ls hl => ?_)
                  refine lv_aload_n hx hb dX6_group_192 rfl (lv_at hl 3 rfl) ?_
                  refine lv_lload hx hb dX6_group_193 (lv_at hl 2 rfl) ?_
                  refine lv_aload_n hx hb dX6_group_195 rfl (lv_at hl 3 rfl) ?_
                  refine va_get (D := D) (ci := 6) (v := .long vl) (C := RX6) (T := TX6) (N := 15) hx hb hts (by decide +kernel) hown hK hP 0 rfl rfl 13 (by decide) (hts (.fieldLink RX6 98 "JoinDeskModel" "least" "J") (by decide +kernel)) (fun _ h9 => h9) rfl dX6_group_196 ?_
                  refine W.lcmp hx hb dX6_group_199 ?_
                  refine lv_topi (fun z_23 e_z_23 => ?_)
                  refine lv_if_ge (tgt := 208) hx hb dX6_group_200 (by decide) (fun cl1 => ?_) (fun cl1 => ?_)
                  · refine lv_aload_n hx hb dX6_group_208 rfl (lv_at hl 3 rfl) ?_
                    refine va_get (D := D) (ci := 6) (v := .long vl) (C := RX6) (T := TX6) (N := 15) hx hb hts (by decide +kernel) hown hK hP 0 rfl rfl 13 (by decide) (hts (.fieldLink RX6 98 "JoinDeskModel" "least" "J") (by decide +kernel)) (fun _ h9 => h9) rfl dX6_group_209 ?_
                    refine va_put (D := D) (ci := 6) (v := .long vl) (ty := .long) (C := RX6) (T := TX6) (N := 15) hx hb hts (by decide +kernel) tyX6 tyX6_ok nmX6 hown hK hP hD hS 0 rfl rfl 13 (by decide) (hts (.fieldLink RX6 98 "JoinDeskModel" "least" "J") (by decide +kernel)) (fun _ h9 => h9) rfl (by decide +kernel) rfl rfl (Nat.le_of_ble_eq_true rfl) dX6_group_212 (fun H locs hP hD hS => ?_)
                    have hP : va_P D vwCl [(mo, .inr (6, [.int 0, .ref q1, .int (nI g), .ref q3, .ref q4, .ref q5, .ref q6, .int 1, .int 1, .int kd, .long w10, .ref q11, .int mk, .long vl, .long vg])), (q3, .inl (cI, 800, .inl m3)), (q4, .inl (cI, 800, .inl m4)), (q5, .inl (cI, 800, .inl m5)), (q6, .inl (cI, 2, .inl (jl [nI n, nI n2])))] H := hP
                    have hD : va_D A [(mo, .inr (6, [.int 0, .ref q1, .int (nI g), .ref q3, .ref q4, .ref q5, .ref q6, .int 1, .int 1, .int kd, .long w10, .ref q11, .int mk, .long vl, .long vg])), (q3, .inl (cI, 800, .inl m3)), (q4, .inl (cI, 800, .inl m4)), (q5, .inl (cI, 800, .inl m5)), (q6, .inl (cI, 2, .inl (jl [nI n, nI n2])))] := hD
                    refine lv_aload_n hx hb dX6_group_215 rfl (lv_at hl 3 rfl) ?_
                    refine lv_lload hx hb dX6_group_216 (lv_at hl 2 rfl) ?_
                    refine lv_aload_n hx hb dX6_group_218 rfl (lv_at hl 3 rfl) ?_
                    refine va_get (D := D) (ci := 6) (v := .long vg) (C := RX6) (T := TX6) (N := 15) hx hb hts (by decide +kernel) hown hK hP 0 rfl rfl 14 (by decide) (hts (.fieldLink RX6 103 "JoinDeskModel" "greatest" "J") (by decide +kernel)) (fun _ h9 => h9) rfl dX6_group_219 ?_
                    refine W.lcmp hx hb dX6_group_222 ?_
                    refine lv_topi (fun z_24 e_z_24 => ?_)
                    refine lv_if_le (tgt := 231) hx hb dX6_group_223 (by decide) (fun cl2 => ?_) (fun cl2 => ?_)
                    · refine lv_aload_n hx hb dX6_group_231 rfl (lv_at hl 3 rfl) ?_
                      refine va_get (D := D) (ci := 6) (v := .long vg) (C := RX6) (T := TX6) (N := 15) hx hb hts (by decide +kernel) hown hK hP 0 rfl rfl 14 (by decide) (hts (.fieldLink RX6 103 "JoinDeskModel" "greatest" "J") (by decide +kernel)) (fun _ h9 => h9) rfl dX6_group_232 ?_
                      refine va_put (D := D) (ci := 6) (v := .long vg) (ty := .long) (C := RX6) (T := TX6) (N := 15) hx hb hts (by decide +kernel) tyX6 tyX6_ok nmX6 hown hK hP hD hS 0 rfl rfl 14 (by decide) (hts (.fieldLink RX6 103 "JoinDeskModel" "greatest" "J") (by decide +kernel)) (fun _ h9 => h9) rfl (by decide +kernel) rfl rfl (Nat.le_of_ble_eq_true rfl) dX6_group_235 (fun H locs hP hD hS => ?_)
                      have hP : va_P D vwCl [(mo, .inr (6, [.int 0, .ref q1, .int (nI g), .ref q3, .ref q4, .ref q5, .ref q6, .int 1, .int 1, .int kd, .long w10, .ref q11, .int mk, .long vl, .long vg])), (q3, .inl (cI, 800, .inl m3)), (q4, .inl (cI, 800, .inl m4)), (q5, .inl (cI, 800, .inl m5)), (q6, .inl (cI, 2, .inl (jl [nI n, nI n2])))] H := hP
                      have hD : va_D A [(mo, .inr (6, [.int 0, .ref q1, .int (nI g), .ref q3, .ref q4, .ref q5, .ref q6, .int 1, .int 1, .int kd, .long w10, .ref q11, .int mk, .long vl, .long vg])), (q3, .inl (cI, 800, .inl m3)), (q4, .inl (cI, 800, .inl m4)), (q5, .inl (cI, 800, .inl m5)), (q6, .inl (cI, 2, .inl (jl [nI n, nI n2])))] := hD
                      refine lv_iinc (v := nI (j + 1)) (lv' := [(10, .int (nI (j + 1))), (7, .long (v7 + 1)), (5, .long (v5 + (((m4 (nI i).toNatClampNeg).toInt64) * ((m4 (nI (400 + j)).toNatClampNeg).toInt64)))), (11, .long (((m4 (nI i).toNatClampNeg).toInt64) * ((m4 (nI (400 + j)).toNatClampNeg).toInt64))), (0, .ref mo), (1, .int (nI mm)), (2, .int 3), (3, .int 1), (4, .int (jmk 0 m3 m5 p9)), (9, .int (nI i))]) hx hb dX6_group_238 hl (k := 9) rfl (nI_1 _) (by decide) rfl (fun ls hl => ?_)
                      refine lv_goto (tgt := 117) hx hb dX6_group_241 (by decide) ?_
                      exact ih_2 (j + 1) (v5 + (((m4 (nI i).toNatClampNeg).toInt64) * ((m4 (nI (400 + j)).toNatClampNeg).toInt64))) (v7 + 1) vl vg (by rw [nI_leI (by omega) (by omega)] at cgb; omega) (by rw [nI_leI (by omega) (by omega)] at cgb; omega) (by rw [jsh0 (m := m4) (i := i) (by omega), jsh4 (m := m4) (i := j) (by rw [nI_leI (by omega) (by omega)] at cgb; omega)] at e_z_23 e_z_24 ⊢; exact jrw_hit hrw2 (by rw [nI_leI (by omega) (by omega)] at cgb; omega) (by rw [jsh0 (m := m3) (i := i) (by omega)] at ckx; exact ckx) (by rw [jsh4 (m := m3) (i := j) (by rw [nI_leI (by omega) (by omega)] at cgb; omega)] at cky; exact cky) (Or.inl ⟨rfl, jlc_ge e_z_23 cl1⟩) (Or.inl ⟨rfl, jlc_le e_z_24 cl2⟩)) _ _ hP hD hS ls (lv_sub hl [4, 5, 6, 7, 8, 2, 1, 9, 0] rfl)
                    · refine lv_lload hx hb dX6_group_226 (lv_at hl 2 rfl) ?_
                      refine lv_goto (tgt := 235) hx hb dX6_group_228 (by decide) ?_
                      refine va_put (D := D) (ci := 6) (v := .long (((m4 (nI i).toNatClampNeg).toInt64) * ((m4 (nI (400 + j)).toNatClampNeg).toInt64))) (ty := .long) (C := RX6) (T := TX6) (N := 15) hx hb hts (by decide +kernel) tyX6 tyX6_ok nmX6 hown hK hP hD hS 0 rfl rfl 14 (by decide) (hts (.fieldLink RX6 103 "JoinDeskModel" "greatest" "J") (by decide +kernel)) (fun _ h9 => h9) rfl (by decide +kernel) rfl rfl (Nat.le_of_ble_eq_true rfl) dX6_group_235 (fun H locs hP hD hS => ?_)
                      have hP : va_P D vwCl [(mo, .inr (6, [.int 0, .ref q1, .int (nI g), .ref q3, .ref q4, .ref q5, .ref q6, .int 1, .int 1, .int kd, .long w10, .ref q11, .int mk, .long vl, .long (((m4 (nI i).toNatClampNeg).toInt64) * ((m4 (nI (400 + j)).toNatClampNeg).toInt64))])), (q3, .inl (cI, 800, .inl m3)), (q4, .inl (cI, 800, .inl m4)), (q5, .inl (cI, 800, .inl m5)), (q6, .inl (cI, 2, .inl (jl [nI n, nI n2])))] H := hP
                      have hD : va_D A [(mo, .inr (6, [.int 0, .ref q1, .int (nI g), .ref q3, .ref q4, .ref q5, .ref q6, .int 1, .int 1, .int kd, .long w10, .ref q11, .int mk, .long vl, .long (((m4 (nI i).toNatClampNeg).toInt64) * ((m4 (nI (400 + j)).toNatClampNeg).toInt64))])), (q3, .inl (cI, 800, .inl m3)), (q4, .inl (cI, 800, .inl m4)), (q5, .inl (cI, 800, .inl m5)), (q6, .inl (cI, 2, .inl (jl [nI n, nI n2])))] := hD
                      refine lv_iinc (v := nI (j + 1)) (lv' := [(10, .int (nI (j + 1))), (7, .long (v7 + 1)), (5, .long (v5 + (((m4 (nI i).toNatClampNeg).toInt64) * ((m4 (nI (400 + j)).toNatClampNeg).toInt64)))), (11, .long (((m4 (nI i).toNatClampNeg).toInt64) * ((m4 (nI (400 + j)).toNatClampNeg).toInt64))), (0, .ref mo), (1, .int (nI mm)), (2, .int 3), (3, .int 1), (4, .int (jmk 0 m3 m5 p9)), (9, .int (nI i))]) hx hb dX6_group_238 hl (k := 9) rfl (nI_1 _) (by decide) rfl (fun ls hl => ?_)
                      refine lv_goto (tgt := 117) hx hb dX6_group_241 (by decide) ?_
                      exact ih_2 (j + 1) (v5 + (((m4 (nI i).toNatClampNeg).toInt64) * ((m4 (nI (400 + j)).toNatClampNeg).toInt64))) (v7 + 1) vl (((m4 (nI i).toNatClampNeg).toInt64) * ((m4 (nI (400 + j)).toNatClampNeg).toInt64)) (by rw [nI_leI (by omega) (by omega)] at cgb; omega) (by rw [nI_leI (by omega) (by omega)] at cgb; omega) (by rw [jsh0 (m := m4) (i := i) (by omega), jsh4 (m := m4) (i := j) (by rw [nI_leI (by omega) (by omega)] at cgb; omega)] at e_z_23 e_z_24 ⊢; exact jrw_hit hrw2 (by rw [nI_leI (by omega) (by omega)] at cgb; omega) (by rw [jsh0 (m := m3) (i := i) (by omega)] at ckx; exact ckx) (by rw [jsh4 (m := m3) (i := j) (by rw [nI_leI (by omega) (by omega)] at cgb; omega)] at cky; exact cky) (Or.inl ⟨rfl, jlc_ge e_z_23 cl1⟩) (Or.inr ⟨rfl, jlc_nle e_z_24 cl2⟩)) _ _ hP hD hS ls (lv_sub hl [4, 5, 6, 7, 8, 2, 1, 9, 0] rfl)
                  · refine lv_lload hx hb dX6_group_203 (lv_at hl 2 rfl) ?_
                    refine lv_goto (tgt := 212) hx hb dX6_group_205 (by decide) ?_
                    refine va_put (D := D) (ci := 6) (v := .long (((m4 (nI i).toNatClampNeg).toInt64) * ((m4 (nI (400 + j)).toNatClampNeg).toInt64))) (ty := .long) (C := RX6) (T := TX6) (N := 15) hx hb hts (by decide +kernel) tyX6 tyX6_ok nmX6 hown hK hP hD hS 0 rfl rfl 13 (by decide) (hts (.fieldLink RX6 98 "JoinDeskModel" "least" "J") (by decide +kernel)) (fun _ h9 => h9) rfl (by decide +kernel) rfl rfl (Nat.le_of_ble_eq_true rfl) dX6_group_212 (fun H locs hP hD hS => ?_)
                    have hP : va_P D vwCl [(mo, .inr (6, [.int 0, .ref q1, .int (nI g), .ref q3, .ref q4, .ref q5, .ref q6, .int 1, .int 1, .int kd, .long w10, .ref q11, .int mk, .long (((m4 (nI i).toNatClampNeg).toInt64) * ((m4 (nI (400 + j)).toNatClampNeg).toInt64)), .long vg])), (q3, .inl (cI, 800, .inl m3)), (q4, .inl (cI, 800, .inl m4)), (q5, .inl (cI, 800, .inl m5)), (q6, .inl (cI, 2, .inl (jl [nI n, nI n2])))] H := hP
                    have hD : va_D A [(mo, .inr (6, [.int 0, .ref q1, .int (nI g), .ref q3, .ref q4, .ref q5, .ref q6, .int 1, .int 1, .int kd, .long w10, .ref q11, .int mk, .long (((m4 (nI i).toNatClampNeg).toInt64) * ((m4 (nI (400 + j)).toNatClampNeg).toInt64)), .long vg])), (q3, .inl (cI, 800, .inl m3)), (q4, .inl (cI, 800, .inl m4)), (q5, .inl (cI, 800, .inl m5)), (q6, .inl (cI, 2, .inl (jl [nI n, nI n2])))] := hD
                    refine lv_aload_n hx hb dX6_group_215 rfl (lv_at hl 3 rfl) ?_
                    refine lv_lload hx hb dX6_group_216 (lv_at hl 2 rfl) ?_
                    refine lv_aload_n hx hb dX6_group_218 rfl (lv_at hl 3 rfl) ?_
                    refine va_get (D := D) (ci := 6) (v := .long vg) (C := RX6) (T := TX6) (N := 15) hx hb hts (by decide +kernel) hown hK hP 0 rfl rfl 14 (by decide) (hts (.fieldLink RX6 103 "JoinDeskModel" "greatest" "J") (by decide +kernel)) (fun _ h9 => h9) rfl dX6_group_219 ?_
                    refine W.lcmp hx hb dX6_group_222 ?_
                    refine lv_topi (fun z_25 e_z_25 => ?_)
                    refine lv_if_le (tgt := 231) hx hb dX6_group_223 (by decide) (fun cl2 => ?_) (fun cl2 => ?_)
                    · refine lv_aload_n hx hb dX6_group_231 rfl (lv_at hl 3 rfl) ?_
                      refine va_get (D := D) (ci := 6) (v := .long vg) (C := RX6) (T := TX6) (N := 15) hx hb hts (by decide +kernel) hown hK hP 0 rfl rfl 14 (by decide) (hts (.fieldLink RX6 103 "JoinDeskModel" "greatest" "J") (by decide +kernel)) (fun _ h9 => h9) rfl dX6_group_232 ?_
                      refine va_put (D := D) (ci := 6) (v := .long vg) (ty := .long) (C := RX6) (T := TX6) (N := 15) hx hb hts (by decide +kernel) tyX6 tyX6_ok nmX6 hown hK hP hD hS 0 rfl rfl 14 (by decide) (hts (.fieldLink RX6 103 "JoinDeskModel" "greatest" "J") (by decide +kernel)) (fun _ h9 => h9) rfl (by decide +kernel) rfl rfl (Nat.le_of_ble_eq_true rfl) dX6_group_235 (fun H locs hP hD hS => ?_)
                      have hP : va_P D vwCl [(mo, .inr (6, [.int 0, .ref q1, .int (nI g), .ref q3, .ref q4, .ref q5, .ref q6, .int 1, .int 1, .int kd, .long w10, .ref q11, .int mk, .long (((m4 (nI i).toNatClampNeg).toInt64) * ((m4 (nI (400 + j)).toNatClampNeg).toInt64)), .long vg])), (q3, .inl (cI, 800, .inl m3)), (q4, .inl (cI, 800, .inl m4)), (q5, .inl (cI, 800, .inl m5)), (q6, .inl (cI, 2, .inl (jl [nI n, nI n2])))] H := hP
                      have hD : va_D A [(mo, .inr (6, [.int 0, .ref q1, .int (nI g), .ref q3, .ref q4, .ref q5, .ref q6, .int 1, .int 1, .int kd, .long w10, .ref q11, .int mk, .long (((m4 (nI i).toNatClampNeg).toInt64) * ((m4 (nI (400 + j)).toNatClampNeg).toInt64)), .long vg])), (q3, .inl (cI, 800, .inl m3)), (q4, .inl (cI, 800, .inl m4)), (q5, .inl (cI, 800, .inl m5)), (q6, .inl (cI, 2, .inl (jl [nI n, nI n2])))] := hD
                      refine lv_iinc (v := nI (j + 1)) (lv' := [(10, .int (nI (j + 1))), (7, .long (v7 + 1)), (5, .long (v5 + (((m4 (nI i).toNatClampNeg).toInt64) * ((m4 (nI (400 + j)).toNatClampNeg).toInt64)))), (11, .long (((m4 (nI i).toNatClampNeg).toInt64) * ((m4 (nI (400 + j)).toNatClampNeg).toInt64))), (0, .ref mo), (1, .int (nI mm)), (2, .int 3), (3, .int 1), (4, .int (jmk 0 m3 m5 p9)), (9, .int (nI i))]) hx hb dX6_group_238 hl (k := 9) rfl (nI_1 _) (by decide) rfl (fun ls hl => ?_)
                      refine lv_goto (tgt := 117) hx hb dX6_group_241 (by decide) ?_
                      exact ih_2 (j + 1) (v5 + (((m4 (nI i).toNatClampNeg).toInt64) * ((m4 (nI (400 + j)).toNatClampNeg).toInt64))) (v7 + 1) (((m4 (nI i).toNatClampNeg).toInt64) * ((m4 (nI (400 + j)).toNatClampNeg).toInt64)) vg (by rw [nI_leI (by omega) (by omega)] at cgb; omega) (by rw [nI_leI (by omega) (by omega)] at cgb; omega) (by rw [jsh0 (m := m4) (i := i) (by omega), jsh4 (m := m4) (i := j) (by rw [nI_leI (by omega) (by omega)] at cgb; omega)] at e_z_23 e_z_25 ⊢; exact jrw_hit hrw2 (by rw [nI_leI (by omega) (by omega)] at cgb; omega) (by rw [jsh0 (m := m3) (i := i) (by omega)] at ckx; exact ckx) (by rw [jsh4 (m := m3) (i := j) (by rw [nI_leI (by omega) (by omega)] at cgb; omega)] at cky; exact cky) (Or.inr ⟨rfl, jlc_nge e_z_23 cl1⟩) (Or.inl ⟨rfl, jlc_le e_z_25 cl2⟩)) _ _ hP hD hS ls (lv_sub hl [4, 5, 6, 7, 8, 2, 1, 9, 0] rfl)
                    · refine lv_lload hx hb dX6_group_226 (lv_at hl 2 rfl) ?_
                      refine lv_goto (tgt := 235) hx hb dX6_group_228 (by decide) ?_
                      refine va_put (D := D) (ci := 6) (v := .long (((m4 (nI i).toNatClampNeg).toInt64) * ((m4 (nI (400 + j)).toNatClampNeg).toInt64))) (ty := .long) (C := RX6) (T := TX6) (N := 15) hx hb hts (by decide +kernel) tyX6 tyX6_ok nmX6 hown hK hP hD hS 0 rfl rfl 14 (by decide) (hts (.fieldLink RX6 103 "JoinDeskModel" "greatest" "J") (by decide +kernel)) (fun _ h9 => h9) rfl (by decide +kernel) rfl rfl (Nat.le_of_ble_eq_true rfl) dX6_group_235 (fun H locs hP hD hS => ?_)
                      have hP : va_P D vwCl [(mo, .inr (6, [.int 0, .ref q1, .int (nI g), .ref q3, .ref q4, .ref q5, .ref q6, .int 1, .int 1, .int kd, .long w10, .ref q11, .int mk, .long (((m4 (nI i).toNatClampNeg).toInt64) * ((m4 (nI (400 + j)).toNatClampNeg).toInt64)), .long (((m4 (nI i).toNatClampNeg).toInt64) * ((m4 (nI (400 + j)).toNatClampNeg).toInt64))])), (q3, .inl (cI, 800, .inl m3)), (q4, .inl (cI, 800, .inl m4)), (q5, .inl (cI, 800, .inl m5)), (q6, .inl (cI, 2, .inl (jl [nI n, nI n2])))] H := hP
                      have hD : va_D A [(mo, .inr (6, [.int 0, .ref q1, .int (nI g), .ref q3, .ref q4, .ref q5, .ref q6, .int 1, .int 1, .int kd, .long w10, .ref q11, .int mk, .long (((m4 (nI i).toNatClampNeg).toInt64) * ((m4 (nI (400 + j)).toNatClampNeg).toInt64)), .long (((m4 (nI i).toNatClampNeg).toInt64) * ((m4 (nI (400 + j)).toNatClampNeg).toInt64))])), (q3, .inl (cI, 800, .inl m3)), (q4, .inl (cI, 800, .inl m4)), (q5, .inl (cI, 800, .inl m5)), (q6, .inl (cI, 2, .inl (jl [nI n, nI n2])))] := hD
                      refine lv_iinc (v := nI (j + 1)) (lv' := [(10, .int (nI (j + 1))), (7, .long (v7 + 1)), (5, .long (v5 + (((m4 (nI i).toNatClampNeg).toInt64) * ((m4 (nI (400 + j)).toNatClampNeg).toInt64)))), (11, .long (((m4 (nI i).toNatClampNeg).toInt64) * ((m4 (nI (400 + j)).toNatClampNeg).toInt64))), (0, .ref mo), (1, .int (nI mm)), (2, .int 3), (3, .int 1), (4, .int (jmk 0 m3 m5 p9)), (9, .int (nI i))]) hx hb dX6_group_238 hl (k := 9) rfl (nI_1 _) (by decide) rfl (fun ls hl => ?_)
                      refine lv_goto (tgt := 117) hx hb dX6_group_241 (by decide) ?_
                      exact ih_2 (j + 1) (v5 + (((m4 (nI i).toNatClampNeg).toInt64) * ((m4 (nI (400 + j)).toNatClampNeg).toInt64))) (v7 + 1) (((m4 (nI i).toNatClampNeg).toInt64) * ((m4 (nI (400 + j)).toNatClampNeg).toInt64)) (((m4 (nI i).toNatClampNeg).toInt64) * ((m4 (nI (400 + j)).toNatClampNeg).toInt64)) (by rw [nI_leI (by omega) (by omega)] at cgb; omega) (by rw [nI_leI (by omega) (by omega)] at cgb; omega) (by rw [jsh0 (m := m4) (i := i) (by omega), jsh4 (m := m4) (i := j) (by rw [nI_leI (by omega) (by omega)] at cgb; omega)] at e_z_23 e_z_25 ⊢; exact jrw_hit hrw2 (by rw [nI_leI (by omega) (by omega)] at cgb; omega) (by rw [jsh0 (m := m3) (i := i) (by omega)] at ckx; exact ckx) (by rw [jsh4 (m := m3) (i := j) (by rw [nI_leI (by omega) (by omega)] at cgb; omega)] at cky; exact cky) (Or.inr ⟨rfl, jlc_nge e_z_23 cl1⟩) (Or.inr ⟨rfl, jlc_nle e_z_25 cl2⟩)) _ _ hP hD hS ls (lv_sub hl [4, 5, 6, 7, 8, 2, 1, 9, 0] rfl)
        exact hloop_2 (n2 - 0 + 1) 0 u5 u7 ul ug (Nat.lt_succ_self _) (Nat.zero_le _) (hrw) _ _ hP hD hS ls (lv_sub hl [1, 2, 3, 4, 5, 6, 7, 8, 0] rfl)
  exact hloop_1 (n - 0 + 1) 0 0 0 (9223372036854775807) (-9223372036854775808) (Nat.lt_succ_self _) (Nat.zero_le _) (jrw_0) _ _ hP hD hS ls (lv_sub hl [5, 6, 7, 4, 3, 2, 1, 0] rfl)
set_option maxHeartbeats 1000000 in
set_option maxRecDepth 100000 in
theorem gM_group_14 (l : Launch) (D : va_G) (cI cL cQ : ClassId) (mo : Nat) (g : Nat) (n : Nat) (n2 : Nat) (q1 : Nat) (q3 : Nat) (q4 : Nat) (q5 : Nat) (q6 : Nat) (q11 : Nat) (z0 : Int32) (kd : Int32) (mk : Int32) (w10 : Int64) (w13 : Int64) (w14 : Int64) (m3 : Nat → Int32) (m4 : Nat → Int32) (m5 : Nat → Int32) (K1 : Nat → Int32) (K2 : Nat → Int32) (mm : Nat) (sz : Nat) (hn : n ≤ 400) (hn2 : n2 ≤ 400) (h5 : jo5 m5) (hk1 : ∀ i, i < n → jmk 0 m3 m5 i = K1 i) (hct : ∀ x, jCt n2 (jsh 400 m3) x = jCt n2 K2 x) (hm : mm < jGn n2 K1 K2 n) (hro : ∀ i, i < n → ∃ k, k < n ∧ jsh 0 m3 k = jmk 0 m3 m5 i) : Met l yX6_group wsX6_group ({ frames := 2, cells := 0, slots := 0, locals := 48 }) (jw_P D vwCl (jT cI cL cQ) cL cQ [.ref mo, .int (nI mm), .int 4] [(mo, .inr (6, [.int z0, .ref q1, .int (nI g), .ref q3, .ref q4, .ref q5, .ref q6, .int 1, .int 1, .int kd, .long w10, .ref q11, .int mk, .long w13, .long w14])), (q3, .inl (cI, 800, .inl m3)), (q4, .inl (cI, 800, .inl m4)), (q5, .inl (cI, 800, .inl m5)), (q6, .inl (cI, 2, .inl (jl [nI n, nI n2])))] sz) (va_Ql (fun (r : Int64) (u : va_W) => ∃ (p9 : Nat) (f0 : Int64) (f1 : Int64) (f2 : Int64) (f3 : Int64) (f4 : Int64), r = f4 ∧ u = [(mo, .inr (6, [.int 0, .ref q1, .int (nI g), .ref q3, .ref q4, .ref q5, .ref q6, .int 1, .int 1, .int kd, .long w10, .ref q11, .int mk, .long f3, .long f4])), (q3, .inl (cI, 800, .inl m3)), (q4, .inl (cI, 800, .inl m4)), (q5, .inl (cI, 800, .inl m5)), (q6, .inl (cI, 2, .inl (jl [nI n, nI n2])))] ∧ (p9 < n) ∧ (jGb n2 K1 K2 p9 = true) ∧ (jGn n2 K1 K2 p9 = mm) ∧ (jGf n n2 (jsh 0 m3) (jsh 0 m4) (jsh 400 m3) (jsh 400 m4) (K1 p9) f0 f1 f2 f3 f4)) (jw_B D vwCl (va_A [(mo, .inr (6, [.int z0, .ref q1, .int (nI g), .ref q3, .ref q4, .ref q5, .ref q6, .int 1, .int 1, .int kd, .long w10, .ref q11, .int mk, .long w13, .long w14])), (q3, .inl (cI, 800, .inl m3)), (q4, .inl (cI, 800, .inl m4)), (q5, .inl (cI, 800, .inl m5)), (q6, .inl (cI, 2, .inl (jl [nI n, nI n2])))] sz) (fun u : va_W => u)) (va_A [(mo, .inr (6, [.int z0, .ref q1, .int (nI g), .ref q3, .ref q4, .ref q5, .ref q6, .int 1, .int 1, .int kd, .long w10, .ref q11, .int mk, .long w13, .long w14])), (q3, .inl (cI, 800, .inl m3)), (q4, .inl (cI, 800, .inl m4)), (q5, .inl (cI, 800, .inl m5)), (q6, .inl (cI, 2, .inl (jl [nI n, nI n2])))] sz)) 0 0 (va_A [(mo, .inr (6, [.int z0, .ref q1, .int (nI g), .ref q3, .ref q4, .ref q5, .ref q6, .int 1, .int 1, .int kd, .long w10, .ref q11, .int mk, .long w13, .long w14])), (q3, .inl (cI, 800, .inl m3)), (q4, .inl (cI, 800, .inl m4)), (q5, .inl (cI, 800, .inl m5)), (q6, .inl (cI, 2, .inl (jl [nI n, nI n2])))] sz) := by
  refine Met.ofW (cc := cX6_group) (maxL := 13) (ret := (some .long)) (by decide) rfl ?_
  intro p e s m args below meth c s₁ B hml hv
  obtain ⟨rfl, hsz, hP, hK, hN, hD0⟩ := hv
  have hx := B.exec
  have hb := B.bytes
  have hr := B.returns
  have hts := atoms_spec (ws := wsX6_group) B.pre
  have hown : s.vm.findClass RX6 = some m.cls := findClass_of_methodNamed B.named
  have hlocks := B.notSynchronized
  subst hsz
  have hD := hD0.self (sz := s.heap.size)
  generalize hAe : va_A [(mo, .inr (6, [.int z0, .ref q1, .int (nI g), .ref q3, .ref q4, .ref q5, .ref q6, .int 1, .int 1, .int kd, .long w10, .ref q11, .int mk, .long w13, .long w14])), (q3, .inl (cI, 800, .inl m3)), (q4, .inl (cI, 800, .inl m4)), (q5, .inl (cI, 800, .inl m5)), (q6, .inl (cI, 2, .inl (jl [nI n, nI n2])))] s.heap.size = A at hD ⊢
  have hA : ∀ q : Nat, s.heap.size ≤ q → A q := fun q h => by rw [← hAe]; exact Or.inr h
  have hS : va_S A s.heap s.heap [] := va_S.rf
  have hl := lv_entry ([.ref mo, .int (nI mm), .int 4]) (n := 13) (Nat.le_of_ble_eq_true rfl)
  rw [lg_entry_eq]
  generalize (lg_sl ([.ref mo, .int (nI mm), .int 4]) ++ List.replicate (13 - (lg_sl ([.ref mo, .int (nI mm), .int 4])).length) Slot.unset).toArray = ls at hl ⊢
  have hl : lv_has ls 13 [(0, .ref mo), (1, .int (nI mm)), (2, .int 4)] := hl
  refine lv_aload_n hx hb dX6_group_0 rfl (lv_at hl 0 rfl) ?_
  refine va_get (D := D) (ci := 6) (v := .int 1) (C := RX6) (T := TX6) (N := 15) hx hb hts (by decide +kernel) hown hK hP 0 rfl rfl 7 (by decide) (hts (.fieldLink RX6 43 "JoinDeskModel" "prepared" "Z") (by decide +kernel)) (fun _ h9 => h9) rfl dX6_group_1 ?_
  refine lv_if_eq (tgt := 18) hx hb dX6_group_4 (by decide) (fun c_1 => absurd c_1 (by decide)) (fun c_1 => ?_)
  refine lv_aload_n hx hb dX6_group_7 rfl (lv_at hl 0 rfl) ?_
  refine va_get (D := D) (ci := 6) (v := .int 1) (C := RX6) (T := TX6) (N := 15) hx hb hts (by decide +kernel) hown hK hP 0 rfl rfl 8 (by decide) (hts (.fieldLink RX6 47 "JoinDeskModel" "grouped" "Z") (by decide +kernel)) (fun _ h9 => h9) rfl dX6_group_8 ?_
  refine lv_if_eq (tgt := 18) hx hb dX6_group_11 (by decide) (fun c_2 => absurd c_2 (by decide)) (fun c_2 => ?_)
  refine lv_iconst (v := 1) hx hb dX6_group_14 (by decide) ?_
  refine lv_goto (tgt := 19) hx hb dX6_group_15 (by decide) ?_
  refine lv_istore_n (lv' := [(3, .int 1), (0, .ref mo), (1, .int (nI mm)), (2, .int 4)]) hx hb dX6_group_19 rfl hl (by decide) rfl (fun ls hl => ?_)
  refine lv_aload_n hx hb dX6_group_20 rfl (lv_at hl 1 rfl) ?_
  refine lv_iload_n hx hb dX6_group_21 rfl (lv_at hl 2 rfl) ?_
  refine lv_if_lt (tgt := 47) hx hb dX6_group_22 (by decide) (fun c_3 => absurd c_3 (by exact nI_pos (by have := jGn_le (n2 := n2) (K1 := K1) (K2 := K2) n; omega))) (fun c_3 => ?_)
  refine lv_iload_n hx hb dX6_group_25 rfl (lv_at hl 3 rfl) ?_
  refine lv_if_lt (tgt := 47) hx hb dX6_group_26 (by decide) (fun c_4 => absurd c_4 (by decide)) (fun c_4 => ?_)
  refine lv_iload_n hx hb dX6_group_29 rfl (lv_at hl 3 rfl) ?_
  refine lv_iconst (v := 4) hx hb dX6_group_30 (by decide) ?_
  refine lv_icmp_gt (tgt := 47) hx hb dX6_group_31 (by decide) (fun c_5 => absurd c_5 (by decide)) (fun c_5 => ?_)
  refine lv_iload_n hx hb dX6_group_34 rfl (lv_at hl 0 rfl) ?_
  refine lv_if_eq (tgt := 51) hx hb dX6_group_35 (by decide) (fun c_6 => absurd c_6 (by decide)) (fun c_6 => ?_)
  refine lv_iload_n hx hb dX6_group_38 rfl (lv_at hl 2 rfl) ?_
  refine lv_aload_n hx hb dX6_group_39 rfl (lv_at hl 1 rfl) ?_
  refine lv_iconst (v := (-1)) hx hb dX6_group_40 (by decide) ?_
  refine vp_callSi (va_Run.run (va_runV (As := [.int (-1)]) (rest := [.int (nI mm), .ref mo]) ⟨hx, hb, hml, hown, hts⟩ (gM_groupAt_m l D cI cL cQ mo g n n2 q1 q3 q4 q5 q6 q11 z0 1 1 kd mk w10 w13 w14 m3 m5 K1 K2 (by first | assumption | decide | omega) (by first | assumption | decide | omega) (by first | assumption | decide | omega) (by first | assumption | decide | omega) (by first | assumption | decide | omega)) (cwV 1 hts gX6_group_X6_groupAt rfl rfl rfl (by decide +kernel) ⟨Nat.le_of_ble_eq_true rfl, Nat.le_of_ble_eq_true rfl⟩) (jr_V hK hN hP [0, 1, 3, 4] rfl 6 0 rfl rfl rfl) rfl rfl hl.1 rfl (lv_room (Nat.le_of_ble_eq_true rfl)) dX6_group_41 ⟨Nat.le_of_ble_eq_true rfl, Nat.le_of_ble_eq_true rfl⟩)) (fun r f_7 => ?_)
  obtain rfl := f_7
  refine lv_icmp_lt (tgt := 51) hx hb dX6_group_44 (by decide) (fun c_8 => ?_) (fun c_8 => absurd c_8 (by exact fun h => h (nI_lt hm (by have := jGn_le (n2 := n2) (K1 := K1) (K2 := K2) n; omega))))
  refine lv_iload_n hx hb dX6_group_51 rfl (lv_at hl 0 rfl) ?_
  refine lv_if_eq (tgt := 59) hx hb dX6_group_52 (by decide) (fun c_9 => absurd c_9 (by decide)) (fun c_9 => ?_)
  refine lv_iconst (v := 0) hx hb dX6_group_55 (by decide) ?_
  refine lv_goto (tgt := 60) hx hb dX6_group_56 (by decide) ?_
  refine jw_i (wr := [(q3, .inl (cI, 800, .inl m3)), (q4, .inl (cI, 800, .inl m4)), (q5, .inl (cI, 800, .inl m5)), (q6, .inl (cI, 2, .inl (jl [nI n, nI n2])))]) (va_runV (As := [.int 0]) (rest := []) ⟨hx, hb, hml, hown, hts⟩ (gM_refuses_0 l D cI cL cQ mo g q1 q3 q4 q5 q6 q11 z0 1 1 kd mk w10 w13 w14 _) (cwV 1 hts gX6_group_X6_refuses rfl rfl rfl (by decide +kernel) ⟨Nat.le_of_ble_eq_true rfl, Nat.le_of_ble_eq_true rfl⟩) (jw_V hK hN hP hD [0] (by decide) rfl 6 0 rfl rfl rfl) rfl rfl hl.1 rfl (lv_room (Nat.le_of_ble_eq_true rfl)) dX6_group_60 ⟨Nat.le_of_ble_eq_true rfl, Nat.le_of_ble_eq_true rfl⟩) hP hD hS hA [0] [1, 2, 3, 4] rfl rfl (by decide) (by decide) (fun r u H locs f_10 hP hD hS => ?_)
  obtain ⟨rfl, rfl⟩ := f_10
  have hP : va_P D vwCl [(q3, .inl (cI, 800, .inl m3)), (q4, .inl (cI, 800, .inl m4)), (q5, .inl (cI, 800, .inl m5)), (q6, .inl (cI, 2, .inl (jl [nI n, nI n2]))), (mo, .inr (6, [.int 0, .ref q1, .int (nI g), .ref q3, .ref q4, .ref q5, .ref q6, .int 1, .int 1, .int kd, .long w10, .ref q11, .int mk, .long w13, .long w14]))] H := hP
  have hD : va_D A [(q3, .inl (cI, 800, .inl m3)), (q4, .inl (cI, 800, .inl m4)), (q5, .inl (cI, 800, .inl m5)), (q6, .inl (cI, 2, .inl (jl [nI n, nI n2]))), (mo, .inr (6, [.int 0, .ref q1, .int (nI g), .ref q3, .ref q4, .ref q5, .ref q6, .int 1, .int 1, .int kd, .long w10, .ref q11, .int mk, .long w13, .long w14]))] := hD
  refine lv_if_eq (tgt := 68) hx hb dX6_group_63 (by decide) (fun c_11 => ?_) (fun c_11 => absurd c_11 (by decide))
  refine lv_aload_n hx hb dX6_group_68 rfl (lv_at hl 1 rfl) ?_
  refine lv_iconst (v := 0) hx hb dX6_group_69 (by decide) ?_
  refine lv_aload_n hx hb dX6_group_70 rfl (lv_at hl 1 rfl) ?_
  refine lv_iload_n hx hb dX6_group_71 rfl (lv_at hl 2 rfl) ?_
  refine vp_callSi (va_Run.run (va_runV (As := [.int (nI mm)]) (rest := [.int 0, .ref mo]) ⟨hx, hb, hml, hown, hts⟩ (gM_groupAt_i l D cI cL cQ mo g n n2 q1 q3 q4 q5 q6 q11 0 1 1 kd mk w10 w13 w14 m3 m5 K1 K2 mm (by first | assumption | decide | omega) (by first | assumption | decide | omega) (by first | assumption | decide | omega) (by first | assumption | decide | omega) (by first | assumption | decide | omega) (by first | assumption | decide | omega) (by have := jGn_le (n2 := n2) (K1 := K1) (K2 := K2) n; omega)) (cwV 1 hts gX6_group_X6_groupAt rfl rfl rfl (by decide +kernel) ⟨Nat.le_of_ble_eq_true rfl, Nat.le_of_ble_eq_true rfl⟩) (jr_V hK hN hP [4, 0, 2, 3] rfl 6 4 rfl rfl rfl) rfl rfl hl.1 rfl (lv_room (Nat.le_of_ble_eq_true rfl)) dX6_group_72 ⟨Nat.le_of_ble_eq_true rfl, Nat.le_of_ble_eq_true rfl⟩)) (fun r f_12 => ?_)
  obtain ⟨p9, rfl, f_13, f_14, f_15⟩ := f_12
  refine vp_callSi (va_Run.run (va_runV (As := [.int 0, .int (nI p9)]) (rest := []) ⟨hx, hb, hml, hown, hts⟩ (gM_key_0 l D cI cL cQ mo g q1 q3 q4 q5 q6 q11 0 1 1 kd mk w10 w13 w14 m3 m5 p9 (by first | assumption | decide | omega) (by omega)) (cwV 2 hts gX6_group_X6_key rfl rfl rfl (by decide +kernel) ⟨Nat.le_of_ble_eq_true rfl, Nat.le_of_ble_eq_true rfl⟩) (jr_V hK hN hP [4, 0, 2] rfl 6 4 rfl rfl rfl) rfl rfl hl.1 rfl (lv_room (Nat.le_of_ble_eq_true rfl)) dX6_group_75 ⟨Nat.le_of_ble_eq_true rfl, Nat.le_of_ble_eq_true rfl⟩)) (fun r f_16 => ?_)
  obtain rfl := f_16
  refine lv_istore (lv' := [(4, .int (jmk 0 m3 m5 p9)), (3, .int 1), (0, .ref mo), (1, .int (nI mm)), (2, .int 4)]) hx hb dX6_group_78 hl (by decide) rfl (fun ls hl => ?_)
  refine lv_lconst (v := 0) hx hb dX6_group_80 (by decide) ?_
  refine lv_lstore (lv' := [(5, .long 0), (4, .int (jmk 0 m3 m5 p9)), (3, .int 1), (0, .ref mo), (1, .int (nI mm)), (2, .int 4)]) hx hb dX6_group_81 hl (by decide) rfl (fun ls hl => ?_)
  refine lv_lconst (v := 0) hx hb dX6_group_83 (by decide) ?_
  refine lv_lstore (lv' := [(7, .long 0), (5, .long 0), (4, .int (jmk 0 m3 m5 p9)), (3, .int 1), (0, .ref mo), (1, .int (nI mm)), (2, .int 4)]) hx hb dX6_group_84 hl (by decide) rfl (fun ls hl => ?_)
  refine lv_aload_n hx hb dX6_group_86 rfl (lv_at hl 4 rfl) ?_
  refine lv_ldc2 (v := (9223372036854775807)) hx hb hown (hts (.constantLong RX6 96 (9223372036854775807)) (by decide +kernel)) dX6_group_87 ?_
  refine va_put (D := D) (ci := 6) (v := .long (9223372036854775807)) (ty := .long) (C := RX6) (T := TX6) (N := 15) hx hb hts (by decide +kernel) tyX6 tyX6_ok nmX6 hown hK hP hD hS 4 rfl rfl 13 (by decide) (hts (.fieldLink RX6 98 "JoinDeskModel" "least" "J") (by decide +kernel)) (fun _ h9 => h9) rfl (by decide +kernel) rfl rfl (Nat.le_of_ble_eq_true rfl) dX6_group_90 (fun H locs hP hD hS => ?_)
  have hP : va_P D vwCl [(q3, .inl (cI, 800, .inl m3)), (q4, .inl (cI, 800, .inl m4)), (q5, .inl (cI, 800, .inl m5)), (q6, .inl (cI, 2, .inl (jl [nI n, nI n2]))), (mo, .inr (6, [.int 0, .ref q1, .int (nI g), .ref q3, .ref q4, .ref q5, .ref q6, .int 1, .int 1, .int kd, .long w10, .ref q11, .int mk, .long (9223372036854775807), .long w14]))] H := hP
  have hD : va_D A [(q3, .inl (cI, 800, .inl m3)), (q4, .inl (cI, 800, .inl m4)), (q5, .inl (cI, 800, .inl m5)), (q6, .inl (cI, 2, .inl (jl [nI n, nI n2]))), (mo, .inr (6, [.int 0, .ref q1, .int (nI g), .ref q3, .ref q4, .ref q5, .ref q6, .int 1, .int 1, .int kd, .long w10, .ref q11, .int mk, .long (9223372036854775807), .long w14]))] := hD
  refine lv_aload_n hx hb dX6_group_93 rfl (lv_at hl 4 rfl) ?_
  refine lv_ldc2 (v := (-9223372036854775808)) hx hb hown (hts (.constantLong RX6 101 (-9223372036854775808)) (by decide +kernel)) dX6_group_94 ?_
  refine va_put (D := D) (ci := 6) (v := .long (-9223372036854775808)) (ty := .long) (C := RX6) (T := TX6) (N := 15) hx hb hts (by decide +kernel) tyX6 tyX6_ok nmX6 hown hK hP hD hS 4 rfl rfl 14 (by decide) (hts (.fieldLink RX6 103 "JoinDeskModel" "greatest" "J") (by decide +kernel)) (fun _ h9 => h9) rfl (by decide +kernel) rfl rfl (Nat.le_of_ble_eq_true rfl) dX6_group_97 (fun H locs hP hD hS => ?_)
  have hP : va_P D vwCl [(q3, .inl (cI, 800, .inl m3)), (q4, .inl (cI, 800, .inl m4)), (q5, .inl (cI, 800, .inl m5)), (q6, .inl (cI, 2, .inl (jl [nI n, nI n2]))), (mo, .inr (6, [.int 0, .ref q1, .int (nI g), .ref q3, .ref q4, .ref q5, .ref q6, .int 1, .int 1, .int kd, .long w10, .ref q11, .int mk, .long (9223372036854775807), .long (-9223372036854775808)]))] H := hP
  have hD : va_D A [(q3, .inl (cI, 800, .inl m3)), (q4, .inl (cI, 800, .inl m4)), (q5, .inl (cI, 800, .inl m5)), (q6, .inl (cI, 2, .inl (jl [nI n, nI n2]))), (mo, .inr (6, [.int 0, .ref q1, .int (nI g), .ref q3, .ref q4, .ref q5, .ref q6, .int 1, .int 1, .int kd, .long w10, .ref q11, .int mk, .long (9223372036854775807), .long (-9223372036854775808)]))] := hD
  refine lv_iconst (v := 0) hx hb dX6_group_100 (by decide) ?_
  refine lv_istore (lv' := [(9, .int 0), (7, .long 0), (5, .long 0), (4, .int (jmk 0 m3 m5 p9)), (3, .int 1), (0, .ref mo), (1, .int (nI mm)), (2, .int 4)]) hx hb dX6_group_101 hl (by decide) rfl (fun ls hl => ?_)
  have hP := hP.sub (ws' := [(mo, .inr (6, [.int 0, .ref q1, .int (nI g), .ref q3, .ref q4, .ref q5, .ref q6, .int 1, .int 1, .int kd, .long w10, .ref q11, .int mk, .long (9223372036854775807), .long (-9223372036854775808)])), (q3, .inl (cI, 800, .inl m3)), (q4, .inl (cI, 800, .inl m4)), (q5, .inl (cI, 800, .inl m5)), (q6, .inl (cI, 2, .inl (jl [nI n, nI n2])))]) [4, 0, 1, 2, 3] rfl
  have hD := hD.sub (ws' := [(mo, .inr (6, [.int 0, .ref q1, .int (nI g), .ref q3, .ref q4, .ref q5, .ref q6, .int 1, .int 1, .int kd, .long w10, .ref q11, .int mk, .long (9223372036854775807), .long (-9223372036854775808)])), (q3, .inl (cI, 800, .inl m3)), (q4, .inl (cI, 800, .inl m4)), (q5, .inl (cI, 800, .inl m5)), (q6, .inl (cI, 2, .inl (jl [nI n, nI n2])))]) [4, 0, 1, 2, 3] (by decide) rfl
  have hloop_1 : ∀ (k_1 : Nat) (i : Nat) (u5 : Int64) (u7 : Int64) (ul : Int64) (ug : Int64), n - i < k_1 → (i ≤ n) → (jRw n2 (jsh 0 m3) (jsh 0 m4) (jsh 400 m3) (jsh 400 m4) (jmk 0 m3 m5 p9) i 0 u5 u7 ul ug) → ∀ (H : Heap) (locs : List Loc), va_P D vwCl [(mo, .inr (6, [.int 0, .ref q1, .int (nI g), .ref q3, .ref q4, .ref q5, .ref q6, .int 1, .int 1, .int kd, .long w10, .ref q11, .int mk, .long ul, .long ug])), (q3, .inl (cI, 800, .inl m3)), (q4, .inl (cI, 800, .inl m4)), (q5, .inl (cI, 800, .inl m5)), (q6, .inl (cI, 2, .inl (jl [nI n, nI n2])))] H → va_D A [(mo, .inr (6, [.int 0, .ref q1, .int (nI g), .ref q3, .ref q4, .ref q5, .ref q6, .int 1, .int 1, .int kd, .long w10, .ref q11, .int mk, .long ul, .long ug])), (q3, .inl (cI, 800, .inl m3)), (q4, .inl (cI, 800, .inl m4)), (q5, .inl (cI, 800, .inl m5)), (q6, .inl (cI, 2, .inl (jl [nI n, nI n2])))] → va_S A s.heap H locs → ∀ ls : Array Slot, lv_has ls 13 [(0, .ref mo), (1, .int (nI mm)), (2, .int 4), (3, .int 1), (4, .int (jmk 0 m3 m5 p9)), (5, .long u5), (7, .long u7), (9, .int (nI i))] → W p l e (headSpec wsX6_group ({ frames := 2, cells := 0, slots := 0, locals := 48 })).room s m #[.ref mo, .int (nI mm), .int 4] below meth c H locs 0 0 (MQ below (va_Ql (fun (r : Int64) (u : va_W) => ∃ (p9 : Nat) (f0 : Int64) (f1 : Int64) (f2 : Int64) (f3 : Int64) (f4 : Int64), r = f4 ∧ u = [(mo, .inr (6, [.int 0, .ref q1, .int (nI g), .ref q3, .ref q4, .ref q5, .ref q6, .int 1, .int 1, .int kd, .long w10, .ref q11, .int mk, .long f3, .long f4])), (q3, .inl (cI, 800, .inl m3)), (q4, .inl (cI, 800, .inl m4)), (q5, .inl (cI, 800, .inl m5)), (q6, .inl (cI, 2, .inl (jl [nI n, nI n2])))] ∧ (p9 < n) ∧ (jGb n2 K1 K2 p9 = true) ∧ (jGn n2 K1 K2 p9 = mm) ∧ (jGf n n2 (jsh 0 m3) (jsh 0 m4) (jsh 400 m3) (jsh 400 m4) (K1 p9) f0 f1 f2 f3 f4)) (jw_B D vwCl A (fun u : va_W => u)) A) #[.ref mo, .int (nI mm), .int 4] s 0 0 A) (F0 m 103 ls []) := by
    intro k_1
    induction k_1 with
    | zero => exact fun _ _ _ _ _ hm => absurd hm (Nat.not_lt_zero _)
    | succ k_1 ih_1 =>
      intro i u5 u7 ul ug hm1 hi hrw H locs hP hD hS ls hl
      refine lv_iload hx hb dX6_group_103 (lv_at hl 7 rfl) ?_
      refine lv_aload_n hx hb dX6_group_105 rfl (lv_at hl 0 rfl) ?_
      refine va_get (D := D) (ci := 6) (v := .ref q6) (C := RX6) (T := TX6) (N := 15) hx hb hts (by decide +kernel) hown hK hP 0 rfl rfl 6 (by decide) (hts (.fieldLink RX6 22 "JoinDeskModel" "many" "[I") (by decide +kernel)) (fun _ h9 => h9) rfl dX6_group_106 ?_
      refine lv_iconst (v := 0) hx hb dX6_group_109 (by decide) ?_
      refine va_iald hx hb hK hP 4 0 rfl rfl (by unfold vp_in; decide) dX6_group_110 ?_
      refine W.eq (g2 := F0 m 111 ls [.int (nI n), .int (nI i)]) rfl ?_
      refine lv_icmp_ge (tgt := 250) hx hb dX6_group_111 (by decide) (fun cga => ?_) (fun cga => ?_)
      · refine lv_iload_n hx hb dX6_group_250 rfl (lv_at hl 2 rfl) ?_
        refine lv_if_ne (tgt := 260) hx hb dX6_group_251 (by decide) (fun c_17 => ?_) (fun c_17 => absurd c_17 (by decide))
        refine lv_iload_n hx hb dX6_group_260 rfl (lv_at hl 2 rfl) ?_
        refine lv_iconst (v := 1) hx hb dX6_group_261 (by decide) ?_
        refine lv_icmp_ne (tgt := 270) hx hb dX6_group_262 (by decide) (fun c_18 => ?_) (fun c_18 => absurd c_18 (by decide))
        refine lv_iload_n hx hb dX6_group_270 rfl (lv_at hl 2 rfl) ?_
        refine lv_iconst (v := 2) hx hb dX6_group_271 (by decide) ?_
        refine lv_icmp_ne (tgt := 280) hx hb dX6_group_272 (by decide) (fun c_19 => ?_) (fun c_19 => absurd c_19 (by decide))
        refine lv_iload_n hx hb dX6_group_280 rfl (lv_at hl 2 rfl) ?_
        refine lv_iconst (v := 3) hx hb dX6_group_281 (by decide) ?_
        refine lv_icmp_ne (tgt := 292) hx hb dX6_group_282 (by decide) (fun c_20 => ?_) (fun c_20 => absurd c_20 (by decide))
        refine lv_aload_n hx hb dX6_group_292 rfl (lv_at hl 0 rfl) ?_
        refine va_get (D := D) (ci := 6) (v := .long ug) (C := RX6) (T := TX6) (N := 15) hx hb hts (by decide +kernel) hown hK hP 0 rfl rfl 14 (by decide) (hts (.fieldLink RX6 103 "JoinDeskModel" "greatest" "J") (by decide +kernel)) (fun _ h9 => h9) rfl dX6_group_293 ?_
        refine W.widen (k := 0) (n := 0) (by omega) (by omega) ?_
        exact W.lret (v := ug) hx hb hr (fun t ht hW => ⟨⟨ug, [(mo, .inr (6, [.int 0, .ref q1, .int (nI g), .ref q3, .ref q4, .ref q5, .ref q6, .int 1, .int 1, .int kd, .long w10, .ref q11, .int mk, .long ul, .long ug])), (q3, .inl (cI, 800, .inl m3)), (q4, .inl (cI, 800, .inl m4)), (q5, .inl (cI, 800, .inl m5)), (q6, .inl (cI, 2, .inl (jl [nI n, nI n2])))], rfl, (⟨p9, (jmk 0 m3 m5 p9).toInt64, u7, u5, ul, ug, rfl, rfl, f_13, f_14, f_15, by rw [← hk1 p9 f_13]; exact jrw_fin (by have h := hrw; rw [show i = n by rw [nI_leI (by omega) (by omega)] at cga; omega] at h; exact h) (hro p9 f_13) (jCt_pos (by rw [hct, hk1 p9 f_13]; exact (jgb_1 f_14).2))⟩), by rw [ht]; exact hP, hD⟩, hS.F ht⟩) hS.2.2 dX6_group_296
      · refine lv_iconst (v := 0) hx hb dX6_group_114 (by decide) ?_
        refine lv_istore (lv' := [(10, .int 0), (0, .ref mo), (1, .int (nI mm)), (2, .int 4), (3, .int 1), (4, .int (jmk 0 m3 m5 p9)), (5, .long u5), (7, .long u7), (9, .int (nI i))]) hx hb dX6_group_115 hl (by decide) rfl (fun ls hl => ?_)
        have hloop_2 : ∀ (k_2 : Nat) (j : Nat) (v5 : Int64) (v7 : Int64) (vl : Int64) (vg : Int64), n2 - j < k_2 → (j ≤ n2) → (jRw n2 (jsh 0 m3) (jsh 0 m4) (jsh 400 m3) (jsh 400 m4) (jmk 0 m3 m5 p9) i j v5 v7 vl vg) → ∀ (H : Heap) (locs : List Loc), va_P D vwCl [(mo, .inr (6, [.int 0, .ref q1, .int (nI g), .ref q3, .ref q4, .ref q5, .ref q6, .int 1, .int 1, .int kd, .long w10, .ref q11, .int mk, .long vl, .long vg])), (q3, .inl (cI, 800, .inl m3)), (q4, .inl (cI, 800, .inl m4)), (q5, .inl (cI, 800, .inl m5)), (q6, .inl (cI, 2, .inl (jl [nI n, nI n2])))] H → va_D A [(mo, .inr (6, [.int 0, .ref q1, .int (nI g), .ref q3, .ref q4, .ref q5, .ref q6, .int 1, .int 1, .int kd, .long w10, .ref q11, .int mk, .long vl, .long vg])), (q3, .inl (cI, 800, .inl m3)), (q4, .inl (cI, 800, .inl m4)), (q5, .inl (cI, 800, .inl m5)), (q6, .inl (cI, 2, .inl (jl [nI n, nI n2])))] → va_S A s.heap H locs → ∀ ls : Array Slot, lv_has ls 13 [(0, .ref mo), (1, .int (nI mm)), (2, .int 4), (3, .int 1), (4, .int (jmk 0 m3 m5 p9)), (5, .long v5), (7, .long v7), (9, .int (nI i)), (10, .int (nI j))] → W p l e (headSpec wsX6_group ({ frames := 2, cells := 0, slots := 0, locals := 48 })).room s m #[.ref mo, .int (nI mm), .int 4] below meth c H locs 0 0 (MQ below (va_Ql (fun (r : Int64) (u : va_W) => ∃ (p9 : Nat) (f0 : Int64) (f1 : Int64) (f2 : Int64) (f3 : Int64) (f4 : Int64), r = f4 ∧ u = [(mo, .inr (6, [.int 0, .ref q1, .int (nI g), .ref q3, .ref q4, .ref q5, .ref q6, .int 1, .int 1, .int kd, .long w10, .ref q11, .int mk, .long f3, .long f4])), (q3, .inl (cI, 800, .inl m3)), (q4, .inl (cI, 800, .inl m4)), (q5, .inl (cI, 800, .inl m5)), (q6, .inl (cI, 2, .inl (jl [nI n, nI n2])))] ∧ (p9 < n) ∧ (jGb n2 K1 K2 p9 = true) ∧ (jGn n2 K1 K2 p9 = mm) ∧ (jGf n n2 (jsh 0 m3) (jsh 0 m4) (jsh 400 m3) (jsh 400 m4) (K1 p9) f0 f1 f2 f3 f4)) (jw_B D vwCl A (fun u : va_W => u)) A) #[.ref mo, .int (nI mm), .int 4] s 0 0 A) (F0 m 117 ls []) := by
          intro k_2
          induction k_2 with
          | zero => exact fun _ _ _ _ _ hm => absurd hm (Nat.not_lt_zero _)
          | succ k_2 ih_2 =>
            intro j v5 v7 vl vg hm2 hj hrw2 H locs hP hD hS ls hl
            refine lv_iload hx hb dX6_group_117 (lv_at hl 8 rfl) ?_
            refine lv_aload_n hx hb dX6_group_119 rfl (lv_at hl 0 rfl) ?_
            refine va_get (D := D) (ci := 6) (v := .ref q6) (C := RX6) (T := TX6) (N := 15) hx hb hts (by decide +kernel) hown hK hP 0 rfl rfl 6 (by decide) (hts (.fieldLink RX6 22 "JoinDeskModel" "many" "[I") (by decide +kernel)) (fun _ h9 => h9) rfl dX6_group_120 ?_
            refine lv_iconst (v := 1) hx hb dX6_group_123 (by decide) ?_
            refine va_iald hx hb hK hP 4 0 rfl rfl (by unfold vp_in; decide) dX6_group_124 ?_
            refine W.eq (g2 := F0 m 125 ls [.int (nI n2), .int (nI j)]) rfl ?_
            refine lv_icmp_ge (tgt := 244) hx hb dX6_group_125 (by decide) (fun cgb => ?_) (fun cgb => ?_)
            · refine lv_iinc (v := nI (i + 1)) (lv' := [(9, .int (nI (i + 1))), (0, .ref mo), (1, .int (nI mm)), (2, .int 4), (3, .int 1), (4, .int (jmk 0 m3 m5 p9)), (5, .long v5), (7, .long v7), (10, .int (nI j))]) hx hb dX6_group_244 hl (k := 7) rfl (nI_1 _) (by decide) rfl (fun ls hl => ?_)
              refine lv_goto (tgt := 103) hx hb dX6_group_247 (by decide) ?_
              exact ih_1 (i + 1) v5 v7 vl vg (by rw [nI_leI (by omega) (by omega)] at cga; omega) (by rw [nI_leI (by omega) (by omega)] at cga; omega) (jrw_out hrw2 (Or.inl (by rw [nI_leI (by omega) (by omega)] at cgb; omega))) _ _ hP hD hS ls (lv_sub hl [1, 2, 3, 4, 5, 6, 7, 0] rfl)
            · refine lv_aload_n hx hb dX6_group_128 rfl (lv_at hl 0 rfl) ?_
              refine va_get (D := D) (ci := 6) (v := .ref q3) (C := RX6) (T := TX6) (N := 15) hx hb hts (by decide +kernel) hown hK hP 0 rfl rfl 3 (by decide) (hts (.fieldLink RX6 13 "JoinDeskModel" "keys" "[I") (by decide +kernel)) (fun _ h9 => h9) rfl dX6_group_129 ?_
              refine lv_iload hx hb dX6_group_132 (lv_at hl 7 rfl) ?_
              refine va_iald hx hb hK hP 1 0 rfl rfl (vp_in_nI (show i < 800 by rw [nI_leI (by omega) (by omega)] at cga; omega) (by omega)) dX6_group_134 ?_
              refine lv_iload hx hb dX6_group_135 (lv_at hl 4 rfl) ?_
              refine lv_icmp_ne (tgt := 244) hx hb dX6_group_137 (by decide) (fun ckx => ?_) (fun ckx => ?_)
              · refine lv_iinc (v := nI (i + 1)) (lv' := [(9, .int (nI (i + 1))), (0, .ref mo), (1, .int (nI mm)), (2, .int 4), (3, .int 1), (4, .int (jmk 0 m3 m5 p9)), (5, .long v5), (7, .long v7), (10, .int (nI j))]) hx hb dX6_group_244 hl (k := 7) rfl (nI_1 _) (by decide) rfl (fun ls hl => ?_)
                refine lv_goto (tgt := 103) hx hb dX6_group_247 (by decide) ?_
                exact ih_1 (i + 1) v5 v7 vl vg (by rw [nI_leI (by omega) (by omega)] at cga; omega) (by rw [nI_leI (by omega) (by omega)] at cga; omega) (jrw_out hrw2 (Or.inr (by rw [jsh0 (m := m3) (i := i) (by omega)] at ckx; exact ckx))) _ _ hP hD hS ls (lv_sub hl [1, 2, 3, 4, 5, 6, 7, 0] rfl)
              · refine lv_aload_n hx hb dX6_group_140 rfl (lv_at hl 0 rfl) ?_
                refine va_get (D := D) (ci := 6) (v := .ref q3) (C := RX6) (T := TX6) (N := 15) hx hb hts (by decide +kernel) hown hK hP 0 rfl rfl 3 (by decide) (hts (.fieldLink RX6 13 "JoinDeskModel" "keys" "[I") (by decide +kernel)) (fun _ h9 => h9) rfl dX6_group_141 ?_
                refine lv_sipush (v := 400) hx hb dX6_group_144 (by decide) ?_
                refine lv_iload hx hb dX6_group_147 (lv_at hl 8 rfl) ?_
                refine lv_iadd hx hb dX6_group_149 ?_
                refine lv_topi (fun z_21 e_z_21 => ?_)
                obtain rfl : z_21 = nI (400 + j) := e_z_21.trans (nI_add 400 j)
                refine va_iald hx hb hK hP 1 0 rfl rfl (vp_in_nI (show 400 + j < 800 by rw [nI_leI (by omega) (by omega)] at cgb; omega) (by omega)) dX6_group_150 ?_
                refine lv_iload hx hb dX6_group_151 (lv_at hl 4 rfl) ?_
                refine lv_icmp_ne (tgt := 238) hx hb dX6_group_153 (by decide) (fun cky => ?_) (fun cky => ?_)
                · refine lv_iinc (v := nI (j + 1)) (lv' := [(10, .int (nI (j + 1))), (0, .ref mo), (1, .int (nI mm)), (2, .int 4), (3, .int 1), (4, .int (jmk 0 m3 m5 p9)), (5, .long v5), (7, .long v7), (9, .int (nI i))]) hx hb dX6_group_238 hl (k := 8) rfl (nI_1 _) (by decide) rfl (fun ls hl => ?_)
                  refine lv_goto (tgt := 117) hx hb dX6_group_241 (by decide) ?_
                  exact ih_2 (j + 1) v5 v7 vl vg (by rw [nI_leI (by omega) (by omega)] at cgb; omega) (by rw [nI_leI (by omega) (by omega)] at cgb; omega) (jrw_skip hrw2 (by rw [nI_leI (by omega) (by omega)] at cgb; omega) (by rw [jsh0 (m := m3) (i := i) (by omega)] at ckx; exact ckx) (by rw [jsh4 (m := m3) (i := j) (by rw [nI_leI (by omega) (by omega)] at cgb; omega)] at cky; exact cky)) _ _ hP hD hS ls (lv_sub hl [1, 2, 3, 4, 5, 6, 7, 8, 0] rfl)
                · refine lv_aload_n hx hb dX6_group_156 rfl (lv_at hl 0 rfl) ?_
                  refine va_get (D := D) (ci := 6) (v := .ref q4) (C := RX6) (T := TX6) (N := 15) hx hb hts (by decide +kernel) hown hK hP 0 rfl rfl 4 (by decide) (hts (.fieldLink RX6 16 "JoinDeskModel" "values" "[I") (by decide +kernel)) (fun _ h9 => h9) rfl dX6_group_157 ?_
                  refine lv_iload hx hb dX6_group_160 (lv_at hl 7 rfl) ?_
                  refine va_iald hx hb hK hP 2 0 rfl rfl (vp_in_nI (show i < 800 by rw [nI_leI (by omega) (by omega)] at cga; omega) (by omega)) dX6_group_162 ?_
                  refine lv_i2l (v := (m4 (nI i).toNatClampNeg).toInt64) hx hb dX6_group_163 (by first | rfl | decide) ?_
                  refine lv_aload_n hx hb dX6_group_164 rfl (lv_at hl 0 rfl) ?_
                  refine va_get (D := D) (ci := 6) (v := .ref q4) (C := RX6) (T := TX6) (N := 15) hx hb hts (by decide +kernel) hown hK hP 0 rfl rfl 4 (by decide) (hts (.fieldLink RX6 16 "JoinDeskModel" "values" "[I") (by decide +kernel)) (fun _ h9 => h9) rfl dX6_group_165 ?_
                  refine lv_sipush (v := 400) hx hb dX6_group_168 (by decide) ?_
                  refine lv_iload hx hb dX6_group_171 (lv_at hl 8 rfl) ?_
                  refine lv_iadd hx hb dX6_group_173 ?_
                  refine lv_topi (fun z_22 e_z_22 => ?_)
                  obtain rfl : z_22 = nI (400 + j) := e_z_22.trans (nI_add 400 j)
                  refine va_iald hx hb hK hP 2 0 rfl rfl (vp_in_nI (show 400 + j < 800 by rw [nI_leI (by omega) (by omega)] at cgb; omega) (by omega)) dX6_group_174 ?_
                  refine lv_i2l (v := (m4 (nI (400 + j)).toNatClampNeg).toInt64) hx hb dX6_group_175 (by first | rfl | decide) ?_
                  refine lv_lmul hx hb dX6_group_176 ?_
                  refine lv_lstore (lv' := [(11, .long (((m4 (nI i).toNatClampNeg).toInt64) * ((m4 (nI (400 + j)).toNatClampNeg).toInt64))), (0, .ref mo), (1, .int (nI mm)), (2, .int 4), (3, .int 1), (4, .int (jmk 0 m3 m5 p9)), (5, .long v5), (7, .long v7), (9, .int (nI i)), (10, .int (nI j))]) hx hb dX6_group_177 hl (by decide) rfl (fun ls hl => ?_)
                  refine lv_lload hx hb dX6_group_179 (lv_at hl 6 rfl) ?_
                  refine lv_lload hx hb dX6_group_181 (lv_at hl 0 rfl) ?_
                  refine lv_ladd hx hb dX6_group_183 ?_
                  refine lv_lstore (lv' := [(5, .long (v5 + (((m4 (nI i).toNatClampNeg).toInt64) * ((m4 (nI (400 + j)).toNatClampNeg).toInt64)))), (11, .long (((m4 (nI i).toNatClampNeg).toInt64) * ((m4 (nI (400 + j)).toNatClampNeg).toInt64))), (0, .ref mo), (1, .int (nI mm)), (2, .int 4), (3, .int 1), (4, .int (jmk 0 m3 m5 p9)), (7, .long v7), (9, .int (nI i)), (10, .int (nI j))]) hx hb dX6_group_184 hl (by decide) rfl (fun ls hl => ?_)
                  refine lv_lload hx hb dX6_group_186 (lv_at hl 7 rfl) ?_
                  refine lv_lconst (v := 1) hx hb dX6_group_188 (by decide) ?_
                  refine lv_ladd hx hb dX6_group_189 ?_
                  refine lv_lstore (lv' := [(7, .long (v7 + 1)), (5, .long (v5 + (((m4 (nI i).toNatClampNeg).toInt64) * ((m4 (nI (400 + j)).toNatClampNeg).toInt64)))), (11, .long (((m4 (nI i).toNatClampNeg).toInt64) * ((m4 (nI (400 + j)).toNatClampNeg).toInt64))), (0, .ref mo), (1, .int (nI mm)), (2, .int 4), (3, .int 1), (4, .int (jmk 0 m3 m5 p9)), (9, .int (nI i)), (10, .int (nI j))]) hx hb dX6_group_190 hl (by decide) rfl (fun ls hl => ?_)
                  refine lv_aload_n hx hb dX6_group_192 rfl (lv_at hl 3 rfl) ?_
                  refine lv_lload hx hb dX6_group_193 (lv_at hl 2 rfl) ?_
                  refine lv_aload_n hx hb dX6_group_195 rfl (lv_at hl 3 rfl) ?_
                  refine va_get (D := D) (ci := 6) (v := .long vl) (C := RX6) (T := TX6) (N := 15) hx hb hts (by decide +kernel) hown hK hP 0 rfl rfl 13 (by decide) (hts (.fieldLink RX6 98 "JoinDeskModel" "least" "J") (by decide +kernel)) (fun _ h9 => h9) rfl dX6_group_196 ?_
                  refine W.lcmp hx hb dX6_group_199 ?_
                  refine lv_topi (fun z_23 e_z_23 => ?_)
                  refine lv_if_ge (tgt := 208) hx hb dX6_group_200 (by decide) (fun cl1 => ?_) (fun cl1 => ?_)
                  · refine lv_aload_n hx hb dX6_group_208 rfl (lv_at hl 3 rfl) ?_
                    refine va_get (D := D) (ci := 6) (v := .long vl) (C := RX6) (T := TX6) (N := 15) hx hb hts (by decide +kernel) hown hK hP 0 rfl rfl 13 (by decide) (hts (.fieldLink RX6 98 "JoinDeskModel" "least" "J") (by decide +kernel)) (fun _ h9 => h9) rfl dX6_group_209 ?_
                    refine va_put (D := D) (ci := 6) (v := .long vl) (ty := .long) (C := RX6) (T := TX6) (N := 15) hx hb hts (by decide +kernel) tyX6 tyX6_ok nmX6 hown hK hP hD hS 0 rfl rfl 13 (by decide) (hts (.fieldLink RX6 98 "JoinDeskModel" "least" "J") (by decide +kernel)) (fun _ h9 => h9) rfl (by decide +kernel) rfl rfl (Nat.le_of_ble_eq_true rfl) dX6_group_212 (fun H locs hP hD hS => ?_)
                    have hP : va_P D vwCl [(mo, .inr (6, [.int 0, .ref q1, .int (nI g), .ref q3, .ref q4, .ref q5, .ref q6, .int 1, .int 1, .int kd, .long w10, .ref q11, .int mk, .long vl, .long vg])), (q3, .inl (cI, 800, .inl m3)), (q4, .inl (cI, 800, .inl m4)), (q5, .inl (cI, 800, .inl m5)), (q6, .inl (cI, 2, .inl (jl [nI n, nI n2])))] H := hP
                    have hD : va_D A [(mo, .inr (6, [.int 0, .ref q1, .int (nI g), .ref q3, .ref q4, .ref q5, .ref q6, .int 1, .int 1, .int kd, .long w10, .ref q11, .int mk, .long vl, .long vg])), (q3, .inl (cI, 800, .inl m3)), (q4, .inl (cI, 800, .inl m4)), (q5, .inl (cI, 800, .inl m5)), (q6, .inl (cI, 2, .inl (jl [nI n, nI n2])))] := hD
                    refine lv_aload_n hx hb dX6_group_215 rfl (lv_at hl 3 rfl) ?_
                    refine lv_lload hx hb dX6_group_216 (lv_at hl 2 rfl) ?_
                    refine lv_aload_n hx hb dX6_group_218 rfl (lv_at hl 3 rfl) ?_
                    refine va_get (D := D) (ci := 6) (v := .long vg) (C := RX6) (T := TX6) (N := 15) hx hb hts (by decide +kernel) hown hK hP 0 rfl rfl 14 (by decide) (hts (.fieldLink RX6 103 "JoinDeskModel" "greatest" "J") (by decide +kernel)) (fun _ h9 => h9) rfl dX6_group_219 ?_
                    refine W.lcmp hx hb dX6_group_222 ?_
                    refine lv_topi (fun z_24 e_z_24 => ?_)
                    refine lv_if_le (tgt := 231) hx hb dX6_group_223 (by decide) (fun cl2 => ?_) (fun cl2 => ?_)
                    · refine lv_aload_n hx hb dX6_group_231 rfl (lv_at hl 3 rfl) ?_
                      refine va_get (D := D) (ci := 6) (v := .long vg) (C := RX6) (T := TX6) (N := 15) hx hb hts (by decide +kernel) hown hK hP 0 rfl rfl 14 (by decide) (hts (.fieldLink RX6 103 "JoinDeskModel" "greatest" "J") (by decide +kernel)) (fun _ h9 => h9) rfl dX6_group_232 ?_
                      refine va_put (D := D) (ci := 6) (v := .long vg) (ty := .long) (C := RX6) (T := TX6) (N := 15) hx hb hts (by decide +kernel) tyX6 tyX6_ok nmX6 hown hK hP hD hS 0 rfl rfl 14 (by decide) (hts (.fieldLink RX6 103 "JoinDeskModel" "greatest" "J") (by decide +kernel)) (fun _ h9 => h9) rfl (by decide +kernel) rfl rfl (Nat.le_of_ble_eq_true rfl) dX6_group_235 (fun H locs hP hD hS => ?_)
                      have hP : va_P D vwCl [(mo, .inr (6, [.int 0, .ref q1, .int (nI g), .ref q3, .ref q4, .ref q5, .ref q6, .int 1, .int 1, .int kd, .long w10, .ref q11, .int mk, .long vl, .long vg])), (q3, .inl (cI, 800, .inl m3)), (q4, .inl (cI, 800, .inl m4)), (q5, .inl (cI, 800, .inl m5)), (q6, .inl (cI, 2, .inl (jl [nI n, nI n2])))] H := hP
                      have hD : va_D A [(mo, .inr (6, [.int 0, .ref q1, .int (nI g), .ref q3, .ref q4, .ref q5, .ref q6, .int 1, .int 1, .int kd, .long w10, .ref q11, .int mk, .long vl, .long vg])), (q3, .inl (cI, 800, .inl m3)), (q4, .inl (cI, 800, .inl m4)), (q5, .inl (cI, 800, .inl m5)), (q6, .inl (cI, 2, .inl (jl [nI n, nI n2])))] := hD
                      refine lv_iinc (v := nI (j + 1)) (lv' := [(10, .int (nI (j + 1))), (7, .long (v7 + 1)), (5, .long (v5 + (((m4 (nI i).toNatClampNeg).toInt64) * ((m4 (nI (400 + j)).toNatClampNeg).toInt64)))), (11, .long (((m4 (nI i).toNatClampNeg).toInt64) * ((m4 (nI (400 + j)).toNatClampNeg).toInt64))), (0, .ref mo), (1, .int (nI mm)), (2, .int 4), (3, .int 1), (4, .int (jmk 0 m3 m5 p9)), (9, .int (nI i))]) hx hb dX6_group_238 hl (k := 9) rfl (nI_1 _) (by decide) rfl (fun ls hl => ?_)
                      refine lv_goto (tgt := 117) hx hb dX6_group_241 (by decide) ?_
                      exact ih_2 (j + 1) (v5 + (((m4 (nI i).toNatClampNeg).toInt64) * ((m4 (nI (400 + j)).toNatClampNeg).toInt64))) (v7 + 1) vl vg (by rw [nI_leI (by omega) (by omega)] at cgb; omega) (by rw [nI_leI (by omega) (by omega)] at cgb; omega) (by rw [jsh0 (m := m4) (i := i) (by omega), jsh4 (m := m4) (i := j) (by rw [nI_leI (by omega) (by omega)] at cgb; omega)] at e_z_23 e_z_24 ⊢; exact jrw_hit hrw2 (by rw [nI_leI (by omega) (by omega)] at cgb; omega) (by rw [jsh0 (m := m3) (i := i) (by omega)] at ckx; exact ckx) (by rw [jsh4 (m := m3) (i := j) (by rw [nI_leI (by omega) (by omega)] at cgb; omega)] at cky; exact cky) (Or.inl ⟨rfl, jlc_ge e_z_23 cl1⟩) (Or.inl ⟨rfl, jlc_le e_z_24 cl2⟩)) _ _ hP hD hS ls (lv_sub hl [4, 5, 6, 7, 8, 2, 1, 9, 0] rfl)
                    · refine lv_lload hx hb dX6_group_226 (lv_at hl 2 rfl) ?_
                      refine lv_goto (tgt := 235) hx hb dX6_group_228 (by decide) ?_
                      refine va_put (D := D) (ci := 6) (v := .long (((m4 (nI i).toNatClampNeg).toInt64) * ((m4 (nI (400 + j)).toNatClampNeg).toInt64))) (ty := .long) (C := RX6) (T := TX6) (N := 15) hx hb hts (by decide +kernel) tyX6 tyX6_ok nmX6 hown hK hP hD hS 0 rfl rfl 14 (by decide) (hts (.fieldLink RX6 103 "JoinDeskModel" "greatest" "J") (by decide +kernel)) (fun _ h9 => h9) rfl (by decide +kernel) rfl rfl (Nat.le_of_ble_eq_true rfl) dX6_group_235 (fun H locs hP hD hS => ?_)
                      have hP : va_P D vwCl [(mo, .inr (6, [.int 0, .ref q1, .int (nI g), .ref q3, .ref q4, .ref q5, .ref q6, .int 1, .int 1, .int kd, .long w10, .ref q11, .int mk, .long vl, .long (((m4 (nI i).toNatClampNeg).toInt64) * ((m4 (nI (400 + j)).toNatClampNeg).toInt64))])), (q3, .inl (cI, 800, .inl m3)), (q4, .inl (cI, 800, .inl m4)), (q5, .inl (cI, 800, .inl m5)), (q6, .inl (cI, 2, .inl (jl [nI n, nI n2])))] H := hP
                      have hD : va_D A [(mo, .inr (6, [.int 0, .ref q1, .int (nI g), .ref q3, .ref q4, .ref q5, .ref q6, .int 1, .int 1, .int kd, .long w10, .ref q11, .int mk, .long vl, .long (((m4 (nI i).toNatClampNeg).toInt64) * ((m4 (nI (400 + j)).toNatClampNeg).toInt64))])), (q3, .inl (cI, 800, .inl m3)), (q4, .inl (cI, 800, .inl m4)), (q5, .inl (cI, 800, .inl m5)), (q6, .inl (cI, 2, .inl (jl [nI n, nI n2])))] := hD
                      refine lv_iinc (v := nI (j + 1)) (lv' := [(10, .int (nI (j + 1))), (7, .long (v7 + 1)), (5, .long (v5 + (((m4 (nI i).toNatClampNeg).toInt64) * ((m4 (nI (400 + j)).toNatClampNeg).toInt64)))), (11, .long (((m4 (nI i).toNatClampNeg).toInt64) * ((m4 (nI (400 + j)).toNatClampNeg).toInt64))), (0, .ref mo), (1, .int (nI mm)), (2, .int 4), (3, .int 1), (4, .int (jmk 0 m3 m5 p9)), (9, .int (nI i))]) hx hb dX6_group_238 hl (k := 9) rfl (nI_1 _) (by decide) rfl (fun ls hl => ?_)
                      refine lv_goto (tgt := 117) hx hb dX6_group_241 (by decide) ?_
                      exact ih_2 (j + 1) (v5 + (((m4 (nI i).toNatClampNeg).toInt64) * ((m4 (nI (400 + j)).toNatClampNeg).toInt64))) (v7 + 1) vl (((m4 (nI i).toNatClampNeg).toInt64) * ((m4 (nI (400 + j)).toNatClampNeg).toInt64)) (by rw [nI_leI (by omega) (by omega)] at cgb; omega) (by rw [nI_leI (by omega) (by omega)] at cgb; omega) (by rw [jsh0 (m := m4) (i := i) (by omega), jsh4 (m := m4) (i := j) (by rw [nI_leI (by omega) (by omega)] at cgb; omega)] at e_z_23 e_z_24 ⊢; exact jrw_hit hrw2 (by rw [nI_leI (by omega) (by omega)] at cgb; omega) (by rw [jsh0 (m := m3) (i := i) (by omega)] at ckx; exact ckx) (by rw [jsh4 (m := m3) (i := j) (by rw [nI_leI (by omega) (by omega)] at cgb; omega)] at cky; exact cky) (Or.inl ⟨rfl, jlc_ge e_z_23 cl1⟩) (Or.inr ⟨rfl, jlc_nle e_z_24 cl2⟩)) _ _ hP hD hS ls (lv_sub hl [4, 5, 6, 7, 8, 2, 1, 9, 0] rfl)
                  · refine lv_lload hx hb dX6_group_203 (lv_at hl 2 rfl) ?_
                    refine lv_goto (tgt := 212) hx hb dX6_group_205 (by decide) ?_
                    refine va_put (D := D) (ci := 6) (v := .long (((m4 (nI i).toNatClampNeg).toInt64) * ((m4 (nI (400 + j)).toNatClampNeg).toInt64))) (ty := .long) (C := RX6) (T := TX6) (N := 15) hx hb hts (by decide +kernel) tyX6 tyX6_ok nmX6 hown hK hP hD hS 0 rfl rfl 13 (by decide) (hts (.fieldLink RX6 98 "JoinDeskModel" "least" "J") (by decide +kernel)) (fun _ h9 => h9) rfl (by decide +kernel) rfl rfl (Nat.le_of_ble_eq_true rfl) dX6_group_212 (fun H locs hP hD hS => ?_)
                    have hP : va_P D vwCl [(mo, .inr (6, [.int 0, .ref q1, .int (nI g), .ref q3, .ref q4, .ref q5, .ref q6, .int 1, .int 1, .int kd, .long w10, .ref q11, .int mk, .long (((m4 (nI i).toNatClampNeg).toInt64) * ((m4 (nI (400 + j)).toNatClampNeg).toInt64)), .long vg])), (q3, .inl (cI, 800, .inl m3)), (q4, .inl (cI, 800, .inl m4)), (q5, .inl (cI, 800, .inl m5)), (q6, .inl (cI, 2, .inl (jl [nI n, nI n2])))] H := hP
                    have hD : va_D A [(mo, .inr (6, [.int 0, .ref q1, .int (nI g), .ref q3, .ref q4, .ref q5, .ref q6, .int 1, .int 1, .int kd, .long w10, .ref q11, .int mk, .long (((m4 (nI i).toNatClampNeg).toInt64) * ((m4 (nI (400 + j)).toNatClampNeg).toInt64)), .long vg])), (q3, .inl (cI, 800, .inl m3)), (q4, .inl (cI, 800, .inl m4)), (q5, .inl (cI, 800, .inl m5)), (q6, .inl (cI, 2, .inl (jl [nI n, nI n2])))] := hD
                    refine lv_aload_n hx hb dX6_group_215 rfl (lv_at hl 3 rfl) ?_
                    refine lv_lload hx hb dX6_group_216 (lv_at hl 2 rfl) ?_
                    refine lv_aload_n hx hb dX6_group_218 rfl (lv_at hl 3 rfl) ?_
                    refine va_get (D := D) (ci := 6) (v := .long vg) (C := RX6) (T := TX6) (N := 15) hx hb hts (by decide +kernel) hown hK hP 0 rfl rfl 14 (by decide) (hts (.fieldLink RX6 103 "JoinDeskModel" "greatest" "J") (by decide +kernel)) (fun _ h9 => h9) rfl dX6_group_219 ?_
                    refine W.lcmp hx hb dX6_group_222 ?_
                    refine lv_topi (fun z_25 e_z_25 => ?_)
                    refine lv_if_le (tgt := 231) hx hb dX6_group_223 (by decide) (fun cl2 => ?_) (fun cl2 => ?_)
                    · refine lv_aload_n hx hb dX6_group_231 rfl (lv_at hl 3 rfl) ?_
                      refine va_get (D := D) (ci := 6) (v := .long vg) (C := RX6) (T := TX6) (N := 15) hx hb hts (by decide +kernel) hown hK hP 0 rfl rfl 14 (by decide) (hts (.fieldLink RX6 103 "JoinDeskModel" "greatest" "J") (by decide +kernel)) (fun _ h9 => h9) rfl dX6_group_232 ?_
                      refine va_put (D := D) (ci := 6) (v := .long vg) (ty := .long) (C := RX6) (T := TX6) (N := 15) hx hb hts (by decide +kernel) tyX6 tyX6_ok nmX6 hown hK hP hD hS 0 rfl rfl 14 (by decide) (hts (.fieldLink RX6 103 "JoinDeskModel" "greatest" "J") (by decide +kernel)) (fun _ h9 => h9) rfl (by decide +kernel) rfl rfl (Nat.le_of_ble_eq_true rfl) dX6_group_235 (fun H locs hP hD hS => ?_)
                      have hP : va_P D vwCl [(mo, .inr (6, [.int 0, .ref q1, .int (nI g), .ref q3, .ref q4, .ref q5, .ref q6, .int 1, .int 1, .int kd, .long w10, .ref q11, .int mk, .long (((m4 (nI i).toNatClampNeg).toInt64) * ((m4 (nI (400 + j)).toNatClampNeg).toInt64)), .long vg])), (q3, .inl (cI, 800, .inl m3)), (q4, .inl (cI, 800, .inl m4)), (q5, .inl (cI, 800, .inl m5)), (q6, .inl (cI, 2, .inl (jl [nI n, nI n2])))] H := hP
                      have hD : va_D A [(mo, .inr (6, [.int 0, .ref q1, .int (nI g), .ref q3, .ref q4, .ref q5, .ref q6, .int 1, .int 1, .int kd, .long w10, .ref q11, .int mk, .long (((m4 (nI i).toNatClampNeg).toInt64) * ((m4 (nI (400 + j)).toNatClampNeg).toInt64)), .long vg])), (q3, .inl (cI, 800, .inl m3)), (q4, .inl (cI, 800, .inl m4)), (q5, .inl (cI, 800, .inl m5)), (q6, .inl (cI, 2, .inl (jl [nI n, nI n2])))] := hD
                      refine lv_iinc (v := nI (j + 1)) (lv' := [(10, .int (nI (j + 1))), (7, .long (v7 + 1)), (5, .long (v5 + (((m4 (nI i).toNatClampNeg).toInt64) * ((m4 (nI (400 + j)).toNatClampNeg).toInt64)))), (11, .long (((m4 (nI i).toNatClampNeg).toInt64) * ((m4 (nI (400 + j)).toNatClampNeg).toInt64))), (0, .ref mo), (1, .int (nI mm)), (2, .int 4), (3, .int 1), (4, .int (jmk 0 m3 m5 p9)), (9, .int (nI i))]) hx hb dX6_group_238 hl (k := 9) rfl (nI_1 _) (by decide) rfl (fun ls hl => ?_)
                      refine lv_goto (tgt := 117) hx hb dX6_group_241 (by decide) ?_
                      exact ih_2 (j + 1) (v5 + (((m4 (nI i).toNatClampNeg).toInt64) * ((m4 (nI (400 + j)).toNatClampNeg).toInt64))) (v7 + 1) (((m4 (nI i).toNatClampNeg).toInt64) * ((m4 (nI (400 + j)).toNatClampNeg).toInt64)) vg (by rw [nI_leI (by omega) (by omega)] at cgb; omega) (by rw [nI_leI (by omega) (by omega)] at cgb; omega) (by rw [jsh0 (m := m4) (i := i) (by omega), jsh4 (m := m4) (i := j) (by rw [nI_leI (by omega) (by omega)] at cgb; omega)] at e_z_23 e_z_25 ⊢; exact jrw_hit hrw2 (by rw [nI_leI (by omega) (by omega)] at cgb; omega) (by rw [jsh0 (m := m3) (i := i) (by omega)] at ckx; exact ckx) (by rw [jsh4 (m := m3) (i := j) (by rw [nI_leI (by omega) (by omega)] at cgb; omega)] at cky; exact cky) (Or.inr ⟨rfl, jlc_nge e_z_23 cl1⟩) (Or.inl ⟨rfl, jlc_le e_z_25 cl2⟩)) _ _ hP hD hS ls (lv_sub hl [4, 5, 6, 7, 8, 2, 1, 9, 0] rfl)
                    · refine lv_lload hx hb dX6_group_226 (lv_at hl 2 rfl) ?_
                      refine lv_goto (tgt := 235) hx hb dX6_group_228 (by decide) ?_
                      refine va_put (D := D) (ci := 6) (v := .long (((m4 (nI i).toNatClampNeg).toInt64) * ((m4 (nI (400 + j)).toNatClampNeg).toInt64))) (ty := .long) (C := RX6) (T := TX6) (N := 15) hx hb hts (by decide +kernel) tyX6 tyX6_ok nmX6 hown hK hP hD hS 0 rfl rfl 14 (by decide) (hts (.fieldLink RX6 103 "JoinDeskModel" "greatest" "J") (by decide +kernel)) (fun _ h9 => h9) rfl (by decide +kernel) rfl rfl (Nat.le_of_ble_eq_true rfl) dX6_group_235 (fun H locs hP hD hS => ?_)
                      have hP : va_P D vwCl [(mo, .inr (6, [.int 0, .ref q1, .int (nI g), .ref q3, .ref q4, .ref q5, .ref q6, .int 1, .int 1, .int kd, .long w10, .ref q11, .int mk, .long (((m4 (nI i).toNatClampNeg).toInt64) * ((m4 (nI (400 + j)).toNatClampNeg).toInt64)), .long (((m4 (nI i).toNatClampNeg).toInt64) * ((m4 (nI (400 + j)).toNatClampNeg).toInt64))])), (q3, .inl (cI, 800, .inl m3)), (q4, .inl (cI, 800, .inl m4)), (q5, .inl (cI, 800, .inl m5)), (q6, .inl (cI, 2, .inl (jl [nI n, nI n2])))] H := hP
                      have hD : va_D A [(mo, .inr (6, [.int 0, .ref q1, .int (nI g), .ref q3, .ref q4, .ref q5, .ref q6, .int 1, .int 1, .int kd, .long w10, .ref q11, .int mk, .long (((m4 (nI i).toNatClampNeg).toInt64) * ((m4 (nI (400 + j)).toNatClampNeg).toInt64)), .long (((m4 (nI i).toNatClampNeg).toInt64) * ((m4 (nI (400 + j)).toNatClampNeg).toInt64))])), (q3, .inl (cI, 800, .inl m3)), (q4, .inl (cI, 800, .inl m4)), (q5, .inl (cI, 800, .inl m5)), (q6, .inl (cI, 2, .inl (jl [nI n, nI n2])))] := hD
                      refine lv_iinc (v := nI (j + 1)) (lv' := [(10, .int (nI (j + 1))), (7, .long (v7 + 1)), (5, .long (v5 + (((m4 (nI i).toNatClampNeg).toInt64) * ((m4 (nI (400 + j)).toNatClampNeg).toInt64)))), (11, .long (((m4 (nI i).toNatClampNeg).toInt64) * ((m4 (nI (400 + j)).toNatClampNeg).toInt64))), (0, .ref mo), (1, .int (nI mm)), (2, .int 4), (3, .int 1), (4, .int (jmk 0 m3 m5 p9)), (9, .int (nI i))]) hx hb dX6_group_238 hl (k := 9) rfl (nI_1 _) (by decide) rfl (fun ls hl => ?_)
                      refine lv_goto (tgt := 117) hx hb dX6_group_241 (by decide) ?_
                      exact ih_2 (j + 1) (v5 + (((m4 (nI i).toNatClampNeg).toInt64) * ((m4 (nI (400 + j)).toNatClampNeg).toInt64))) (v7 + 1) (((m4 (nI i).toNatClampNeg).toInt64) * ((m4 (nI (400 + j)).toNatClampNeg).toInt64)) (((m4 (nI i).toNatClampNeg).toInt64) * ((m4 (nI (400 + j)).toNatClampNeg).toInt64)) (by rw [nI_leI (by omega) (by omega)] at cgb; omega) (by rw [nI_leI (by omega) (by omega)] at cgb; omega) (by rw [jsh0 (m := m4) (i := i) (by omega), jsh4 (m := m4) (i := j) (by rw [nI_leI (by omega) (by omega)] at cgb; omega)] at e_z_23 e_z_25 ⊢; exact jrw_hit hrw2 (by rw [nI_leI (by omega) (by omega)] at cgb; omega) (by rw [jsh0 (m := m3) (i := i) (by omega)] at ckx; exact ckx) (by rw [jsh4 (m := m3) (i := j) (by rw [nI_leI (by omega) (by omega)] at cgb; omega)] at cky; exact cky) (Or.inr ⟨rfl, jlc_nge e_z_23 cl1⟩) (Or.inr ⟨rfl, jlc_nle e_z_25 cl2⟩)) _ _ hP hD hS ls (lv_sub hl [4, 5, 6, 7, 8, 2, 1, 9, 0] rfl)
        exact hloop_2 (n2 - 0 + 1) 0 u5 u7 ul ug (Nat.lt_succ_self _) (Nat.zero_le _) (hrw) _ _ hP hD hS ls (lv_sub hl [1, 2, 3, 4, 5, 6, 7, 8, 0] rfl)
  exact hloop_1 (n - 0 + 1) 0 0 0 (9223372036854775807) (-9223372036854775808) (Nat.lt_succ_self _) (Nat.zero_le _) (jrw_0) _ _ hP hD hS ls (lv_sub hl [5, 6, 7, 4, 3, 2, 1, 0] rfl)
set_option maxHeartbeats 1000000 in
set_option maxRecDepth 100000 in
theorem gM_group_a1 (l : Launch) (D : va_G) (cI cL cQ : ClassId) (mo : Nat) (g : Nat) (n : Nat) (n2 : Nat) (q1 : Nat) (q3 : Nat) (q4 : Nat) (q5 : Nat) (q6 : Nat) (q11 : Nat) (z0 : Int32) (kd : Int32) (mk : Int32) (w10 : Int64) (w13 : Int64) (w14 : Int64) (m3 : Nat → Int32) (m5 : Nat → Int32) (K1 : Nat → Int32) (K2 : Nat → Int32) (x : Int32) (y : Int32) (sz : Nat) (hn : n ≤ 400) (hn2 : n2 ≤ 400) (h5 : jo5 m5) (hk1 : ∀ i, i < n → jmk 0 m3 m5 i = K1 i) (hct : ∀ x, jCt n2 (jsh 400 m3) x = jCt n2 K2 x) (h1 : (x < 0 ∨ nI (jGn n2 K1 K2 n) ≤ x) ∨ (y < 0 ∨ 4 < y)) : Met l yX6_group wsX6_group ({ frames := 2, cells := 0, slots := 0, locals := 48 }) (jw_P D vwCl (jT cI cL cQ) cL cQ [.ref mo, .int x, .int y] [(mo, .inr (6, [.int z0, .ref q1, .int (nI g), .ref q3, .ref q4, .ref q5, .ref q6, .int 1, .int 1, .int kd, .long w10, .ref q11, .int mk, .long w13, .long w14])), (q3, .inl (cI, 800, .inl m3)), (q5, .inl (cI, 800, .inl m5)), (q6, .inl (cI, 2, .inl (jl [nI n, nI n2])))] sz) (va_Ql (fun (r : Int64) (u : va_W) => r = 0 ∧ u = [(mo, .inr (6, [.int 1, .ref q1, .int (nI g), .ref q3, .ref q4, .ref q5, .ref q6, .int 1, .int 1, .int kd, .long w10, .ref q11, .int mk, .long w13, .long w14])), (q3, .inl (cI, 800, .inl m3)), (q5, .inl (cI, 800, .inl m5)), (q6, .inl (cI, 2, .inl (jl [nI n, nI n2])))]) (jw_B D vwCl (va_A [(mo, .inr (6, [.int z0, .ref q1, .int (nI g), .ref q3, .ref q4, .ref q5, .ref q6, .int 1, .int 1, .int kd, .long w10, .ref q11, .int mk, .long w13, .long w14])), (q3, .inl (cI, 800, .inl m3)), (q5, .inl (cI, 800, .inl m5)), (q6, .inl (cI, 2, .inl (jl [nI n, nI n2])))] sz) (fun u : va_W => u)) (va_A [(mo, .inr (6, [.int z0, .ref q1, .int (nI g), .ref q3, .ref q4, .ref q5, .ref q6, .int 1, .int 1, .int kd, .long w10, .ref q11, .int mk, .long w13, .long w14])), (q3, .inl (cI, 800, .inl m3)), (q5, .inl (cI, 800, .inl m5)), (q6, .inl (cI, 2, .inl (jl [nI n, nI n2])))] sz)) 0 0 (va_A [(mo, .inr (6, [.int z0, .ref q1, .int (nI g), .ref q3, .ref q4, .ref q5, .ref q6, .int 1, .int 1, .int kd, .long w10, .ref q11, .int mk, .long w13, .long w14])), (q3, .inl (cI, 800, .inl m3)), (q5, .inl (cI, 800, .inl m5)), (q6, .inl (cI, 2, .inl (jl [nI n, nI n2])))] sz) := by
  refine Met.ofW (cc := cX6_group) (maxL := 13) (ret := (some .long)) (by decide) rfl ?_
  intro p e s m args below meth c s₁ B hml hv
  obtain ⟨rfl, hsz, hP, hK, hN, hD0⟩ := hv
  have hx := B.exec
  have hb := B.bytes
  have hr := B.returns
  have hts := atoms_spec (ws := wsX6_group) B.pre
  have hown : s.vm.findClass RX6 = some m.cls := findClass_of_methodNamed B.named
  have hlocks := B.notSynchronized
  subst hsz
  have hD := hD0.self (sz := s.heap.size)
  generalize hAe : va_A [(mo, .inr (6, [.int z0, .ref q1, .int (nI g), .ref q3, .ref q4, .ref q5, .ref q6, .int 1, .int 1, .int kd, .long w10, .ref q11, .int mk, .long w13, .long w14])), (q3, .inl (cI, 800, .inl m3)), (q5, .inl (cI, 800, .inl m5)), (q6, .inl (cI, 2, .inl (jl [nI n, nI n2])))] s.heap.size = A at hD ⊢
  have hA : ∀ q : Nat, s.heap.size ≤ q → A q := fun q h => by rw [← hAe]; exact Or.inr h
  have hS : va_S A s.heap s.heap [] := va_S.rf
  have hl := lv_entry ([.ref mo, .int x, .int y]) (n := 13) (Nat.le_of_ble_eq_true rfl)
  rw [lg_entry_eq]
  generalize (lg_sl ([.ref mo, .int x, .int y]) ++ List.replicate (13 - (lg_sl ([.ref mo, .int x, .int y])).length) Slot.unset).toArray = ls at hl ⊢
  have hl : lv_has ls 13 [(0, .ref mo), (1, .int x), (2, .int y)] := hl
  refine lv_aload_n hx hb dX6_group_0 rfl (lv_at hl 0 rfl) ?_
  refine va_get (D := D) (ci := 6) (v := .int 1) (C := RX6) (T := TX6) (N := 15) hx hb hts (by decide +kernel) hown hK hP 0 rfl rfl 7 (by decide) (hts (.fieldLink RX6 43 "JoinDeskModel" "prepared" "Z") (by decide +kernel)) (fun _ h9 => h9) rfl dX6_group_1 ?_
  refine lv_if_eq (tgt := 18) hx hb dX6_group_4 (by decide) (fun c_1 => absurd c_1 (by decide)) (fun c_1 => ?_)
  refine lv_aload_n hx hb dX6_group_7 rfl (lv_at hl 0 rfl) ?_
  refine va_get (D := D) (ci := 6) (v := .int 1) (C := RX6) (T := TX6) (N := 15) hx hb hts (by decide +kernel) hown hK hP 0 rfl rfl 8 (by decide) (hts (.fieldLink RX6 47 "JoinDeskModel" "grouped" "Z") (by decide +kernel)) (fun _ h9 => h9) rfl dX6_group_8 ?_
  refine lv_if_eq (tgt := 18) hx hb dX6_group_11 (by decide) (fun c_2 => absurd c_2 (by decide)) (fun c_2 => ?_)
  refine lv_iconst (v := 1) hx hb dX6_group_14 (by decide) ?_
  refine lv_goto (tgt := 19) hx hb dX6_group_15 (by decide) ?_
  refine lv_istore_n (lv' := [(3, .int 1), (0, .ref mo), (1, .int x), (2, .int y)]) hx hb dX6_group_19 rfl hl (by decide) rfl (fun ls hl => ?_)
  refine lv_aload_n hx hb dX6_group_20 rfl (lv_at hl 1 rfl) ?_
  refine lv_iload_n hx hb dX6_group_21 rfl (lv_at hl 2 rfl) ?_
  refine lv_if_lt (tgt := 47) hx hb dX6_group_22 (by decide) (fun c_3 => ?_) (fun c_3 => ?_)
  · refine lv_iconst (v := 1) hx hb dX6_group_47 (by decide) ?_
    refine lv_goto (tgt := 60) hx hb dX6_group_48 (by decide) ?_
    refine jw_i (wr := [(q3, .inl (cI, 800, .inl m3)), (q5, .inl (cI, 800, .inl m5)), (q6, .inl (cI, 2, .inl (jl [nI n, nI n2])))]) (va_runV (As := [.int 1]) (rest := []) ⟨hx, hb, hml, hown, hts⟩ (gM_refuses_1 l D cI cL cQ mo g q1 q3 q4 q5 q6 q11 z0 1 1 kd mk w10 w13 w14 _) (cwV 1 hts gX6_group_X6_refuses rfl rfl rfl (by decide +kernel) ⟨Nat.le_of_ble_eq_true rfl, Nat.le_of_ble_eq_true rfl⟩) (jw_V hK hN hP hD [0] (by decide) rfl 6 0 rfl rfl rfl) rfl rfl hl.1 rfl (lv_room (Nat.le_of_ble_eq_true rfl)) dX6_group_60 ⟨Nat.le_of_ble_eq_true rfl, Nat.le_of_ble_eq_true rfl⟩) hP hD hS hA [0] [1, 2, 3] rfl rfl (by decide) (by decide) (fun r u H locs f_4 hP hD hS => ?_)
    obtain ⟨rfl, rfl⟩ := f_4
    have hP : va_P D vwCl [(q3, .inl (cI, 800, .inl m3)), (q5, .inl (cI, 800, .inl m5)), (q6, .inl (cI, 2, .inl (jl [nI n, nI n2]))), (mo, .inr (6, [.int 1, .ref q1, .int (nI g), .ref q3, .ref q4, .ref q5, .ref q6, .int 1, .int 1, .int kd, .long w10, .ref q11, .int mk, .long w13, .long w14]))] H := hP
    have hD : va_D A [(q3, .inl (cI, 800, .inl m3)), (q5, .inl (cI, 800, .inl m5)), (q6, .inl (cI, 2, .inl (jl [nI n, nI n2]))), (mo, .inr (6, [.int 1, .ref q1, .int (nI g), .ref q3, .ref q4, .ref q5, .ref q6, .int 1, .int 1, .int kd, .long w10, .ref q11, .int mk, .long w13, .long w14]))] := hD
    refine lv_if_eq (tgt := 68) hx hb dX6_group_63 (by decide) (fun c_5 => absurd c_5 (by decide)) (fun c_5 => ?_)
    refine lv_lconst (v := 0) hx hb dX6_group_66 (by decide) ?_
    have hP := hP.sub (ws' := [(mo, .inr (6, [.int 1, .ref q1, .int (nI g), .ref q3, .ref q4, .ref q5, .ref q6, .int 1, .int 1, .int kd, .long w10, .ref q11, .int mk, .long w13, .long w14])), (q3, .inl (cI, 800, .inl m3)), (q5, .inl (cI, 800, .inl m5)), (q6, .inl (cI, 2, .inl (jl [nI n, nI n2])))]) [3, 0, 1, 2] rfl
    have hD := hD.sub (ws' := [(mo, .inr (6, [.int 1, .ref q1, .int (nI g), .ref q3, .ref q4, .ref q5, .ref q6, .int 1, .int 1, .int kd, .long w10, .ref q11, .int mk, .long w13, .long w14])), (q3, .inl (cI, 800, .inl m3)), (q5, .inl (cI, 800, .inl m5)), (q6, .inl (cI, 2, .inl (jl [nI n, nI n2])))]) [3, 0, 1, 2] (by decide) rfl
    refine W.widen (k := 0) (n := 0) (by omega) (by omega) ?_
    exact W.lret (v := 0) hx hb hr (fun t ht hW => ⟨⟨0, [(mo, .inr (6, [.int 1, .ref q1, .int (nI g), .ref q3, .ref q4, .ref q5, .ref q6, .int 1, .int 1, .int kd, .long w10, .ref q11, .int mk, .long w13, .long w14])), (q3, .inl (cI, 800, .inl m3)), (q5, .inl (cI, 800, .inl m5)), (q6, .inl (cI, 2, .inl (jl [nI n, nI n2])))], rfl, (by exact ⟨rfl, rfl⟩), by rw [ht]; exact hP, hD⟩, hS.F ht⟩) hS.2.2 dX6_group_67
  · refine lv_iload_n hx hb dX6_group_25 rfl (lv_at hl 3 rfl) ?_
    refine lv_if_lt (tgt := 47) hx hb dX6_group_26 (by decide) (fun c_6 => ?_) (fun c_6 => ?_)
    · refine lv_iconst (v := 1) hx hb dX6_group_47 (by decide) ?_
      refine lv_goto (tgt := 60) hx hb dX6_group_48 (by decide) ?_
      refine jw_i (wr := [(q3, .inl (cI, 800, .inl m3)), (q5, .inl (cI, 800, .inl m5)), (q6, .inl (cI, 2, .inl (jl [nI n, nI n2])))]) (va_runV (As := [.int 1]) (rest := []) ⟨hx, hb, hml, hown, hts⟩ (gM_refuses_1 l D cI cL cQ mo g q1 q3 q4 q5 q6 q11 z0 1 1 kd mk w10 w13 w14 _) (cwV 1 hts gX6_group_X6_refuses rfl rfl rfl (by decide +kernel) ⟨Nat.le_of_ble_eq_true rfl, Nat.le_of_ble_eq_true rfl⟩) (jw_V hK hN hP hD [0] (by decide) rfl 6 0 rfl rfl rfl) rfl rfl hl.1 rfl (lv_room (Nat.le_of_ble_eq_true rfl)) dX6_group_60 ⟨Nat.le_of_ble_eq_true rfl, Nat.le_of_ble_eq_true rfl⟩) hP hD hS hA [0] [1, 2, 3] rfl rfl (by decide) (by decide) (fun r u H locs f_7 hP hD hS => ?_)
      obtain ⟨rfl, rfl⟩ := f_7
      have hP : va_P D vwCl [(q3, .inl (cI, 800, .inl m3)), (q5, .inl (cI, 800, .inl m5)), (q6, .inl (cI, 2, .inl (jl [nI n, nI n2]))), (mo, .inr (6, [.int 1, .ref q1, .int (nI g), .ref q3, .ref q4, .ref q5, .ref q6, .int 1, .int 1, .int kd, .long w10, .ref q11, .int mk, .long w13, .long w14]))] H := hP
      have hD : va_D A [(q3, .inl (cI, 800, .inl m3)), (q5, .inl (cI, 800, .inl m5)), (q6, .inl (cI, 2, .inl (jl [nI n, nI n2]))), (mo, .inr (6, [.int 1, .ref q1, .int (nI g), .ref q3, .ref q4, .ref q5, .ref q6, .int 1, .int 1, .int kd, .long w10, .ref q11, .int mk, .long w13, .long w14]))] := hD
      refine lv_if_eq (tgt := 68) hx hb dX6_group_63 (by decide) (fun c_8 => absurd c_8 (by decide)) (fun c_8 => ?_)
      refine lv_lconst (v := 0) hx hb dX6_group_66 (by decide) ?_
      have hP := hP.sub (ws' := [(mo, .inr (6, [.int 1, .ref q1, .int (nI g), .ref q3, .ref q4, .ref q5, .ref q6, .int 1, .int 1, .int kd, .long w10, .ref q11, .int mk, .long w13, .long w14])), (q3, .inl (cI, 800, .inl m3)), (q5, .inl (cI, 800, .inl m5)), (q6, .inl (cI, 2, .inl (jl [nI n, nI n2])))]) [3, 0, 1, 2] rfl
      have hD := hD.sub (ws' := [(mo, .inr (6, [.int 1, .ref q1, .int (nI g), .ref q3, .ref q4, .ref q5, .ref q6, .int 1, .int 1, .int kd, .long w10, .ref q11, .int mk, .long w13, .long w14])), (q3, .inl (cI, 800, .inl m3)), (q5, .inl (cI, 800, .inl m5)), (q6, .inl (cI, 2, .inl (jl [nI n, nI n2])))]) [3, 0, 1, 2] (by decide) rfl
      refine W.widen (k := 0) (n := 0) (by omega) (by omega) ?_
      exact W.lret (v := 0) hx hb hr (fun t ht hW => ⟨⟨0, [(mo, .inr (6, [.int 1, .ref q1, .int (nI g), .ref q3, .ref q4, .ref q5, .ref q6, .int 1, .int 1, .int kd, .long w10, .ref q11, .int mk, .long w13, .long w14])), (q3, .inl (cI, 800, .inl m3)), (q5, .inl (cI, 800, .inl m5)), (q6, .inl (cI, 2, .inl (jl [nI n, nI n2])))], rfl, (by exact ⟨rfl, rfl⟩), by rw [ht]; exact hP, hD⟩, hS.F ht⟩) hS.2.2 dX6_group_67
    · refine lv_iload_n hx hb dX6_group_29 rfl (lv_at hl 3 rfl) ?_
      refine lv_iconst (v := 4) hx hb dX6_group_30 (by decide) ?_
      refine lv_icmp_gt (tgt := 47) hx hb dX6_group_31 (by decide) (fun c_9 => ?_) (fun c_9 => ?_)
      · refine lv_iconst (v := 1) hx hb dX6_group_47 (by decide) ?_
        refine lv_goto (tgt := 60) hx hb dX6_group_48 (by decide) ?_
        refine jw_i (wr := [(q3, .inl (cI, 800, .inl m3)), (q5, .inl (cI, 800, .inl m5)), (q6, .inl (cI, 2, .inl (jl [nI n, nI n2])))]) (va_runV (As := [.int 1]) (rest := []) ⟨hx, hb, hml, hown, hts⟩ (gM_refuses_1 l D cI cL cQ mo g q1 q3 q4 q5 q6 q11 z0 1 1 kd mk w10 w13 w14 _) (cwV 1 hts gX6_group_X6_refuses rfl rfl rfl (by decide +kernel) ⟨Nat.le_of_ble_eq_true rfl, Nat.le_of_ble_eq_true rfl⟩) (jw_V hK hN hP hD [0] (by decide) rfl 6 0 rfl rfl rfl) rfl rfl hl.1 rfl (lv_room (Nat.le_of_ble_eq_true rfl)) dX6_group_60 ⟨Nat.le_of_ble_eq_true rfl, Nat.le_of_ble_eq_true rfl⟩) hP hD hS hA [0] [1, 2, 3] rfl rfl (by decide) (by decide) (fun r u H locs f_10 hP hD hS => ?_)
        obtain ⟨rfl, rfl⟩ := f_10
        have hP : va_P D vwCl [(q3, .inl (cI, 800, .inl m3)), (q5, .inl (cI, 800, .inl m5)), (q6, .inl (cI, 2, .inl (jl [nI n, nI n2]))), (mo, .inr (6, [.int 1, .ref q1, .int (nI g), .ref q3, .ref q4, .ref q5, .ref q6, .int 1, .int 1, .int kd, .long w10, .ref q11, .int mk, .long w13, .long w14]))] H := hP
        have hD : va_D A [(q3, .inl (cI, 800, .inl m3)), (q5, .inl (cI, 800, .inl m5)), (q6, .inl (cI, 2, .inl (jl [nI n, nI n2]))), (mo, .inr (6, [.int 1, .ref q1, .int (nI g), .ref q3, .ref q4, .ref q5, .ref q6, .int 1, .int 1, .int kd, .long w10, .ref q11, .int mk, .long w13, .long w14]))] := hD
        refine lv_if_eq (tgt := 68) hx hb dX6_group_63 (by decide) (fun c_11 => absurd c_11 (by decide)) (fun c_11 => ?_)
        refine lv_lconst (v := 0) hx hb dX6_group_66 (by decide) ?_
        have hP := hP.sub (ws' := [(mo, .inr (6, [.int 1, .ref q1, .int (nI g), .ref q3, .ref q4, .ref q5, .ref q6, .int 1, .int 1, .int kd, .long w10, .ref q11, .int mk, .long w13, .long w14])), (q3, .inl (cI, 800, .inl m3)), (q5, .inl (cI, 800, .inl m5)), (q6, .inl (cI, 2, .inl (jl [nI n, nI n2])))]) [3, 0, 1, 2] rfl
        have hD := hD.sub (ws' := [(mo, .inr (6, [.int 1, .ref q1, .int (nI g), .ref q3, .ref q4, .ref q5, .ref q6, .int 1, .int 1, .int kd, .long w10, .ref q11, .int mk, .long w13, .long w14])), (q3, .inl (cI, 800, .inl m3)), (q5, .inl (cI, 800, .inl m5)), (q6, .inl (cI, 2, .inl (jl [nI n, nI n2])))]) [3, 0, 1, 2] (by decide) rfl
        refine W.widen (k := 0) (n := 0) (by omega) (by omega) ?_
        exact W.lret (v := 0) hx hb hr (fun t ht hW => ⟨⟨0, [(mo, .inr (6, [.int 1, .ref q1, .int (nI g), .ref q3, .ref q4, .ref q5, .ref q6, .int 1, .int 1, .int kd, .long w10, .ref q11, .int mk, .long w13, .long w14])), (q3, .inl (cI, 800, .inl m3)), (q5, .inl (cI, 800, .inl m5)), (q6, .inl (cI, 2, .inl (jl [nI n, nI n2])))], rfl, (by exact ⟨rfl, rfl⟩), by rw [ht]; exact hP, hD⟩, hS.F ht⟩) hS.2.2 dX6_group_67
      · refine lv_iload_n hx hb dX6_group_34 rfl (lv_at hl 0 rfl) ?_
        refine lv_if_eq (tgt := 51) hx hb dX6_group_35 (by decide) (fun c_12 => absurd c_12 (by decide)) (fun c_12 => ?_)
        refine lv_iload_n hx hb dX6_group_38 rfl (lv_at hl 2 rfl) ?_
        refine lv_aload_n hx hb dX6_group_39 rfl (lv_at hl 1 rfl) ?_
        refine lv_iconst (v := (-1)) hx hb dX6_group_40 (by decide) ?_
        refine vp_callSi (va_Run.run (va_runV (As := [.int (-1)]) (rest := [.int x, .ref mo]) ⟨hx, hb, hml, hown, hts⟩ (gM_groupAt_m l D cI cL cQ mo g n n2 q1 q3 q4 q5 q6 q11 z0 1 1 kd mk w10 w13 w14 m3 m5 K1 K2 (by first | assumption | decide | omega) (by first | assumption | decide | omega) (by first | assumption | decide | omega) (by first | assumption | decide | omega) (by first | assumption | decide | omega)) (cwV 1 hts gX6_group_X6_groupAt rfl rfl rfl (by decide +kernel) ⟨Nat.le_of_ble_eq_true rfl, Nat.le_of_ble_eq_true rfl⟩) (jr_V hK hN hP [0, 1, 2, 3] rfl 6 0 rfl rfl rfl) rfl rfl hl.1 rfl (lv_room (Nat.le_of_ble_eq_true rfl)) dX6_group_41 ⟨Nat.le_of_ble_eq_true rfl, Nat.le_of_ble_eq_true rfl⟩)) (fun r f_13 => ?_)
        obtain rfl := f_13
        refine lv_icmp_lt (tgt := 51) hx hb dX6_group_44 (by decide) (fun c_14 => absurd c_14 (by exact fun q => h1.elim (fun h => h.elim (by assumption) (fun z => j_nlt_le z q)) (fun h => h.elim (by assumption) (by assumption)))) (fun c_14 => ?_)
        refine lv_iconst (v := 1) hx hb dX6_group_47 (by decide) ?_
        refine lv_goto (tgt := 60) hx hb dX6_group_48 (by decide) ?_
        refine jw_i (wr := [(q3, .inl (cI, 800, .inl m3)), (q5, .inl (cI, 800, .inl m5)), (q6, .inl (cI, 2, .inl (jl [nI n, nI n2])))]) (va_runV (As := [.int 1]) (rest := []) ⟨hx, hb, hml, hown, hts⟩ (gM_refuses_1 l D cI cL cQ mo g q1 q3 q4 q5 q6 q11 z0 1 1 kd mk w10 w13 w14 _) (cwV 1 hts gX6_group_X6_refuses rfl rfl rfl (by decide +kernel) ⟨Nat.le_of_ble_eq_true rfl, Nat.le_of_ble_eq_true rfl⟩) (jw_V hK hN hP hD [0] (by decide) rfl 6 0 rfl rfl rfl) rfl rfl hl.1 rfl (lv_room (Nat.le_of_ble_eq_true rfl)) dX6_group_60 ⟨Nat.le_of_ble_eq_true rfl, Nat.le_of_ble_eq_true rfl⟩) hP hD hS hA [0] [1, 2, 3] rfl rfl (by decide) (by decide) (fun r u H locs f_15 hP hD hS => ?_)
        obtain ⟨rfl, rfl⟩ := f_15
        have hP : va_P D vwCl [(q3, .inl (cI, 800, .inl m3)), (q5, .inl (cI, 800, .inl m5)), (q6, .inl (cI, 2, .inl (jl [nI n, nI n2]))), (mo, .inr (6, [.int 1, .ref q1, .int (nI g), .ref q3, .ref q4, .ref q5, .ref q6, .int 1, .int 1, .int kd, .long w10, .ref q11, .int mk, .long w13, .long w14]))] H := hP
        have hD : va_D A [(q3, .inl (cI, 800, .inl m3)), (q5, .inl (cI, 800, .inl m5)), (q6, .inl (cI, 2, .inl (jl [nI n, nI n2]))), (mo, .inr (6, [.int 1, .ref q1, .int (nI g), .ref q3, .ref q4, .ref q5, .ref q6, .int 1, .int 1, .int kd, .long w10, .ref q11, .int mk, .long w13, .long w14]))] := hD
        refine lv_if_eq (tgt := 68) hx hb dX6_group_63 (by decide) (fun c_16 => absurd c_16 (by decide)) (fun c_16 => ?_)
        refine lv_lconst (v := 0) hx hb dX6_group_66 (by decide) ?_
        have hP := hP.sub (ws' := [(mo, .inr (6, [.int 1, .ref q1, .int (nI g), .ref q3, .ref q4, .ref q5, .ref q6, .int 1, .int 1, .int kd, .long w10, .ref q11, .int mk, .long w13, .long w14])), (q3, .inl (cI, 800, .inl m3)), (q5, .inl (cI, 800, .inl m5)), (q6, .inl (cI, 2, .inl (jl [nI n, nI n2])))]) [3, 0, 1, 2] rfl
        have hD := hD.sub (ws' := [(mo, .inr (6, [.int 1, .ref q1, .int (nI g), .ref q3, .ref q4, .ref q5, .ref q6, .int 1, .int 1, .int kd, .long w10, .ref q11, .int mk, .long w13, .long w14])), (q3, .inl (cI, 800, .inl m3)), (q5, .inl (cI, 800, .inl m5)), (q6, .inl (cI, 2, .inl (jl [nI n, nI n2])))]) [3, 0, 1, 2] (by decide) rfl
        refine W.widen (k := 0) (n := 0) (by omega) (by omega) ?_
        exact W.lret (v := 0) hx hb hr (fun t ht hW => ⟨⟨0, [(mo, .inr (6, [.int 1, .ref q1, .int (nI g), .ref q3, .ref q4, .ref q5, .ref q6, .int 1, .int 1, .int kd, .long w10, .ref q11, .int mk, .long w13, .long w14])), (q3, .inl (cI, 800, .inl m3)), (q5, .inl (cI, 800, .inl m5)), (q6, .inl (cI, 2, .inl (jl [nI n, nI n2])))], rfl, (by exact ⟨rfl, rfl⟩), by rw [ht]; exact hP, hD⟩, hS.F ht⟩) hS.2.2 dX6_group_67
set_option maxHeartbeats 1000000 in
set_option maxRecDepth 100000 in
theorem gM_group_a0 (l : Launch) (D : va_G) (cI cL cQ : ClassId) (mo : Nat) (g : Nat) (q1 : Nat) (q3 : Nat) (q4 : Nat) (q5 : Nat) (q6 : Nat) (q11 : Nat) (z0 : Int32) (gr : Int32) (kd : Int32) (mk : Int32) (w10 : Int64) (w13 : Int64) (w14 : Int64) (x : Int32) (y : Int32) (sz : Nat) (h1 : x < 0 ∨ (y < 0 ∨ 4 < y)) : Met l yX6_group wsX6_group ({ frames := 1, cells := 0, slots := 0, locals := 21 }) (jw_P D vwCl (jT cI cL cQ) cL cQ [.ref mo, .int x, .int y] [(mo, .inr (6, [.int z0, .ref q1, .int (nI g), .ref q3, .ref q4, .ref q5, .ref q6, .int 0, .int gr, .int kd, .long w10, .ref q11, .int mk, .long w13, .long w14]))] sz) (va_Ql (fun (r : Int64) (u : va_W) => r = 0 ∧ u = [(mo, .inr (6, [.int 1, .ref q1, .int (nI g), .ref q3, .ref q4, .ref q5, .ref q6, .int 0, .int gr, .int kd, .long w10, .ref q11, .int mk, .long w13, .long w14]))]) (jw_B D vwCl (va_A [(mo, .inr (6, [.int z0, .ref q1, .int (nI g), .ref q3, .ref q4, .ref q5, .ref q6, .int 0, .int gr, .int kd, .long w10, .ref q11, .int mk, .long w13, .long w14]))] sz) (fun u : va_W => u)) (va_A [(mo, .inr (6, [.int z0, .ref q1, .int (nI g), .ref q3, .ref q4, .ref q5, .ref q6, .int 0, .int gr, .int kd, .long w10, .ref q11, .int mk, .long w13, .long w14]))] sz)) 0 0 (va_A [(mo, .inr (6, [.int z0, .ref q1, .int (nI g), .ref q3, .ref q4, .ref q5, .ref q6, .int 0, .int gr, .int kd, .long w10, .ref q11, .int mk, .long w13, .long w14]))] sz) := by
  refine Met.ofW (cc := cX6_group) (maxL := 13) (ret := (some .long)) (by decide) rfl ?_
  intro p e s m args below meth c s₁ B hml hv
  obtain ⟨rfl, hsz, hP, hK, hN, hD0⟩ := hv
  have hx := B.exec
  have hb := B.bytes
  have hr := B.returns
  have hts := atoms_spec (ws := wsX6_group) B.pre
  have hown : s.vm.findClass RX6 = some m.cls := findClass_of_methodNamed B.named
  have hlocks := B.notSynchronized
  subst hsz
  have hD := hD0.self (sz := s.heap.size)
  generalize hAe : va_A [(mo, .inr (6, [.int z0, .ref q1, .int (nI g), .ref q3, .ref q4, .ref q5, .ref q6, .int 0, .int gr, .int kd, .long w10, .ref q11, .int mk, .long w13, .long w14]))] s.heap.size = A at hD ⊢
  have hA : ∀ q : Nat, s.heap.size ≤ q → A q := fun q h => by rw [← hAe]; exact Or.inr h
  have hS : va_S A s.heap s.heap [] := va_S.rf
  have hl := lv_entry ([.ref mo, .int x, .int y]) (n := 13) (Nat.le_of_ble_eq_true rfl)
  rw [lg_entry_eq]
  generalize (lg_sl ([.ref mo, .int x, .int y]) ++ List.replicate (13 - (lg_sl ([.ref mo, .int x, .int y])).length) Slot.unset).toArray = ls at hl ⊢
  have hl : lv_has ls 13 [(0, .ref mo), (1, .int x), (2, .int y)] := hl
  refine lv_aload_n hx hb dX6_group_0 rfl (lv_at hl 0 rfl) ?_
  refine va_get (D := D) (ci := 6) (v := .int 0) (C := RX6) (T := TX6) (N := 15) hx hb hts (by decide +kernel) hown hK hP 0 rfl rfl 7 (by decide) (hts (.fieldLink RX6 43 "JoinDeskModel" "prepared" "Z") (by decide +kernel)) (fun _ h9 => h9) rfl dX6_group_1 ?_
  refine lv_if_eq (tgt := 18) hx hb dX6_group_4 (by decide) (fun c_1 => ?_) (fun c_1 => absurd c_1 (by decide))
  refine lv_iconst (v := 0) hx hb dX6_group_18 (by decide) ?_
  refine lv_istore_n (lv' := [(3, .int 0), (0, .ref mo), (1, .int x), (2, .int y)]) hx hb dX6_group_19 rfl hl (by decide) rfl (fun ls hl => ?_)
  refine lv_aload_n hx hb dX6_group_20 rfl (lv_at hl 1 rfl) ?_
  refine lv_iload_n hx hb dX6_group_21 rfl (lv_at hl 2 rfl) ?_
  refine lv_if_lt (tgt := 47) hx hb dX6_group_22 (by decide) (fun c_2 => ?_) (fun c_2 => ?_)
  · refine lv_iconst (v := 1) hx hb dX6_group_47 (by decide) ?_
    refine lv_goto (tgt := 60) hx hb dX6_group_48 (by decide) ?_
    refine jw_i (wr := []) (va_runV (As := [.int 1]) (rest := []) ⟨hx, hb, hml, hown, hts⟩ (gM_refuses_1 l D cI cL cQ mo g q1 q3 q4 q5 q6 q11 z0 0 gr kd mk w10 w13 w14 _) (cwV 1 hts gX6_group_X6_refuses rfl rfl rfl (by decide +kernel) ⟨Nat.le_of_ble_eq_true rfl, Nat.le_of_ble_eq_true rfl⟩) (jw_V hK hN hP hD [0] (by decide) rfl 6 0 rfl rfl rfl) rfl rfl hl.1 rfl (lv_room (Nat.le_of_ble_eq_true rfl)) dX6_group_60 ⟨Nat.le_of_ble_eq_true rfl, Nat.le_of_ble_eq_true rfl⟩) hP hD hS hA [0] [] rfl rfl (by decide) (by decide) (fun r u H locs f_3 hP hD hS => ?_)
    obtain ⟨rfl, rfl⟩ := f_3
    have hP : va_P D vwCl [(mo, .inr (6, [.int 1, .ref q1, .int (nI g), .ref q3, .ref q4, .ref q5, .ref q6, .int 0, .int gr, .int kd, .long w10, .ref q11, .int mk, .long w13, .long w14]))] H := hP
    have hD : va_D A [(mo, .inr (6, [.int 1, .ref q1, .int (nI g), .ref q3, .ref q4, .ref q5, .ref q6, .int 0, .int gr, .int kd, .long w10, .ref q11, .int mk, .long w13, .long w14]))] := hD
    refine lv_if_eq (tgt := 68) hx hb dX6_group_63 (by decide) (fun c_4 => absurd c_4 (by decide)) (fun c_4 => ?_)
    refine lv_lconst (v := 0) hx hb dX6_group_66 (by decide) ?_
    refine W.widen (k := 0) (n := 0) (by omega) (by omega) ?_
    exact W.lret (v := 0) hx hb hr (fun t ht hW => ⟨⟨0, [(mo, .inr (6, [.int 1, .ref q1, .int (nI g), .ref q3, .ref q4, .ref q5, .ref q6, .int 0, .int gr, .int kd, .long w10, .ref q11, .int mk, .long w13, .long w14]))], rfl, (by exact ⟨rfl, rfl⟩), by rw [ht]; exact hP, hD⟩, hS.F ht⟩) hS.2.2 dX6_group_67
  · refine lv_iload_n hx hb dX6_group_25 rfl (lv_at hl 3 rfl) ?_
    refine lv_if_lt (tgt := 47) hx hb dX6_group_26 (by decide) (fun c_5 => ?_) (fun c_5 => ?_)
    · refine lv_iconst (v := 1) hx hb dX6_group_47 (by decide) ?_
      refine lv_goto (tgt := 60) hx hb dX6_group_48 (by decide) ?_
      refine jw_i (wr := []) (va_runV (As := [.int 1]) (rest := []) ⟨hx, hb, hml, hown, hts⟩ (gM_refuses_1 l D cI cL cQ mo g q1 q3 q4 q5 q6 q11 z0 0 gr kd mk w10 w13 w14 _) (cwV 1 hts gX6_group_X6_refuses rfl rfl rfl (by decide +kernel) ⟨Nat.le_of_ble_eq_true rfl, Nat.le_of_ble_eq_true rfl⟩) (jw_V hK hN hP hD [0] (by decide) rfl 6 0 rfl rfl rfl) rfl rfl hl.1 rfl (lv_room (Nat.le_of_ble_eq_true rfl)) dX6_group_60 ⟨Nat.le_of_ble_eq_true rfl, Nat.le_of_ble_eq_true rfl⟩) hP hD hS hA [0] [] rfl rfl (by decide) (by decide) (fun r u H locs f_6 hP hD hS => ?_)
      obtain ⟨rfl, rfl⟩ := f_6
      have hP : va_P D vwCl [(mo, .inr (6, [.int 1, .ref q1, .int (nI g), .ref q3, .ref q4, .ref q5, .ref q6, .int 0, .int gr, .int kd, .long w10, .ref q11, .int mk, .long w13, .long w14]))] H := hP
      have hD : va_D A [(mo, .inr (6, [.int 1, .ref q1, .int (nI g), .ref q3, .ref q4, .ref q5, .ref q6, .int 0, .int gr, .int kd, .long w10, .ref q11, .int mk, .long w13, .long w14]))] := hD
      refine lv_if_eq (tgt := 68) hx hb dX6_group_63 (by decide) (fun c_7 => absurd c_7 (by decide)) (fun c_7 => ?_)
      refine lv_lconst (v := 0) hx hb dX6_group_66 (by decide) ?_
      refine W.widen (k := 0) (n := 0) (by omega) (by omega) ?_
      exact W.lret (v := 0) hx hb hr (fun t ht hW => ⟨⟨0, [(mo, .inr (6, [.int 1, .ref q1, .int (nI g), .ref q3, .ref q4, .ref q5, .ref q6, .int 0, .int gr, .int kd, .long w10, .ref q11, .int mk, .long w13, .long w14]))], rfl, (by exact ⟨rfl, rfl⟩), by rw [ht]; exact hP, hD⟩, hS.F ht⟩) hS.2.2 dX6_group_67
    · refine lv_iload_n hx hb dX6_group_29 rfl (lv_at hl 3 rfl) ?_
      refine lv_iconst (v := 4) hx hb dX6_group_30 (by decide) ?_
      refine lv_icmp_gt (tgt := 47) hx hb dX6_group_31 (by decide) (fun c_8 => ?_) (fun c_8 => absurd c_8 (by exact fun q => h1.elim (by assumption) (fun h => h.elim (by assumption) q)))
      refine lv_iconst (v := 1) hx hb dX6_group_47 (by decide) ?_
      refine lv_goto (tgt := 60) hx hb dX6_group_48 (by decide) ?_
      refine jw_i (wr := []) (va_runV (As := [.int 1]) (rest := []) ⟨hx, hb, hml, hown, hts⟩ (gM_refuses_1 l D cI cL cQ mo g q1 q3 q4 q5 q6 q11 z0 0 gr kd mk w10 w13 w14 _) (cwV 1 hts gX6_group_X6_refuses rfl rfl rfl (by decide +kernel) ⟨Nat.le_of_ble_eq_true rfl, Nat.le_of_ble_eq_true rfl⟩) (jw_V hK hN hP hD [0] (by decide) rfl 6 0 rfl rfl rfl) rfl rfl hl.1 rfl (lv_room (Nat.le_of_ble_eq_true rfl)) dX6_group_60 ⟨Nat.le_of_ble_eq_true rfl, Nat.le_of_ble_eq_true rfl⟩) hP hD hS hA [0] [] rfl rfl (by decide) (by decide) (fun r u H locs f_9 hP hD hS => ?_)
      obtain ⟨rfl, rfl⟩ := f_9
      have hP : va_P D vwCl [(mo, .inr (6, [.int 1, .ref q1, .int (nI g), .ref q3, .ref q4, .ref q5, .ref q6, .int 0, .int gr, .int kd, .long w10, .ref q11, .int mk, .long w13, .long w14]))] H := hP
      have hD : va_D A [(mo, .inr (6, [.int 1, .ref q1, .int (nI g), .ref q3, .ref q4, .ref q5, .ref q6, .int 0, .int gr, .int kd, .long w10, .ref q11, .int mk, .long w13, .long w14]))] := hD
      refine lv_if_eq (tgt := 68) hx hb dX6_group_63 (by decide) (fun c_10 => absurd c_10 (by decide)) (fun c_10 => ?_)
      refine lv_lconst (v := 0) hx hb dX6_group_66 (by decide) ?_
      refine W.widen (k := 0) (n := 0) (by omega) (by omega) ?_
      exact W.lret (v := 0) hx hb hr (fun t ht hW => ⟨⟨0, [(mo, .inr (6, [.int 1, .ref q1, .int (nI g), .ref q3, .ref q4, .ref q5, .ref q6, .int 0, .int gr, .int kd, .long w10, .ref q11, .int mk, .long w13, .long w14]))], rfl, (by exact ⟨rfl, rfl⟩), by rw [ht]; exact hP, hD⟩, hS.F ht⟩) hS.2.2 dX6_group_67
set_option maxHeartbeats 1000000 in
set_option maxRecDepth 100000 in
theorem gM_group_s0 (l : Launch) (D : va_G) (cI cL cQ : ClassId) (mo : Nat) (g : Nat) (q1 : Nat) (q3 : Nat) (q4 : Nat) (q5 : Nat) (q6 : Nat) (q11 : Nat) (z0 : Int32) (gr : Int32) (kd : Int32) (mk : Int32) (w10 : Int64) (w13 : Int64) (w14 : Int64) (x : Int32) (y : Int32) (sz : Nat) (h1 : ¬ x < 0) (h2 : ¬ y < 0) (h3 : y ≤ 4) : Met l yX6_group wsX6_group ({ frames := 1, cells := 0, slots := 0, locals := 21 }) (jw_P D vwCl (jT cI cL cQ) cL cQ [.ref mo, .int x, .int y] [(mo, .inr (6, [.int z0, .ref q1, .int (nI g), .ref q3, .ref q4, .ref q5, .ref q6, .int 0, .int gr, .int kd, .long w10, .ref q11, .int mk, .long w13, .long w14]))] sz) (va_Ql (fun (r : Int64) (u : va_W) => r = 0 ∧ u = [(mo, .inr (6, [.int 2, .ref q1, .int (nI g), .ref q3, .ref q4, .ref q5, .ref q6, .int 0, .int gr, .int kd, .long w10, .ref q11, .int mk, .long w13, .long w14]))]) (jw_B D vwCl (va_A [(mo, .inr (6, [.int z0, .ref q1, .int (nI g), .ref q3, .ref q4, .ref q5, .ref q6, .int 0, .int gr, .int kd, .long w10, .ref q11, .int mk, .long w13, .long w14]))] sz) (fun u : va_W => u)) (va_A [(mo, .inr (6, [.int z0, .ref q1, .int (nI g), .ref q3, .ref q4, .ref q5, .ref q6, .int 0, .int gr, .int kd, .long w10, .ref q11, .int mk, .long w13, .long w14]))] sz)) 0 0 (va_A [(mo, .inr (6, [.int z0, .ref q1, .int (nI g), .ref q3, .ref q4, .ref q5, .ref q6, .int 0, .int gr, .int kd, .long w10, .ref q11, .int mk, .long w13, .long w14]))] sz) := by
  refine Met.ofW (cc := cX6_group) (maxL := 13) (ret := (some .long)) (by decide) rfl ?_
  intro p e s m args below meth c s₁ B hml hv
  obtain ⟨rfl, hsz, hP, hK, hN, hD0⟩ := hv
  have hx := B.exec
  have hb := B.bytes
  have hr := B.returns
  have hts := atoms_spec (ws := wsX6_group) B.pre
  have hown : s.vm.findClass RX6 = some m.cls := findClass_of_methodNamed B.named
  have hlocks := B.notSynchronized
  subst hsz
  have hD := hD0.self (sz := s.heap.size)
  generalize hAe : va_A [(mo, .inr (6, [.int z0, .ref q1, .int (nI g), .ref q3, .ref q4, .ref q5, .ref q6, .int 0, .int gr, .int kd, .long w10, .ref q11, .int mk, .long w13, .long w14]))] s.heap.size = A at hD ⊢
  have hA : ∀ q : Nat, s.heap.size ≤ q → A q := fun q h => by rw [← hAe]; exact Or.inr h
  have hS : va_S A s.heap s.heap [] := va_S.rf
  have hl := lv_entry ([.ref mo, .int x, .int y]) (n := 13) (Nat.le_of_ble_eq_true rfl)
  rw [lg_entry_eq]
  generalize (lg_sl ([.ref mo, .int x, .int y]) ++ List.replicate (13 - (lg_sl ([.ref mo, .int x, .int y])).length) Slot.unset).toArray = ls at hl ⊢
  have hl : lv_has ls 13 [(0, .ref mo), (1, .int x), (2, .int y)] := hl
  refine lv_aload_n hx hb dX6_group_0 rfl (lv_at hl 0 rfl) ?_
  refine va_get (D := D) (ci := 6) (v := .int 0) (C := RX6) (T := TX6) (N := 15) hx hb hts (by decide +kernel) hown hK hP 0 rfl rfl 7 (by decide) (hts (.fieldLink RX6 43 "JoinDeskModel" "prepared" "Z") (by decide +kernel)) (fun _ h9 => h9) rfl dX6_group_1 ?_
  refine lv_if_eq (tgt := 18) hx hb dX6_group_4 (by decide) (fun c_1 => ?_) (fun c_1 => absurd c_1 (by decide))
  refine lv_iconst (v := 0) hx hb dX6_group_18 (by decide) ?_
  refine lv_istore_n (lv' := [(3, .int 0), (0, .ref mo), (1, .int x), (2, .int y)]) hx hb dX6_group_19 rfl hl (by decide) rfl (fun ls hl => ?_)
  refine lv_aload_n hx hb dX6_group_20 rfl (lv_at hl 1 rfl) ?_
  refine lv_iload_n hx hb dX6_group_21 rfl (lv_at hl 2 rfl) ?_
  refine lv_if_lt (tgt := 47) hx hb dX6_group_22 (by decide) (fun c_2 => absurd c_2 (by exact h1)) (fun c_2 => ?_)
  refine lv_iload_n hx hb dX6_group_25 rfl (lv_at hl 3 rfl) ?_
  refine lv_if_lt (tgt := 47) hx hb dX6_group_26 (by decide) (fun c_3 => absurd c_3 (by exact h2)) (fun c_3 => ?_)
  refine lv_iload_n hx hb dX6_group_29 rfl (lv_at hl 3 rfl) ?_
  refine lv_iconst (v := 4) hx hb dX6_group_30 (by decide) ?_
  refine lv_icmp_gt (tgt := 47) hx hb dX6_group_31 (by decide) (fun c_4 => absurd c_4 (by exact j_nlt_le h3)) (fun c_4 => ?_)
  refine lv_iload_n hx hb dX6_group_34 rfl (lv_at hl 0 rfl) ?_
  refine lv_if_eq (tgt := 51) hx hb dX6_group_35 (by decide) (fun c_5 => ?_) (fun c_5 => absurd c_5 (by decide))
  refine lv_iload_n hx hb dX6_group_51 rfl (lv_at hl 0 rfl) ?_
  refine lv_if_eq (tgt := 59) hx hb dX6_group_52 (by decide) (fun c_6 => ?_) (fun c_6 => absurd c_6 (by decide))
  refine lv_iconst (v := 2) hx hb dX6_group_59 (by decide) ?_
  refine jw_i (wr := []) (va_runV (As := [.int 2]) (rest := []) ⟨hx, hb, hml, hown, hts⟩ (gM_refuses_2 l D cI cL cQ mo g q1 q3 q4 q5 q6 q11 z0 0 gr kd mk w10 w13 w14 _) (cwV 1 hts gX6_group_X6_refuses rfl rfl rfl (by decide +kernel) ⟨Nat.le_of_ble_eq_true rfl, Nat.le_of_ble_eq_true rfl⟩) (jw_V hK hN hP hD [0] (by decide) rfl 6 0 rfl rfl rfl) rfl rfl hl.1 rfl (lv_room (Nat.le_of_ble_eq_true rfl)) dX6_group_60 ⟨Nat.le_of_ble_eq_true rfl, Nat.le_of_ble_eq_true rfl⟩) hP hD hS hA [0] [] rfl rfl (by decide) (by decide) (fun r u H locs f_7 hP hD hS => ?_)
  obtain ⟨rfl, rfl⟩ := f_7
  have hP : va_P D vwCl [(mo, .inr (6, [.int 2, .ref q1, .int (nI g), .ref q3, .ref q4, .ref q5, .ref q6, .int 0, .int gr, .int kd, .long w10, .ref q11, .int mk, .long w13, .long w14]))] H := hP
  have hD : va_D A [(mo, .inr (6, [.int 2, .ref q1, .int (nI g), .ref q3, .ref q4, .ref q5, .ref q6, .int 0, .int gr, .int kd, .long w10, .ref q11, .int mk, .long w13, .long w14]))] := hD
  refine lv_if_eq (tgt := 68) hx hb dX6_group_63 (by decide) (fun c_8 => absurd c_8 (by decide)) (fun c_8 => ?_)
  refine lv_lconst (v := 0) hx hb dX6_group_66 (by decide) ?_
  refine W.widen (k := 0) (n := 0) (by omega) (by omega) ?_
  exact W.lret (v := 0) hx hb hr (fun t ht hW => ⟨⟨0, [(mo, .inr (6, [.int 2, .ref q1, .int (nI g), .ref q3, .ref q4, .ref q5, .ref q6, .int 0, .int gr, .int kd, .long w10, .ref q11, .int mk, .long w13, .long w14]))], rfl, (by exact ⟨rfl, rfl⟩), by rw [ht]; exact hP, hD⟩, hS.F ht⟩) hS.2.2 dX6_group_67
set_option maxHeartbeats 1000000 in
set_option maxRecDepth 100000 in
theorem gM_group_a10 (l : Launch) (D : va_G) (cI cL cQ : ClassId) (mo : Nat) (g : Nat) (q1 : Nat) (q3 : Nat) (q4 : Nat) (q5 : Nat) (q6 : Nat) (q11 : Nat) (z0 : Int32) (kd : Int32) (mk : Int32) (w10 : Int64) (w13 : Int64) (w14 : Int64) (x : Int32) (y : Int32) (sz : Nat) (h1 : x < 0 ∨ (y < 0 ∨ 4 < y)) : Met l yX6_group wsX6_group ({ frames := 1, cells := 0, slots := 0, locals := 21 }) (jw_P D vwCl (jT cI cL cQ) cL cQ [.ref mo, .int x, .int y] [(mo, .inr (6, [.int z0, .ref q1, .int (nI g), .ref q3, .ref q4, .ref q5, .ref q6, .int 1, .int 0, .int kd, .long w10, .ref q11, .int mk, .long w13, .long w14]))] sz) (va_Ql (fun (r : Int64) (u : va_W) => r = 0 ∧ u = [(mo, .inr (6, [.int 1, .ref q1, .int (nI g), .ref q3, .ref q4, .ref q5, .ref q6, .int 1, .int 0, .int kd, .long w10, .ref q11, .int mk, .long w13, .long w14]))]) (jw_B D vwCl (va_A [(mo, .inr (6, [.int z0, .ref q1, .int (nI g), .ref q3, .ref q4, .ref q5, .ref q6, .int 1, .int 0, .int kd, .long w10, .ref q11, .int mk, .long w13, .long w14]))] sz) (fun u : va_W => u)) (va_A [(mo, .inr (6, [.int z0, .ref q1, .int (nI g), .ref q3, .ref q4, .ref q5, .ref q6, .int 1, .int 0, .int kd, .long w10, .ref q11, .int mk, .long w13, .long w14]))] sz)) 0 0 (va_A [(mo, .inr (6, [.int z0, .ref q1, .int (nI g), .ref q3, .ref q4, .ref q5, .ref q6, .int 1, .int 0, .int kd, .long w10, .ref q11, .int mk, .long w13, .long w14]))] sz) := by
  refine Met.ofW (cc := cX6_group) (maxL := 13) (ret := (some .long)) (by decide) rfl ?_
  intro p e s m args below meth c s₁ B hml hv
  obtain ⟨rfl, hsz, hP, hK, hN, hD0⟩ := hv
  have hx := B.exec
  have hb := B.bytes
  have hr := B.returns
  have hts := atoms_spec (ws := wsX6_group) B.pre
  have hown : s.vm.findClass RX6 = some m.cls := findClass_of_methodNamed B.named
  have hlocks := B.notSynchronized
  subst hsz
  have hD := hD0.self (sz := s.heap.size)
  generalize hAe : va_A [(mo, .inr (6, [.int z0, .ref q1, .int (nI g), .ref q3, .ref q4, .ref q5, .ref q6, .int 1, .int 0, .int kd, .long w10, .ref q11, .int mk, .long w13, .long w14]))] s.heap.size = A at hD ⊢
  have hA : ∀ q : Nat, s.heap.size ≤ q → A q := fun q h => by rw [← hAe]; exact Or.inr h
  have hS : va_S A s.heap s.heap [] := va_S.rf
  have hl := lv_entry ([.ref mo, .int x, .int y]) (n := 13) (Nat.le_of_ble_eq_true rfl)
  rw [lg_entry_eq]
  generalize (lg_sl ([.ref mo, .int x, .int y]) ++ List.replicate (13 - (lg_sl ([.ref mo, .int x, .int y])).length) Slot.unset).toArray = ls at hl ⊢
  have hl : lv_has ls 13 [(0, .ref mo), (1, .int x), (2, .int y)] := hl
  refine lv_aload_n hx hb dX6_group_0 rfl (lv_at hl 0 rfl) ?_
  refine va_get (D := D) (ci := 6) (v := .int 1) (C := RX6) (T := TX6) (N := 15) hx hb hts (by decide +kernel) hown hK hP 0 rfl rfl 7 (by decide) (hts (.fieldLink RX6 43 "JoinDeskModel" "prepared" "Z") (by decide +kernel)) (fun _ h9 => h9) rfl dX6_group_1 ?_
  refine lv_if_eq (tgt := 18) hx hb dX6_group_4 (by decide) (fun c_1 => absurd c_1 (by decide)) (fun c_1 => ?_)
  refine lv_aload_n hx hb dX6_group_7 rfl (lv_at hl 0 rfl) ?_
  refine va_get (D := D) (ci := 6) (v := .int 0) (C := RX6) (T := TX6) (N := 15) hx hb hts (by decide +kernel) hown hK hP 0 rfl rfl 8 (by decide) (hts (.fieldLink RX6 47 "JoinDeskModel" "grouped" "Z") (by decide +kernel)) (fun _ h9 => h9) rfl dX6_group_8 ?_
  refine lv_if_eq (tgt := 18) hx hb dX6_group_11 (by decide) (fun c_2 => ?_) (fun c_2 => absurd c_2 (by decide))
  refine lv_iconst (v := 0) hx hb dX6_group_18 (by decide) ?_
  refine lv_istore_n (lv' := [(3, .int 0), (0, .ref mo), (1, .int x), (2, .int y)]) hx hb dX6_group_19 rfl hl (by decide) rfl (fun ls hl => ?_)
  refine lv_aload_n hx hb dX6_group_20 rfl (lv_at hl 1 rfl) ?_
  refine lv_iload_n hx hb dX6_group_21 rfl (lv_at hl 2 rfl) ?_
  refine lv_if_lt (tgt := 47) hx hb dX6_group_22 (by decide) (fun c_3 => ?_) (fun c_3 => ?_)
  · refine lv_iconst (v := 1) hx hb dX6_group_47 (by decide) ?_
    refine lv_goto (tgt := 60) hx hb dX6_group_48 (by decide) ?_
    refine jw_i (wr := []) (va_runV (As := [.int 1]) (rest := []) ⟨hx, hb, hml, hown, hts⟩ (gM_refuses_1 l D cI cL cQ mo g q1 q3 q4 q5 q6 q11 z0 1 0 kd mk w10 w13 w14 _) (cwV 1 hts gX6_group_X6_refuses rfl rfl rfl (by decide +kernel) ⟨Nat.le_of_ble_eq_true rfl, Nat.le_of_ble_eq_true rfl⟩) (jw_V hK hN hP hD [0] (by decide) rfl 6 0 rfl rfl rfl) rfl rfl hl.1 rfl (lv_room (Nat.le_of_ble_eq_true rfl)) dX6_group_60 ⟨Nat.le_of_ble_eq_true rfl, Nat.le_of_ble_eq_true rfl⟩) hP hD hS hA [0] [] rfl rfl (by decide) (by decide) (fun r u H locs f_4 hP hD hS => ?_)
    obtain ⟨rfl, rfl⟩ := f_4
    have hP : va_P D vwCl [(mo, .inr (6, [.int 1, .ref q1, .int (nI g), .ref q3, .ref q4, .ref q5, .ref q6, .int 1, .int 0, .int kd, .long w10, .ref q11, .int mk, .long w13, .long w14]))] H := hP
    have hD : va_D A [(mo, .inr (6, [.int 1, .ref q1, .int (nI g), .ref q3, .ref q4, .ref q5, .ref q6, .int 1, .int 0, .int kd, .long w10, .ref q11, .int mk, .long w13, .long w14]))] := hD
    refine lv_if_eq (tgt := 68) hx hb dX6_group_63 (by decide) (fun c_5 => absurd c_5 (by decide)) (fun c_5 => ?_)
    refine lv_lconst (v := 0) hx hb dX6_group_66 (by decide) ?_
    refine W.widen (k := 0) (n := 0) (by omega) (by omega) ?_
    exact W.lret (v := 0) hx hb hr (fun t ht hW => ⟨⟨0, [(mo, .inr (6, [.int 1, .ref q1, .int (nI g), .ref q3, .ref q4, .ref q5, .ref q6, .int 1, .int 0, .int kd, .long w10, .ref q11, .int mk, .long w13, .long w14]))], rfl, (by exact ⟨rfl, rfl⟩), by rw [ht]; exact hP, hD⟩, hS.F ht⟩) hS.2.2 dX6_group_67
  · refine lv_iload_n hx hb dX6_group_25 rfl (lv_at hl 3 rfl) ?_
    refine lv_if_lt (tgt := 47) hx hb dX6_group_26 (by decide) (fun c_6 => ?_) (fun c_6 => ?_)
    · refine lv_iconst (v := 1) hx hb dX6_group_47 (by decide) ?_
      refine lv_goto (tgt := 60) hx hb dX6_group_48 (by decide) ?_
      refine jw_i (wr := []) (va_runV (As := [.int 1]) (rest := []) ⟨hx, hb, hml, hown, hts⟩ (gM_refuses_1 l D cI cL cQ mo g q1 q3 q4 q5 q6 q11 z0 1 0 kd mk w10 w13 w14 _) (cwV 1 hts gX6_group_X6_refuses rfl rfl rfl (by decide +kernel) ⟨Nat.le_of_ble_eq_true rfl, Nat.le_of_ble_eq_true rfl⟩) (jw_V hK hN hP hD [0] (by decide) rfl 6 0 rfl rfl rfl) rfl rfl hl.1 rfl (lv_room (Nat.le_of_ble_eq_true rfl)) dX6_group_60 ⟨Nat.le_of_ble_eq_true rfl, Nat.le_of_ble_eq_true rfl⟩) hP hD hS hA [0] [] rfl rfl (by decide) (by decide) (fun r u H locs f_7 hP hD hS => ?_)
      obtain ⟨rfl, rfl⟩ := f_7
      have hP : va_P D vwCl [(mo, .inr (6, [.int 1, .ref q1, .int (nI g), .ref q3, .ref q4, .ref q5, .ref q6, .int 1, .int 0, .int kd, .long w10, .ref q11, .int mk, .long w13, .long w14]))] H := hP
      have hD : va_D A [(mo, .inr (6, [.int 1, .ref q1, .int (nI g), .ref q3, .ref q4, .ref q5, .ref q6, .int 1, .int 0, .int kd, .long w10, .ref q11, .int mk, .long w13, .long w14]))] := hD
      refine lv_if_eq (tgt := 68) hx hb dX6_group_63 (by decide) (fun c_8 => absurd c_8 (by decide)) (fun c_8 => ?_)
      refine lv_lconst (v := 0) hx hb dX6_group_66 (by decide) ?_
      refine W.widen (k := 0) (n := 0) (by omega) (by omega) ?_
      exact W.lret (v := 0) hx hb hr (fun t ht hW => ⟨⟨0, [(mo, .inr (6, [.int 1, .ref q1, .int (nI g), .ref q3, .ref q4, .ref q5, .ref q6, .int 1, .int 0, .int kd, .long w10, .ref q11, .int mk, .long w13, .long w14]))], rfl, (by exact ⟨rfl, rfl⟩), by rw [ht]; exact hP, hD⟩, hS.F ht⟩) hS.2.2 dX6_group_67
    · refine lv_iload_n hx hb dX6_group_29 rfl (lv_at hl 3 rfl) ?_
      refine lv_iconst (v := 4) hx hb dX6_group_30 (by decide) ?_
      refine lv_icmp_gt (tgt := 47) hx hb dX6_group_31 (by decide) (fun c_9 => ?_) (fun c_9 => absurd c_9 (by exact fun q => h1.elim (by assumption) (fun h => h.elim (by assumption) q)))
      refine lv_iconst (v := 1) hx hb dX6_group_47 (by decide) ?_
      refine lv_goto (tgt := 60) hx hb dX6_group_48 (by decide) ?_
      refine jw_i (wr := []) (va_runV (As := [.int 1]) (rest := []) ⟨hx, hb, hml, hown, hts⟩ (gM_refuses_1 l D cI cL cQ mo g q1 q3 q4 q5 q6 q11 z0 1 0 kd mk w10 w13 w14 _) (cwV 1 hts gX6_group_X6_refuses rfl rfl rfl (by decide +kernel) ⟨Nat.le_of_ble_eq_true rfl, Nat.le_of_ble_eq_true rfl⟩) (jw_V hK hN hP hD [0] (by decide) rfl 6 0 rfl rfl rfl) rfl rfl hl.1 rfl (lv_room (Nat.le_of_ble_eq_true rfl)) dX6_group_60 ⟨Nat.le_of_ble_eq_true rfl, Nat.le_of_ble_eq_true rfl⟩) hP hD hS hA [0] [] rfl rfl (by decide) (by decide) (fun r u H locs f_10 hP hD hS => ?_)
      obtain ⟨rfl, rfl⟩ := f_10
      have hP : va_P D vwCl [(mo, .inr (6, [.int 1, .ref q1, .int (nI g), .ref q3, .ref q4, .ref q5, .ref q6, .int 1, .int 0, .int kd, .long w10, .ref q11, .int mk, .long w13, .long w14]))] H := hP
      have hD : va_D A [(mo, .inr (6, [.int 1, .ref q1, .int (nI g), .ref q3, .ref q4, .ref q5, .ref q6, .int 1, .int 0, .int kd, .long w10, .ref q11, .int mk, .long w13, .long w14]))] := hD
      refine lv_if_eq (tgt := 68) hx hb dX6_group_63 (by decide) (fun c_11 => absurd c_11 (by decide)) (fun c_11 => ?_)
      refine lv_lconst (v := 0) hx hb dX6_group_66 (by decide) ?_
      refine W.widen (k := 0) (n := 0) (by omega) (by omega) ?_
      exact W.lret (v := 0) hx hb hr (fun t ht hW => ⟨⟨0, [(mo, .inr (6, [.int 1, .ref q1, .int (nI g), .ref q3, .ref q4, .ref q5, .ref q6, .int 1, .int 0, .int kd, .long w10, .ref q11, .int mk, .long w13, .long w14]))], rfl, (by exact ⟨rfl, rfl⟩), by rw [ht]; exact hP, hD⟩, hS.F ht⟩) hS.2.2 dX6_group_67
set_option maxHeartbeats 1000000 in
set_option maxRecDepth 100000 in
theorem gM_group_s10 (l : Launch) (D : va_G) (cI cL cQ : ClassId) (mo : Nat) (g : Nat) (q1 : Nat) (q3 : Nat) (q4 : Nat) (q5 : Nat) (q6 : Nat) (q11 : Nat) (z0 : Int32) (kd : Int32) (mk : Int32) (w10 : Int64) (w13 : Int64) (w14 : Int64) (x : Int32) (y : Int32) (sz : Nat) (h1 : ¬ x < 0) (h2 : ¬ y < 0) (h3 : y ≤ 4) : Met l yX6_group wsX6_group ({ frames := 1, cells := 0, slots := 0, locals := 21 }) (jw_P D vwCl (jT cI cL cQ) cL cQ [.ref mo, .int x, .int y] [(mo, .inr (6, [.int z0, .ref q1, .int (nI g), .ref q3, .ref q4, .ref q5, .ref q6, .int 1, .int 0, .int kd, .long w10, .ref q11, .int mk, .long w13, .long w14]))] sz) (va_Ql (fun (r : Int64) (u : va_W) => r = 0 ∧ u = [(mo, .inr (6, [.int 2, .ref q1, .int (nI g), .ref q3, .ref q4, .ref q5, .ref q6, .int 1, .int 0, .int kd, .long w10, .ref q11, .int mk, .long w13, .long w14]))]) (jw_B D vwCl (va_A [(mo, .inr (6, [.int z0, .ref q1, .int (nI g), .ref q3, .ref q4, .ref q5, .ref q6, .int 1, .int 0, .int kd, .long w10, .ref q11, .int mk, .long w13, .long w14]))] sz) (fun u : va_W => u)) (va_A [(mo, .inr (6, [.int z0, .ref q1, .int (nI g), .ref q3, .ref q4, .ref q5, .ref q6, .int 1, .int 0, .int kd, .long w10, .ref q11, .int mk, .long w13, .long w14]))] sz)) 0 0 (va_A [(mo, .inr (6, [.int z0, .ref q1, .int (nI g), .ref q3, .ref q4, .ref q5, .ref q6, .int 1, .int 0, .int kd, .long w10, .ref q11, .int mk, .long w13, .long w14]))] sz) := by
  refine Met.ofW (cc := cX6_group) (maxL := 13) (ret := (some .long)) (by decide) rfl ?_
  intro p e s m args below meth c s₁ B hml hv
  obtain ⟨rfl, hsz, hP, hK, hN, hD0⟩ := hv
  have hx := B.exec
  have hb := B.bytes
  have hr := B.returns
  have hts := atoms_spec (ws := wsX6_group) B.pre
  have hown : s.vm.findClass RX6 = some m.cls := findClass_of_methodNamed B.named
  have hlocks := B.notSynchronized
  subst hsz
  have hD := hD0.self (sz := s.heap.size)
  generalize hAe : va_A [(mo, .inr (6, [.int z0, .ref q1, .int (nI g), .ref q3, .ref q4, .ref q5, .ref q6, .int 1, .int 0, .int kd, .long w10, .ref q11, .int mk, .long w13, .long w14]))] s.heap.size = A at hD ⊢
  have hA : ∀ q : Nat, s.heap.size ≤ q → A q := fun q h => by rw [← hAe]; exact Or.inr h
  have hS : va_S A s.heap s.heap [] := va_S.rf
  have hl := lv_entry ([.ref mo, .int x, .int y]) (n := 13) (Nat.le_of_ble_eq_true rfl)
  rw [lg_entry_eq]
  generalize (lg_sl ([.ref mo, .int x, .int y]) ++ List.replicate (13 - (lg_sl ([.ref mo, .int x, .int y])).length) Slot.unset).toArray = ls at hl ⊢
  have hl : lv_has ls 13 [(0, .ref mo), (1, .int x), (2, .int y)] := hl
  refine lv_aload_n hx hb dX6_group_0 rfl (lv_at hl 0 rfl) ?_
  refine va_get (D := D) (ci := 6) (v := .int 1) (C := RX6) (T := TX6) (N := 15) hx hb hts (by decide +kernel) hown hK hP 0 rfl rfl 7 (by decide) (hts (.fieldLink RX6 43 "JoinDeskModel" "prepared" "Z") (by decide +kernel)) (fun _ h9 => h9) rfl dX6_group_1 ?_
  refine lv_if_eq (tgt := 18) hx hb dX6_group_4 (by decide) (fun c_1 => absurd c_1 (by decide)) (fun c_1 => ?_)
  refine lv_aload_n hx hb dX6_group_7 rfl (lv_at hl 0 rfl) ?_
  refine va_get (D := D) (ci := 6) (v := .int 0) (C := RX6) (T := TX6) (N := 15) hx hb hts (by decide +kernel) hown hK hP 0 rfl rfl 8 (by decide) (hts (.fieldLink RX6 47 "JoinDeskModel" "grouped" "Z") (by decide +kernel)) (fun _ h9 => h9) rfl dX6_group_8 ?_
  refine lv_if_eq (tgt := 18) hx hb dX6_group_11 (by decide) (fun c_2 => ?_) (fun c_2 => absurd c_2 (by decide))
  refine lv_iconst (v := 0) hx hb dX6_group_18 (by decide) ?_
  refine lv_istore_n (lv' := [(3, .int 0), (0, .ref mo), (1, .int x), (2, .int y)]) hx hb dX6_group_19 rfl hl (by decide) rfl (fun ls hl => ?_)
  refine lv_aload_n hx hb dX6_group_20 rfl (lv_at hl 1 rfl) ?_
  refine lv_iload_n hx hb dX6_group_21 rfl (lv_at hl 2 rfl) ?_
  refine lv_if_lt (tgt := 47) hx hb dX6_group_22 (by decide) (fun c_3 => absurd c_3 (by exact h1)) (fun c_3 => ?_)
  refine lv_iload_n hx hb dX6_group_25 rfl (lv_at hl 3 rfl) ?_
  refine lv_if_lt (tgt := 47) hx hb dX6_group_26 (by decide) (fun c_4 => absurd c_4 (by exact h2)) (fun c_4 => ?_)
  refine lv_iload_n hx hb dX6_group_29 rfl (lv_at hl 3 rfl) ?_
  refine lv_iconst (v := 4) hx hb dX6_group_30 (by decide) ?_
  refine lv_icmp_gt (tgt := 47) hx hb dX6_group_31 (by decide) (fun c_5 => absurd c_5 (by exact j_nlt_le h3)) (fun c_5 => ?_)
  refine lv_iload_n hx hb dX6_group_34 rfl (lv_at hl 0 rfl) ?_
  refine lv_if_eq (tgt := 51) hx hb dX6_group_35 (by decide) (fun c_6 => ?_) (fun c_6 => absurd c_6 (by decide))
  refine lv_iload_n hx hb dX6_group_51 rfl (lv_at hl 0 rfl) ?_
  refine lv_if_eq (tgt := 59) hx hb dX6_group_52 (by decide) (fun c_7 => ?_) (fun c_7 => absurd c_7 (by decide))
  refine lv_iconst (v := 2) hx hb dX6_group_59 (by decide) ?_
  refine jw_i (wr := []) (va_runV (As := [.int 2]) (rest := []) ⟨hx, hb, hml, hown, hts⟩ (gM_refuses_2 l D cI cL cQ mo g q1 q3 q4 q5 q6 q11 z0 1 0 kd mk w10 w13 w14 _) (cwV 1 hts gX6_group_X6_refuses rfl rfl rfl (by decide +kernel) ⟨Nat.le_of_ble_eq_true rfl, Nat.le_of_ble_eq_true rfl⟩) (jw_V hK hN hP hD [0] (by decide) rfl 6 0 rfl rfl rfl) rfl rfl hl.1 rfl (lv_room (Nat.le_of_ble_eq_true rfl)) dX6_group_60 ⟨Nat.le_of_ble_eq_true rfl, Nat.le_of_ble_eq_true rfl⟩) hP hD hS hA [0] [] rfl rfl (by decide) (by decide) (fun r u H locs f_8 hP hD hS => ?_)
  obtain ⟨rfl, rfl⟩ := f_8
  have hP : va_P D vwCl [(mo, .inr (6, [.int 2, .ref q1, .int (nI g), .ref q3, .ref q4, .ref q5, .ref q6, .int 1, .int 0, .int kd, .long w10, .ref q11, .int mk, .long w13, .long w14]))] H := hP
  have hD : va_D A [(mo, .inr (6, [.int 2, .ref q1, .int (nI g), .ref q3, .ref q4, .ref q5, .ref q6, .int 1, .int 0, .int kd, .long w10, .ref q11, .int mk, .long w13, .long w14]))] := hD
  refine lv_if_eq (tgt := 68) hx hb dX6_group_63 (by decide) (fun c_9 => absurd c_9 (by decide)) (fun c_9 => ?_)
  refine lv_lconst (v := 0) hx hb dX6_group_66 (by decide) ?_
  refine W.widen (k := 0) (n := 0) (by omega) (by omega) ?_
  exact W.lret (v := 0) hx hb hr (fun t ht hW => ⟨⟨0, [(mo, .inr (6, [.int 2, .ref q1, .int (nI g), .ref q3, .ref q4, .ref q5, .ref q6, .int 1, .int 0, .int kd, .long w10, .ref q11, .int mk, .long w13, .long w14]))], rfl, (by exact ⟨rfl, rfl⟩), by rw [ht]; exact hP, hD⟩, hS.F ht⟩) hS.2.2 dX6_group_67
