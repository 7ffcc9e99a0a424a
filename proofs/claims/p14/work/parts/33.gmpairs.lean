set_option maxHeartbeats 1000000 in
set_option maxRecDepth 100000 in
theorem gM_pairs_1 (l : Launch) (D : va_G) (cI cL cQ : ClassId) (mo : Nat) (g : Nat) (n : Nat) (n2 : Nat) (q1 : Nat) (q3 : Nat) (q4 : Nat) (q5 : Nat) (q6 : Nat) (q11 : Nat) (z0 : Int32) (pr : Int32) (gr : Int32) (kd : Int32) (mk : Int32) (w10 : Int64) (w13 : Int64) (w14 : Int64) (m3 : Nat → Int32) (kk : Int32) (bd : Int64) (hn : n ≤ 400) (hn2 : n2 ≤ 400) (hk4 : jk4 kk) : Met l yX6_pairs wsX6_pairs ({ frames := 1, cells := 0, slots := 0, locals := 24 }) (jr_P D vwCl (jT cI cL cQ) cL cQ [.ref mo, .int kk, .int 1, .long bd] [(mo, .inr (6, [.int z0, .ref q1, .int (nI g), .ref q3, .ref q4, .ref q5, .ref q6, .int pr, .int gr, .int kd, .long w10, .ref q11, .int mk, .long w13, .long w14])), (q3, .inl (cI, 800, .inl m3)), (q6, .inl (cI, 2, .inl (jl [nI n, nI n2])))]) (vp_Sl (fun r : Int64 => r = lN ((0 + jPa (jG1 kk) n2 (jsh 400 m3) (jQ true bd) (jsh 0 m3) n) + jPa (jG2 kk) n (jsh 0 m3) (jQ true bd) (jsh 400 m3) n2))) 0 0 (fun _ => False) := by
  refine Met.ofW (cc := cX6_pairs) (maxL := 11) (ret := (some .long)) (by decide) rfl ?_
  intro p e s m args below meth c s₁ B hml hv
  obtain ⟨rfl, hP, hK, hN⟩ := hv
  have hx := B.exec
  have hb := B.bytes
  have hr := B.returns
  have hts := atoms_spec (ws := wsX6_pairs) B.pre
  have hown : s.vm.findClass RX6 = some m.cls := findClass_of_methodNamed B.named
  have hlocks := B.notSynchronized
  have hl := lv_entry ([.ref mo, .int kk, .int 1, .long bd]) (n := 11) (Nat.le_of_ble_eq_true rfl)
  rw [lg_entry_eq]
  generalize (lg_sl ([.ref mo, .int kk, .int 1, .long bd]) ++ List.replicate (11 - (lg_sl ([.ref mo, .int kk, .int 1, .long bd])).length) Slot.unset).toArray = ls at hl ⊢
  have hl : lv_has ls 11 [(0, .ref mo), (1, .int kk), (2, .int 1), (3, .long bd)] := hl
  refine lv_lconst (v := 0) hx hb dX6_pairs_0 (by decide) ?_
  refine lv_lstore (lv' := [(5, .long 0), (0, .ref mo), (1, .int kk), (2, .int 1), (3, .long bd)]) hx hb dX6_pairs_1 hl (by decide) rfl (fun ls hl => ?_)
  refine lv_iconst (v := 0) hx hb dX6_pairs_3 (by decide) ?_
  refine lv_istore (lv' := [(7, .int 0), (5, .long 0), (0, .ref mo), (1, .int kk), (2, .int 1), (3, .long bd)]) hx hb dX6_pairs_4 hl (by decide) rfl (fun ls hl => ?_)
  refine lv_iload hx hb dX6_pairs_6 (lv_at hl 0 rfl) ?_
  refine lv_iconst (v := 2) hx hb dX6_pairs_8 (by decide) ?_
  refine lv_icmp_ge (tgt := 125) hx hb dX6_pairs_9 (by decide) (fun c_1 => absurd c_1 (by decide)) (fun c_1 => ?_)
  refine lv_iconst (v := 0) hx hb dX6_pairs_12 (by decide) ?_
  refine lv_istore (lv' := [(8, .int 0), (7, .int 0), (5, .long 0), (0, .ref mo), (1, .int kk), (2, .int 1), (3, .long bd)]) hx hb dX6_pairs_13 hl (by decide) rfl (fun ls hl => ?_)
  have hloop_1 : ∀ (k_1 : Nat) (i0 : Nat) (v0 : Int64), n - i0 < k_1 → (i0 ≤ n) → (v0 = lN (0 + jPa (jG1 kk) n2 (jsh 400 m3) (jQ true bd) (jsh 0 m3) i0)) → ∀ ls : Array Slot, lv_has ls 11 [(0, .ref mo), (1, .int kk), (2, .int 1), (3, .long bd), (5, .long v0), (7, .int 0), (8, .int (nI i0))] → W p l e (headSpec wsX6_pairs ({ frames := 1, cells := 0, slots := 0, locals := 24 })).room s m #[.ref mo, .int kk, .int 1, .long bd] below meth c s.heap [] 0 0 (MQ below (vp_Sl (fun r : Int64 => r = lN ((0 + jPa (jG1 kk) n2 (jsh 400 m3) (jQ true bd) (jsh 0 m3) n) + jPa (jG2 kk) n (jsh 0 m3) (jQ true bd) (jsh 400 m3) n2))) #[.ref mo, .int kk, .int 1, .long bd] s 0 0 (fun _ => False)) (F0 m 15 ls []) := by
    intro k_1
    induction k_1 with
    | zero => exact fun _ _ hm => absurd hm (Nat.not_lt_zero _)
    | succ k_1 ih_1 =>
      intro i0 v0 hm1 hi0 hv0 ls hl
      refine lv_iload hx hb dX6_pairs_15 (lv_at hl 6 rfl) ?_
      refine lv_aload_n hx hb dX6_pairs_17 rfl (lv_at hl 0 rfl) ?_
      refine va_get (D := D) (ci := 6) (v := .ref q6) (C := RX6) (T := TX6) (N := 15) hx hb hts (by decide +kernel) hown hK hP 0 rfl rfl 6 (by decide) (hts (.fieldLink RX6 22 "JoinDeskModel" "many" "[I") (by decide +kernel)) (fun _ h9 => h9) rfl dX6_pairs_18 ?_
      refine lv_iload hx hb dX6_pairs_21 (lv_at hl 5 rfl) ?_
      refine va_iald hx hb hK hP 2 0 rfl rfl (by unfold vp_in; decide) dX6_pairs_23 ?_
      refine W.eq (g2 := F0 m 24 ls [.int (nI n), .int (nI i0)]) rfl ?_
      refine lv_icmp_ge (tgt := 119) hx hb dX6_pairs_24 (by decide) (fun cge0 => ?_) (fun cge0 => ?_)
      · refine lv_iinc (v := 1) (lv' := [(7, .int 1), (0, .ref mo), (1, .int kk), (2, .int 1), (3, .long bd), (5, .long v0), (8, .int (nI i0))]) hx hb dX6_pairs_119 hl (k := 5) rfl (by first | rfl | decide) (by decide) rfl (fun ls hl => ?_)
        refine lv_goto (tgt := 6) hx hb dX6_pairs_122 (by decide) ?_
        refine lv_iload hx hb dX6_pairs_6 (lv_at hl 0 rfl) ?_
        refine lv_iconst (v := 2) hx hb dX6_pairs_8 (by decide) ?_
        refine lv_icmp_ge (tgt := 125) hx hb dX6_pairs_9 (by decide) (fun c_2 => absurd c_2 (by decide)) (fun c_2 => ?_)
        refine lv_iconst (v := 0) hx hb dX6_pairs_12 (by decide) ?_
        refine lv_istore (lv' := [(8, .int 0), (7, .int 1), (0, .ref mo), (1, .int kk), (2, .int 1), (3, .long bd), (5, .long v0)]) hx hb dX6_pairs_13 hl (by decide) rfl (fun ls hl => ?_)
        have hloop_2 : ∀ (k_2 : Nat) (i1 : Nat) (v1 : Int64), n2 - i1 < k_2 → (i1 ≤ n2) → (v1 = lN ((0 + jPa (jG1 kk) n2 (jsh 400 m3) (jQ true bd) (jsh 0 m3) n) + jPa (jG2 kk) n (jsh 0 m3) (jQ true bd) (jsh 400 m3) i1)) → ∀ ls : Array Slot, lv_has ls 11 [(0, .ref mo), (1, .int kk), (2, .int 1), (3, .long bd), (5, .long v1), (7, .int 1), (8, .int (nI i1))] → W p l e (headSpec wsX6_pairs ({ frames := 1, cells := 0, slots := 0, locals := 24 })).room s m #[.ref mo, .int kk, .int 1, .long bd] below meth c s.heap [] 0 0 (MQ below (vp_Sl (fun r : Int64 => r = lN ((0 + jPa (jG1 kk) n2 (jsh 400 m3) (jQ true bd) (jsh 0 m3) n) + jPa (jG2 kk) n (jsh 0 m3) (jQ true bd) (jsh 400 m3) n2))) #[.ref mo, .int kk, .int 1, .long bd] s 0 0 (fun _ => False)) (F0 m 15 ls []) := by
          intro k_2
          induction k_2 with
          | zero => exact fun _ _ hm => absurd hm (Nat.not_lt_zero _)
          | succ k_2 ih_2 =>
            intro i1 v1 hm2 hi1 hv1 ls hl
            refine lv_iload hx hb dX6_pairs_15 (lv_at hl 6 rfl) ?_
            refine lv_aload_n hx hb dX6_pairs_17 rfl (lv_at hl 0 rfl) ?_
            refine va_get (D := D) (ci := 6) (v := .ref q6) (C := RX6) (T := TX6) (N := 15) hx hb hts (by decide +kernel) hown hK hP 0 rfl rfl 6 (by decide) (hts (.fieldLink RX6 22 "JoinDeskModel" "many" "[I") (by decide +kernel)) (fun _ h9 => h9) rfl dX6_pairs_18 ?_
            refine lv_iload hx hb dX6_pairs_21 (lv_at hl 5 rfl) ?_
            refine va_iald hx hb hK hP 2 0 rfl rfl (by unfold vp_in; decide) dX6_pairs_23 ?_
            refine W.eq (g2 := F0 m 24 ls [.int (nI n2), .int (nI i1)]) rfl ?_
            refine lv_icmp_ge (tgt := 119) hx hb dX6_pairs_24 (by decide) (fun cge1 => ?_) (fun cge1 => ?_)
            · refine lv_iinc (v := 2) (lv' := [(7, .int 2), (0, .ref mo), (1, .int kk), (2, .int 1), (3, .long bd), (5, .long v1), (8, .int (nI i1))]) hx hb dX6_pairs_119 hl (k := 5) rfl (by first | rfl | decide) (by decide) rfl (fun ls hl => ?_)
              refine lv_goto (tgt := 6) hx hb dX6_pairs_122 (by decide) ?_
              refine lv_iload hx hb dX6_pairs_6 (lv_at hl 0 rfl) ?_
              refine lv_iconst (v := 2) hx hb dX6_pairs_8 (by decide) ?_
              refine lv_icmp_ge (tgt := 125) hx hb dX6_pairs_9 (by decide) (fun c_3 => ?_) (fun c_3 => absurd c_3 (by decide))
              refine lv_lload hx hb dX6_pairs_125 (lv_at hl 5 rfl) ?_
              exact W.lret (v := v1) hx hb hr (fun t ht hW => ⟨v1, rfl, (by rw [hv1, show i1 = n2 by rw [nI_leI (by omega) (by omega)] at cge1; omega]), ht⟩) (fun _ h => nomatch h) dX6_pairs_127
            · refine lv_aload_n hx hb dX6_pairs_27 rfl (lv_at hl 0 rfl) ?_
              refine va_get (D := D) (ci := 6) (v := .ref q3) (C := RX6) (T := TX6) (N := 15) hx hb hts (by decide +kernel) hown hK hP 0 rfl rfl 3 (by decide) (hts (.fieldLink RX6 13 "JoinDeskModel" "keys" "[I") (by decide +kernel)) (fun _ h9 => h9) rfl dX6_pairs_28 ?_
              refine lv_sipush (v := 400) hx hb dX6_pairs_31 (by decide) ?_
              refine lv_iload hx hb dX6_pairs_34 (lv_at hl 5 rfl) ?_
              refine lv_imul hx hb dX6_pairs_36 ?_
              refine lv_topi (fun z_4 e_z_4 => ?_)
              obtain rfl : z_4 = 400 := e_z_4.trans (by decide)
              refine lv_iload hx hb dX6_pairs_37 (lv_at hl 6 rfl) ?_
              refine lv_iadd hx hb dX6_pairs_39 ?_
              refine lv_topi (fun z_5 e_z_5 => ?_)
              obtain rfl : z_5 = nI (400 + i1) := e_z_5.trans (nI_add 400 i1)
              refine va_iald hx hb hK hP 1 0 rfl rfl (vp_in_nI (show 400 + i1 < 800 by rw [nI_leI (by omega) (by omega)] at cge1; omega) (by omega)) dX6_pairs_40 ?_
              refine lv_istore (lv' := [(9, .int (m3 (nI (400 + i1)).toNatClampNeg)), (0, .ref mo), (1, .int kk), (2, .int 1), (3, .long bd), (5, .long v1), (7, .int 1), (8, .int (nI i1))]) hx hb dX6_pairs_41 hl (by decide) rfl (fun ls hl => ?_)
              refine lv_iload hx hb dX6_pairs_43 (lv_at hl 0 rfl) ?_
              refine lv_i2l (v := (m3 (nI (400 + i1)).toNatClampNeg).toInt64) hx hb dX6_pairs_45 (by first | rfl | decide) ?_
              refine lv_lload_n hx hb dX6_pairs_46 rfl (lv_at hl 4 rfl) ?_
              refine W.lcmp hx hb dX6_pairs_47 ?_
              refine lv_topi (fun z_6 e_z_6 => ?_)
              refine lv_if_ge (tgt := 55) hx hb dX6_pairs_48 (by decide) (fun cb1 => ?_) (fun cb1 => ?_)
              · refine lv_iconst (v := 0) hx hb dX6_pairs_55 (by decide) ?_
                refine lv_iload_n hx hb dX6_pairs_56 rfl (lv_at hl 3 rfl) ?_
                refine lv_icmp_ne (tgt := 113) hx hb dX6_pairs_57 (by decide) (fun c_7 => ?_) (fun c_7 => absurd c_7 (by decide))
                refine lv_iinc (v := nI (i1 + 1)) (lv' := [(8, .int (nI (i1 + 1))), (9, .int (m3 (nI (400 + i1)).toNatClampNeg)), (0, .ref mo), (1, .int kk), (2, .int 1), (3, .long bd), (5, .long v1), (7, .int 1)]) hx hb dX6_pairs_113 hl (k := 7) rfl (nI_1 _) (by decide) rfl (fun ls hl => ?_)
                refine lv_goto (tgt := 15) hx hb dX6_pairs_116 (by decide) ?_
                exact ih_2 (i1 + 1) v1 (by rw [nI_leI (by omega) (by omega)] at cge1; omega) (by rw [nI_leI (by omega) (by omega)] at cge1; omega) (jpa_miss (by omega) hv1 (jQ_1n e_z_6 cb1)) ls (lv_sub hl [2, 3, 4, 5, 6, 7, 0] rfl)
              · refine lv_iconst (v := 1) hx hb dX6_pairs_51 (by decide) ?_
                refine lv_goto (tgt := 56) hx hb dX6_pairs_52 (by decide) ?_
                refine lv_iload_n hx hb dX6_pairs_56 rfl (lv_at hl 3 rfl) ?_
                refine lv_icmp_ne (tgt := 113) hx hb dX6_pairs_57 (by decide) (fun c_8 => absurd c_8 (by decide)) (fun c_8 => ?_)
                refine lv_aload_n hx hb dX6_pairs_60 rfl (lv_at hl 1 rfl) ?_
                refine lv_iconst (v := 1) hx hb dX6_pairs_61 (by decide) ?_
                refine lv_iload hx hb dX6_pairs_62 (lv_at hl 6 rfl) ?_
                refine lv_isub hx hb dX6_pairs_64 ?_
                refine lv_topi (fun z_9 e_z_9 => ?_)
                obtain rfl : z_9 = 0 := e_z_9.trans (by decide)
                refine lv_iload hx hb dX6_pairs_65 (lv_at hl 0 rfl) ?_
                refine vp_callSi (va_Run.run (va_runV (As := [.int 0, .int (m3 (nI (400 + i1)).toNatClampNeg)]) (rest := []) ⟨hx, hb, hml, hown, hts⟩ (gM_rowsOf_0 l D cI cL cQ mo g n n2 q1 q3 q4 q5 q6 q11 z0 pr gr kd mk w10 w13 w14 m3 (m3 (nI (400 + i1)).toNatClampNeg) (by first | assumption | decide | omega)) (cwV 2 hts gX6_pairs_X6_rowsOf rfl rfl rfl (by decide +kernel) ⟨Nat.le_of_ble_eq_true rfl, Nat.le_of_ble_eq_true rfl⟩) (jr_V hK hN hP [0, 1, 2] rfl 6 0 rfl rfl rfl) rfl rfl hl.1 rfl (lv_room (Nat.le_of_ble_eq_true rfl)) dX6_pairs_67 ⟨Nat.le_of_ble_eq_true rfl, Nat.le_of_ble_eq_true rfl⟩)) (fun r f_10 => ?_)
                obtain rfl := f_10
                refine lv_istore (lv' := [(10, .int (nI (jCt n (jsh 0 m3) (m3 (nI (400 + i1)).toNatClampNeg)))), (9, .int (m3 (nI (400 + i1)).toNatClampNeg)), (0, .ref mo), (1, .int kk), (2, .int 1), (3, .long bd), (5, .long v1), (7, .int 1), (8, .int (nI i1))]) hx hb dX6_pairs_70 hl (by decide) rfl (fun ls hl => ?_)
                refine lv_lload hx hb dX6_pairs_72 (lv_at hl 6 rfl) ?_
                refine lv_iload hx hb dX6_pairs_74 (lv_at hl 0 rfl) ?_
                refine lv_if_ne (tgt := 98) hx hb dX6_pairs_76 (by decide) (fun cz1 => ?_) (fun cz1 => ?_)
                · refine lv_iload hx hb dX6_pairs_98 (lv_at hl 7 rfl) ?_
                  refine lv_if_ne (tgt := 109) hx hb dX6_pairs_100 (by decide) (fun c_11 => ?_) (fun c_11 => absurd c_11 (by decide))
                  refine lv_lconst (v := 0) hx hb dX6_pairs_109 (by decide) ?_
                  refine lv_ladd hx hb dX6_pairs_110 ?_
                  refine lv_lstore (lv' := [(5, .long (v1 + 0)), (10, .int (nI (jCt n (jsh 0 m3) (m3 (nI (400 + i1)).toNatClampNeg)))), (9, .int (m3 (nI (400 + i1)).toNatClampNeg)), (0, .ref mo), (1, .int kk), (2, .int 1), (3, .long bd), (7, .int 1), (8, .int (nI i1))]) hx hb dX6_pairs_111 hl (by decide) rfl (fun ls hl => ?_)
                  refine lv_iinc (v := nI (i1 + 1)) (lv' := [(8, .int (nI (i1 + 1))), (5, .long (v1 + 0)), (10, .int (nI (jCt n (jsh 0 m3) (m3 (nI (400 + i1)).toNatClampNeg)))), (9, .int (m3 (nI (400 + i1)).toNatClampNeg)), (0, .ref mo), (1, .int kk), (2, .int 1), (3, .long bd), (7, .int 1)]) hx hb dX6_pairs_113 hl (k := 8) rfl (nI_1 _) (by decide) rfl (fun ls hl => ?_)
                  refine lv_goto (tgt := 15) hx hb dX6_pairs_116 (by decide) ?_
                  exact ih_2 (i1 + 1) (v1 + 0) (by rw [nI_leI (by omega) (by omega)] at cge1; omega) (by rw [nI_leI (by omega) (by omega)] at cge1; omega) (jpa_hit (by omega) hv1 (jQ_1 e_z_6 cb1) (jG2_n cz1)) ls (lv_sub hl [4, 5, 6, 7, 1, 8, 0] rfl)
                · refine lv_iload_n hx hb dX6_pairs_79 rfl (lv_at hl 3 rfl) ?_
                  refine lv_iload hx hb dX6_pairs_80 (lv_at hl 7 rfl) ?_
                  refine lv_iconst (v := 1) hx hb dX6_pairs_82 (by decide) ?_
                  refine lv_iadd hx hb dX6_pairs_83 ?_
                  refine lv_topi (fun z_12 e_z_12 => ?_)
                  obtain rfl : z_12 = 2 := e_z_12.trans (by decide)
                  refine vp_callSi (va_Run.run (va_runS (As := [.int kk, .int 2]) (rest := [.long v1]) ⟨hx, hb, hml, hown, hts⟩ (gM_tells_2 l D cI cL cQ kk (by first | assumption | decide | omega)) (va_cwS 2 hts gX6_pairs_X6_tells rfl rfl rfl (by decide +kernel) ⟨Nat.le_of_ble_eq_true rfl, Nat.le_of_ble_eq_true rfl⟩) (jr_S hK hN hP [] rfl) rfl rfl hl.1 rfl (lv_room (Nat.le_of_ble_eq_true rfl)) dX6_pairs_84 ⟨Nat.le_of_ble_eq_true rfl, Nat.le_of_ble_eq_true rfl⟩)) (fun r f_13 => ?_)
                  rcases f_13 with ⟨rfl, f_14⟩ | ⟨rfl, f_15⟩
                  · refine lv_if_eq (tgt := 94) hx hb dX6_pairs_87 (by decide) (fun c_16 => absurd c_16 (by decide)) (fun c_16 => ?_)
                    refine lv_lconst (v := 1) hx hb dX6_pairs_90 (by decide) ?_
                    refine lv_goto (tgt := 110) hx hb dX6_pairs_91 (by decide) ?_
                    refine lv_ladd hx hb dX6_pairs_110 ?_
                    refine lv_lstore (lv' := [(5, .long (v1 + 1)), (10, .int (nI (jCt n (jsh 0 m3) (m3 (nI (400 + i1)).toNatClampNeg)))), (9, .int (m3 (nI (400 + i1)).toNatClampNeg)), (0, .ref mo), (1, .int kk), (2, .int 1), (3, .long bd), (7, .int 1), (8, .int (nI i1))]) hx hb dX6_pairs_111 hl (by decide) rfl (fun ls hl => ?_)
                    refine lv_iinc (v := nI (i1 + 1)) (lv' := [(8, .int (nI (i1 + 1))), (5, .long (v1 + 1)), (10, .int (nI (jCt n (jsh 0 m3) (m3 (nI (400 + i1)).toNatClampNeg)))), (9, .int (m3 (nI (400 + i1)).toNatClampNeg)), (0, .ref mo), (1, .int kk), (2, .int 1), (3, .long bd), (7, .int 1)]) hx hb dX6_pairs_113 hl (k := 8) rfl (nI_1 _) (by decide) rfl (fun ls hl => ?_)
                    refine lv_goto (tgt := 15) hx hb dX6_pairs_116 (by decide) ?_
                    exact ih_2 (i1 + 1) (v1 + 1) (by rw [nI_leI (by omega) (by omega)] at cge1; omega) (by rw [nI_leI (by omega) (by omega)] at cge1; omega) (jpa_hit (by omega) hv1 (jQ_1 e_z_6 cb1) (jG2_1 (Nat.le_trans jCt_le (by omega)) cz1 f_14)) ls (lv_sub hl [4, 5, 6, 7, 1, 8, 0] rfl)
                  · refine lv_if_eq (tgt := 94) hx hb dX6_pairs_87 (by decide) (fun c_17 => ?_) (fun c_17 => absurd c_17 (by decide))
                    refine lv_lconst (v := 0) hx hb dX6_pairs_94 (by decide) ?_
                    refine lv_goto (tgt := 110) hx hb dX6_pairs_95 (by decide) ?_
                    refine lv_ladd hx hb dX6_pairs_110 ?_
                    refine lv_lstore (lv' := [(5, .long (v1 + 0)), (10, .int (nI (jCt n (jsh 0 m3) (m3 (nI (400 + i1)).toNatClampNeg)))), (9, .int (m3 (nI (400 + i1)).toNatClampNeg)), (0, .ref mo), (1, .int kk), (2, .int 1), (3, .long bd), (7, .int 1), (8, .int (nI i1))]) hx hb dX6_pairs_111 hl (by decide) rfl (fun ls hl => ?_)
                    refine lv_iinc (v := nI (i1 + 1)) (lv' := [(8, .int (nI (i1 + 1))), (5, .long (v1 + 0)), (10, .int (nI (jCt n (jsh 0 m3) (m3 (nI (400 + i1)).toNatClampNeg)))), (9, .int (m3 (nI (400 + i1)).toNatClampNeg)), (0, .ref mo), (1, .int kk), (2, .int 1), (3, .long bd), (7, .int 1)]) hx hb dX6_pairs_113 hl (k := 8) rfl (nI_1 _) (by decide) rfl (fun ls hl => ?_)
                    refine lv_goto (tgt := 15) hx hb dX6_pairs_116 (by decide) ?_
                    exact ih_2 (i1 + 1) (v1 + 0) (by rw [nI_leI (by omega) (by omega)] at cge1; omega) (by rw [nI_leI (by omega) (by omega)] at cge1; omega) (jpa_hit (by omega) hv1 (jQ_1 e_z_6 cb1) (jG2_0 (Nat.le_trans jCt_le (by omega)) cz1 f_15)) ls (lv_sub hl [4, 5, 6, 7, 1, 8, 0] rfl)
        exact hloop_2 (n2 - 0 + 1) 0 v0 (Nat.lt_succ_self _) (Nat.zero_le _) (by rw [hv0, show i0 = n by rw [nI_leI (by omega) (by omega)] at cge0; omega]; rfl) ls (lv_sub hl [2, 3, 4, 5, 6, 1, 0] rfl)
      · refine lv_aload_n hx hb dX6_pairs_27 rfl (lv_at hl 0 rfl) ?_
        refine va_get (D := D) (ci := 6) (v := .ref q3) (C := RX6) (T := TX6) (N := 15) hx hb hts (by decide +kernel) hown hK hP 0 rfl rfl 3 (by decide) (hts (.fieldLink RX6 13 "JoinDeskModel" "keys" "[I") (by decide +kernel)) (fun _ h9 => h9) rfl dX6_pairs_28 ?_
        refine lv_sipush (v := 400) hx hb dX6_pairs_31 (by decide) ?_
        refine lv_iload hx hb dX6_pairs_34 (lv_at hl 5 rfl) ?_
        refine lv_imul hx hb dX6_pairs_36 ?_
        refine lv_topi (fun z_18 e_z_18 => ?_)
        obtain rfl : z_18 = 0 := e_z_18.trans (by decide)
        refine lv_iload hx hb dX6_pairs_37 (lv_at hl 6 rfl) ?_
        refine lv_iadd hx hb dX6_pairs_39 ?_
        refine lv_topi (fun z_19 e_z_19 => ?_)
        obtain rfl : z_19 = nI (0 + i0) := e_z_19.trans (nI_add 0 i0)
        refine va_iald hx hb hK hP 1 0 rfl rfl (vp_in_nI (show 0 + i0 < 800 by rw [nI_leI (by omega) (by omega)] at cge0; omega) (by omega)) dX6_pairs_40 ?_
        refine lv_istore (lv' := [(9, .int (m3 (nI (0 + i0)).toNatClampNeg)), (0, .ref mo), (1, .int kk), (2, .int 1), (3, .long bd), (5, .long v0), (7, .int 0), (8, .int (nI i0))]) hx hb dX6_pairs_41 hl (by decide) rfl (fun ls hl => ?_)
        refine lv_iload hx hb dX6_pairs_43 (lv_at hl 0 rfl) ?_
        refine lv_i2l (v := (m3 (nI (0 + i0)).toNatClampNeg).toInt64) hx hb dX6_pairs_45 (by first | rfl | decide) ?_
        refine lv_lload_n hx hb dX6_pairs_46 rfl (lv_at hl 4 rfl) ?_
        refine W.lcmp hx hb dX6_pairs_47 ?_
        refine lv_topi (fun z_20 e_z_20 => ?_)
        refine lv_if_ge (tgt := 55) hx hb dX6_pairs_48 (by decide) (fun cb0 => ?_) (fun cb0 => ?_)
        · refine lv_iconst (v := 0) hx hb dX6_pairs_55 (by decide) ?_
          refine lv_iload_n hx hb dX6_pairs_56 rfl (lv_at hl 3 rfl) ?_
          refine lv_icmp_ne (tgt := 113) hx hb dX6_pairs_57 (by decide) (fun c_21 => ?_) (fun c_21 => absurd c_21 (by decide))
          refine lv_iinc (v := nI (i0 + 1)) (lv' := [(8, .int (nI (i0 + 1))), (9, .int (m3 (nI (0 + i0)).toNatClampNeg)), (0, .ref mo), (1, .int kk), (2, .int 1), (3, .long bd), (5, .long v0), (7, .int 0)]) hx hb dX6_pairs_113 hl (k := 7) rfl (nI_1 _) (by decide) rfl (fun ls hl => ?_)
          refine lv_goto (tgt := 15) hx hb dX6_pairs_116 (by decide) ?_
          exact ih_1 (i0 + 1) v0 (by rw [nI_leI (by omega) (by omega)] at cge0; omega) (by rw [nI_leI (by omega) (by omega)] at cge0; omega) (jpa_miss (by omega) hv0 (jQ_1n e_z_20 cb0)) ls (lv_sub hl [2, 3, 4, 5, 6, 7, 0] rfl)
        · refine lv_iconst (v := 1) hx hb dX6_pairs_51 (by decide) ?_
          refine lv_goto (tgt := 56) hx hb dX6_pairs_52 (by decide) ?_
          refine lv_iload_n hx hb dX6_pairs_56 rfl (lv_at hl 3 rfl) ?_
          refine lv_icmp_ne (tgt := 113) hx hb dX6_pairs_57 (by decide) (fun c_22 => absurd c_22 (by decide)) (fun c_22 => ?_)
          refine lv_aload_n hx hb dX6_pairs_60 rfl (lv_at hl 1 rfl) ?_
          refine lv_iconst (v := 1) hx hb dX6_pairs_61 (by decide) ?_
          refine lv_iload hx hb dX6_pairs_62 (lv_at hl 6 rfl) ?_
          refine lv_isub hx hb dX6_pairs_64 ?_
          refine lv_topi (fun z_23 e_z_23 => ?_)
          obtain rfl : z_23 = 1 := e_z_23.trans (by decide)
          refine lv_iload hx hb dX6_pairs_65 (lv_at hl 0 rfl) ?_
          refine vp_callSi (va_Run.run (va_runV (As := [.int 1, .int (m3 (nI (0 + i0)).toNatClampNeg)]) (rest := []) ⟨hx, hb, hml, hown, hts⟩ (gM_rowsOf_1 l D cI cL cQ mo g n n2 q1 q3 q4 q5 q6 q11 z0 pr gr kd mk w10 w13 w14 m3 (m3 (nI (0 + i0)).toNatClampNeg) (by first | assumption | decide | omega)) (cwV 2 hts gX6_pairs_X6_rowsOf rfl rfl rfl (by decide +kernel) ⟨Nat.le_of_ble_eq_true rfl, Nat.le_of_ble_eq_true rfl⟩) (jr_V hK hN hP [0, 1, 2] rfl 6 0 rfl rfl rfl) rfl rfl hl.1 rfl (lv_room (Nat.le_of_ble_eq_true rfl)) dX6_pairs_67 ⟨Nat.le_of_ble_eq_true rfl, Nat.le_of_ble_eq_true rfl⟩)) (fun r f_24 => ?_)
          obtain rfl := f_24
          refine lv_istore (lv' := [(10, .int (nI (jCt n2 (jsh 400 m3) (m3 (nI (0 + i0)).toNatClampNeg)))), (9, .int (m3 (nI (0 + i0)).toNatClampNeg)), (0, .ref mo), (1, .int kk), (2, .int 1), (3, .long bd), (5, .long v0), (7, .int 0), (8, .int (nI i0))]) hx hb dX6_pairs_70 hl (by decide) rfl (fun ls hl => ?_)
          refine lv_lload hx hb dX6_pairs_72 (lv_at hl 6 rfl) ?_
          refine lv_iload hx hb dX6_pairs_74 (lv_at hl 0 rfl) ?_
          refine lv_if_ne (tgt := 98) hx hb dX6_pairs_76 (by decide) (fun cz0 => ?_) (fun cz0 => ?_)
          · refine lv_iload hx hb dX6_pairs_98 (lv_at hl 7 rfl) ?_
            refine lv_if_ne (tgt := 109) hx hb dX6_pairs_100 (by decide) (fun c_25 => absurd c_25 (by decide)) (fun c_25 => ?_)
            refine lv_iload hx hb dX6_pairs_103 (lv_at hl 0 rfl) ?_
            refine lv_i2l (v := (nI (jCt n2 (jsh 400 m3) (m3 (nI (0 + i0)).toNatClampNeg))).toInt64) hx hb dX6_pairs_105 (by first | rfl | decide) ?_
            refine lv_goto (tgt := 110) hx hb dX6_pairs_106 (by decide) ?_
            refine lv_ladd hx hb dX6_pairs_110 ?_
            refine lv_lstore (lv' := [(5, .long (v0 + ((nI (jCt n2 (jsh 400 m3) (m3 (nI (0 + i0)).toNatClampNeg))).toInt64))), (10, .int (nI (jCt n2 (jsh 400 m3) (m3 (nI (0 + i0)).toNatClampNeg)))), (9, .int (m3 (nI (0 + i0)).toNatClampNeg)), (0, .ref mo), (1, .int kk), (2, .int 1), (3, .long bd), (7, .int 0), (8, .int (nI i0))]) hx hb dX6_pairs_111 hl (by decide) rfl (fun ls hl => ?_)
            refine lv_iinc (v := nI (i0 + 1)) (lv' := [(8, .int (nI (i0 + 1))), (5, .long (v0 + ((nI (jCt n2 (jsh 400 m3) (m3 (nI (0 + i0)).toNatClampNeg))).toInt64))), (10, .int (nI (jCt n2 (jsh 400 m3) (m3 (nI (0 + i0)).toNatClampNeg)))), (9, .int (m3 (nI (0 + i0)).toNatClampNeg)), (0, .ref mo), (1, .int kk), (2, .int 1), (3, .long bd), (7, .int 0)]) hx hb dX6_pairs_113 hl (k := 8) rfl (nI_1 _) (by decide) rfl (fun ls hl => ?_)
            refine lv_goto (tgt := 15) hx hb dX6_pairs_116 (by decide) ?_
            exact ih_1 (i0 + 1) (v0 + ((nI (jCt n2 (jsh 400 m3) (m3 (nI (0 + i0)).toNatClampNeg))).toInt64)) (by rw [nI_leI (by omega) (by omega)] at cge0; omega) (by rw [nI_leI (by omega) (by omega)] at cge0; omega) (jpa_hit (by omega) hv0 (jQ_1 e_z_20 cb0) (jG1_n (Nat.le_trans jCt_le (by omega)) cz0)) ls (lv_sub hl [4, 5, 6, 7, 1, 8, 0] rfl)
          · refine lv_iload_n hx hb dX6_pairs_79 rfl (lv_at hl 3 rfl) ?_
            refine lv_iload hx hb dX6_pairs_80 (lv_at hl 7 rfl) ?_
            refine lv_iconst (v := 1) hx hb dX6_pairs_82 (by decide) ?_
            refine lv_iadd hx hb dX6_pairs_83 ?_
            refine lv_topi (fun z_26 e_z_26 => ?_)
            obtain rfl : z_26 = 1 := e_z_26.trans (by decide)
            refine vp_callSi (va_Run.run (va_runS (As := [.int kk, .int 1]) (rest := [.long v0]) ⟨hx, hb, hml, hown, hts⟩ (gM_tells_1 l D cI cL cQ kk (by first | assumption | decide | omega)) (va_cwS 2 hts gX6_pairs_X6_tells rfl rfl rfl (by decide +kernel) ⟨Nat.le_of_ble_eq_true rfl, Nat.le_of_ble_eq_true rfl⟩) (jr_S hK hN hP [] rfl) rfl rfl hl.1 rfl (lv_room (Nat.le_of_ble_eq_true rfl)) dX6_pairs_84 ⟨Nat.le_of_ble_eq_true rfl, Nat.le_of_ble_eq_true rfl⟩)) (fun r f_27 => ?_)
            rcases f_27 with ⟨rfl, f_28⟩ | ⟨rfl, f_29⟩
            · refine lv_if_eq (tgt := 94) hx hb dX6_pairs_87 (by decide) (fun c_30 => absurd c_30 (by decide)) (fun c_30 => ?_)
              refine lv_lconst (v := 1) hx hb dX6_pairs_90 (by decide) ?_
              refine lv_goto (tgt := 110) hx hb dX6_pairs_91 (by decide) ?_
              refine lv_ladd hx hb dX6_pairs_110 ?_
              refine lv_lstore (lv' := [(5, .long (v0 + 1)), (10, .int (nI (jCt n2 (jsh 400 m3) (m3 (nI (0 + i0)).toNatClampNeg)))), (9, .int (m3 (nI (0 + i0)).toNatClampNeg)), (0, .ref mo), (1, .int kk), (2, .int 1), (3, .long bd), (7, .int 0), (8, .int (nI i0))]) hx hb dX6_pairs_111 hl (by decide) rfl (fun ls hl => ?_)
              refine lv_iinc (v := nI (i0 + 1)) (lv' := [(8, .int (nI (i0 + 1))), (5, .long (v0 + 1)), (10, .int (nI (jCt n2 (jsh 400 m3) (m3 (nI (0 + i0)).toNatClampNeg)))), (9, .int (m3 (nI (0 + i0)).toNatClampNeg)), (0, .ref mo), (1, .int kk), (2, .int 1), (3, .long bd), (7, .int 0)]) hx hb dX6_pairs_113 hl (k := 8) rfl (nI_1 _) (by decide) rfl (fun ls hl => ?_)
              refine lv_goto (tgt := 15) hx hb dX6_pairs_116 (by decide) ?_
              exact ih_1 (i0 + 1) (v0 + 1) (by rw [nI_leI (by omega) (by omega)] at cge0; omega) (by rw [nI_leI (by omega) (by omega)] at cge0; omega) (jpa_hit (by omega) hv0 (jQ_1 e_z_20 cb0) (jG1_1 (Nat.le_trans jCt_le (by omega)) cz0 f_28)) ls (lv_sub hl [4, 5, 6, 7, 1, 8, 0] rfl)
            · refine lv_if_eq (tgt := 94) hx hb dX6_pairs_87 (by decide) (fun c_31 => ?_) (fun c_31 => absurd c_31 (by decide))
              refine lv_lconst (v := 0) hx hb dX6_pairs_94 (by decide) ?_
              refine lv_goto (tgt := 110) hx hb dX6_pairs_95 (by decide) ?_
              refine lv_ladd hx hb dX6_pairs_110 ?_
              refine lv_lstore (lv' := [(5, .long (v0 + 0)), (10, .int (nI (jCt n2 (jsh 400 m3) (m3 (nI (0 + i0)).toNatClampNeg)))), (9, .int (m3 (nI (0 + i0)).toNatClampNeg)), (0, .ref mo), (1, .int kk), (2, .int 1), (3, .long bd), (7, .int 0), (8, .int (nI i0))]) hx hb dX6_pairs_111 hl (by decide) rfl (fun ls hl => ?_)
              refine lv_iinc (v := nI (i0 + 1)) (lv' := [(8, .int (nI (i0 + 1))), (5, .long (v0 + 0)), (10, .int (nI (jCt n2 (jsh 400 m3) (m3 (nI (0 + i0)).toNatClampNeg)))), (9, .int (m3 (nI (0 + i0)).toNatClampNeg)), (0, .ref mo), (1, .int kk), (2, .int 1), (3, .long bd), (7, .int 0)]) hx hb dX6_pairs_113 hl (k := 8) rfl (nI_1 _) (by decide) rfl (fun ls hl => ?_)
              refine lv_goto (tgt := 15) hx hb dX6_pairs_116 (by decide) ?_
              exact ih_1 (i0 + 1) (v0 + 0) (by rw [nI_leI (by omega) (by omega)] at cge0; omega) (by rw [nI_leI (by omega) (by omega)] at cge0; omega) (jpa_hit (by omega) hv0 (jQ_1 e_z_20 cb0) (jG1_0 (Nat.le_trans jCt_le (by omega)) cz0 f_29)) ls (lv_sub hl [4, 5, 6, 7, 1, 8, 0] rfl)
  exact hloop_1 (n - 0 + 1) 0 0 (Nat.lt_succ_self _) (Nat.zero_le _) (rfl) ls (lv_sub hl [3, 4, 5, 6, 2, 1, 0] rfl)
set_option maxHeartbeats 1000000 in
set_option maxRecDepth 100000 in
theorem gM_pairs_0 (l : Launch) (D : va_G) (cI cL cQ : ClassId) (mo : Nat) (g : Nat) (n : Nat) (n2 : Nat) (q1 : Nat) (q3 : Nat) (q4 : Nat) (q5 : Nat) (q6 : Nat) (q11 : Nat) (z0 : Int32) (pr : Int32) (gr : Int32) (kd : Int32) (mk : Int32) (w10 : Int64) (w13 : Int64) (w14 : Int64) (m3 : Nat → Int32) (kk : Int32) (bd : Int64) (hn : n ≤ 400) (hn2 : n2 ≤ 400) (hk4 : jk4 kk) : Met l yX6_pairs wsX6_pairs ({ frames := 1, cells := 0, slots := 0, locals := 24 }) (jr_P D vwCl (jT cI cL cQ) cL cQ [.ref mo, .int kk, .int 0, .long bd] [(mo, .inr (6, [.int z0, .ref q1, .int (nI g), .ref q3, .ref q4, .ref q5, .ref q6, .int pr, .int gr, .int kd, .long w10, .ref q11, .int mk, .long w13, .long w14])), (q3, .inl (cI, 800, .inl m3)), (q6, .inl (cI, 2, .inl (jl [nI n, nI n2])))]) (vp_Sl (fun r : Int64 => r = lN ((0 + jPa (jG1 kk) n2 (jsh 400 m3) (jQ false bd) (jsh 0 m3) n) + jPa (jG2 kk) n (jsh 0 m3) (jQ false bd) (jsh 400 m3) n2))) 0 0 (fun _ => False) := by
  refine Met.ofW (cc := cX6_pairs) (maxL := 11) (ret := (some .long)) (by decide) rfl ?_
  intro p e s m args below meth c s₁ B hml hv
  obtain ⟨rfl, hP, hK, hN⟩ := hv
  have hx := B.exec
  have hb := B.bytes
  have hr := B.returns
  have hts := atoms_spec (ws := wsX6_pairs) B.pre
  have hown : s.vm.findClass RX6 = some m.cls := findClass_of_methodNamed B.named
  have hlocks := B.notSynchronized
  have hl := lv_entry ([.ref mo, .int kk, .int 0, .long bd]) (n := 11) (Nat.le_of_ble_eq_true rfl)
  rw [lg_entry_eq]
  generalize (lg_sl ([.ref mo, .int kk, .int 0, .long bd]) ++ List.replicate (11 - (lg_sl ([.ref mo, .int kk, .int 0, .long bd])).length) Slot.unset).toArray = ls at hl ⊢
  have hl : lv_has ls 11 [(0, .ref mo), (1, .int kk), (2, .int 0), (3, .long bd)] := hl
  refine lv_lconst (v := 0) hx hb dX6_pairs_0 (by decide) ?_
  refine lv_lstore (lv' := [(5, .long 0), (0, .ref mo), (1, .int kk), (2, .int 0), (3, .long bd)]) hx hb dX6_pairs_1 hl (by decide) rfl (fun ls hl => ?_)
  refine lv_iconst (v := 0) hx hb dX6_pairs_3 (by decide) ?_
  refine lv_istore (lv' := [(7, .int 0), (5, .long 0), (0, .ref mo), (1, .int kk), (2, .int 0), (3, .long bd)]) hx hb dX6_pairs_4 hl (by decide) rfl (fun ls hl => ?_)
  refine lv_iload hx hb dX6_pairs_6 (lv_at hl 0 rfl) ?_
  refine lv_iconst (v := 2) hx hb dX6_pairs_8 (by decide) ?_
  refine lv_icmp_ge (tgt := 125) hx hb dX6_pairs_9 (by decide) (fun c_1 => absurd c_1 (by decide)) (fun c_1 => ?_)
  refine lv_iconst (v := 0) hx hb dX6_pairs_12 (by decide) ?_
  refine lv_istore (lv' := [(8, .int 0), (7, .int 0), (5, .long 0), (0, .ref mo), (1, .int kk), (2, .int 0), (3, .long bd)]) hx hb dX6_pairs_13 hl (by decide) rfl (fun ls hl => ?_)
  have hloop_1 : ∀ (k_1 : Nat) (i0 : Nat) (v0 : Int64), n - i0 < k_1 → (i0 ≤ n) → (v0 = lN (0 + jPa (jG1 kk) n2 (jsh 400 m3) (jQ false bd) (jsh 0 m3) i0)) → ∀ ls : Array Slot, lv_has ls 11 [(0, .ref mo), (1, .int kk), (2, .int 0), (3, .long bd), (5, .long v0), (7, .int 0), (8, .int (nI i0))] → W p l e (headSpec wsX6_pairs ({ frames := 1, cells := 0, slots := 0, locals := 24 })).room s m #[.ref mo, .int kk, .int 0, .long bd] below meth c s.heap [] 0 0 (MQ below (vp_Sl (fun r : Int64 => r = lN ((0 + jPa (jG1 kk) n2 (jsh 400 m3) (jQ false bd) (jsh 0 m3) n) + jPa (jG2 kk) n (jsh 0 m3) (jQ false bd) (jsh 400 m3) n2))) #[.ref mo, .int kk, .int 0, .long bd] s 0 0 (fun _ => False)) (F0 m 15 ls []) := by
    intro k_1
    induction k_1 with
    | zero => exact fun _ _ hm => absurd hm (Nat.not_lt_zero _)
    | succ k_1 ih_1 =>
      intro i0 v0 hm1 hi0 hv0 ls hl
      refine lv_iload hx hb dX6_pairs_15 (lv_at hl 6 rfl) ?_
      refine lv_aload_n hx hb dX6_pairs_17 rfl (lv_at hl 0 rfl) ?_
      refine va_get (D := D) (ci := 6) (v := .ref q6) (C := RX6) (T := TX6) (N := 15) hx hb hts (by decide +kernel) hown hK hP 0 rfl rfl 6 (by decide) (hts (.fieldLink RX6 22 "JoinDeskModel" "many" "[I") (by decide +kernel)) (fun _ h9 => h9) rfl dX6_pairs_18 ?_
      refine lv_iload hx hb dX6_pairs_21 (lv_at hl 5 rfl) ?_
      refine va_iald hx hb hK hP 2 0 rfl rfl (by unfold vp_in; decide) dX6_pairs_23 ?_
      refine W.eq (g2 := F0 m 24 ls [.int (nI n), .int (nI i0)]) rfl ?_
      refine lv_icmp_ge (tgt := 119) hx hb dX6_pairs_24 (by decide) (fun cge0 => ?_) (fun cge0 => ?_)
      · refine lv_iinc (v := 1) (lv' := [(7, .int 1), (0, .ref mo), (1, .int kk), (2, .int 0), (3, .long bd), (5, .long v0), (8, .int (nI i0))]) hx hb dX6_pairs_119 hl (k := 5) rfl (by first | rfl | decide) (by decide) rfl (fun ls hl => ?_)
        refine lv_goto (tgt := 6) hx hb dX6_pairs_122 (by decide) ?_
        refine lv_iload hx hb dX6_pairs_6 (lv_at hl 0 rfl) ?_
        refine lv_iconst (v := 2) hx hb dX6_pairs_8 (by decide) ?_
        refine lv_icmp_ge (tgt := 125) hx hb dX6_pairs_9 (by decide) (fun c_2 => absurd c_2 (by decide)) (fun c_2 => ?_)
        refine lv_iconst (v := 0) hx hb dX6_pairs_12 (by decide) ?_
        refine lv_istore (lv' := [(8, .int 0), (7, .int 1), (0, .ref mo), (1, .int kk), (2, .int 0), (3, .long bd), (5, .long v0)]) hx hb dX6_pairs_13 hl (by decide) rfl (fun ls hl => ?_)
        have hloop_2 : ∀ (k_2 : Nat) (i1 : Nat) (v1 : Int64), n2 - i1 < k_2 → (i1 ≤ n2) → (v1 = lN ((0 + jPa (jG1 kk) n2 (jsh 400 m3) (jQ false bd) (jsh 0 m3) n) + jPa (jG2 kk) n (jsh 0 m3) (jQ false bd) (jsh 400 m3) i1)) → ∀ ls : Array Slot, lv_has ls 11 [(0, .ref mo), (1, .int kk), (2, .int 0), (3, .long bd), (5, .long v1), (7, .int 1), (8, .int (nI i1))] → W p l e (headSpec wsX6_pairs ({ frames := 1, cells := 0, slots := 0, locals := 24 })).room s m #[.ref mo, .int kk, .int 0, .long bd] below meth c s.heap [] 0 0 (MQ below (vp_Sl (fun r : Int64 => r = lN ((0 + jPa (jG1 kk) n2 (jsh 400 m3) (jQ false bd) (jsh 0 m3) n) + jPa (jG2 kk) n (jsh 0 m3) (jQ false bd) (jsh 400 m3) n2))) #[.ref mo, .int kk, .int 0, .long bd] s 0 0 (fun _ => False)) (F0 m 15 ls []) := by
          intro k_2
          induction k_2 with
          | zero => exact fun _ _ hm => absurd hm (Nat.not_lt_zero _)
          | succ k_2 ih_2 =>
            intro i1 v1 hm2 hi1 hv1 ls hl
            refine lv_iload hx hb dX6_pairs_15 (lv_at hl 6 rfl) ?_
            refine lv_aload_n hx hb dX6_pairs_17 rfl (lv_at hl 0 rfl) ?_
            refine va_get (D := D) (ci := 6) (v := .ref q6) (C := RX6) (T := TX6) (N := 15) hx hb hts (by decide +kernel) hown hK hP 0 rfl rfl 6 (by decide) (hts (.fieldLink RX6 22 "JoinDeskModel" "many" "[I") (by decide +kernel)) (fun _ h9 => h9) rfl dX6_pairs_18 ?_
            refine lv_iload hx hb dX6_pairs_21 (lv_at hl 5 rfl) ?_
            refine va_iald hx hb hK hP 2 0 rfl rfl (by unfold vp_in; decide) dX6_pairs_23 ?_
            refine W.eq (g2 := F0 m 24 ls [.int (nI n2), .int (nI i1)]) rfl ?_
            refine lv_icmp_ge (tgt := 119) hx hb dX6_pairs_24 (by decide) (fun cge1 => ?_) (fun cge1 => ?_)
            · refine lv_iinc (v := 2) (lv' := [(7, .int 2), (0, .ref mo), (1, .int kk), (2, .int 0), (3, .long bd), (5, .long v1), (8, .int (nI i1))]) hx hb dX6_pairs_119 hl (k := 5) rfl (by first | rfl | decide) (by decide) rfl (fun ls hl => ?_)
              refine lv_goto (tgt := 6) hx hb dX6_pairs_122 (by decide) ?_
              refine lv_iload hx hb dX6_pairs_6 (lv_at hl 0 rfl) ?_
              refine lv_iconst (v := 2) hx hb dX6_pairs_8 (by decide) ?_
              refine lv_icmp_ge (tgt := 125) hx hb dX6_pairs_9 (by decide) (fun c_3 => ?_) (fun c_3 => absurd c_3 (by decide))
              refine lv_lload hx hb dX6_pairs_125 (lv_at hl 5 rfl) ?_
              exact W.lret (v := v1) hx hb hr (fun t ht hW => ⟨v1, rfl, (by rw [hv1, show i1 = n2 by rw [nI_leI (by omega) (by omega)] at cge1; omega]), ht⟩) (fun _ h => nomatch h) dX6_pairs_127
            · refine lv_aload_n hx hb dX6_pairs_27 rfl (lv_at hl 0 rfl) ?_
              refine va_get (D := D) (ci := 6) (v := .ref q3) (C := RX6) (T := TX6) (N := 15) hx hb hts (by decide +kernel) hown hK hP 0 rfl rfl 3 (by decide) (hts (.fieldLink RX6 13 "JoinDeskModel" "keys" "[I") (by decide +kernel)) (fun _ h9 => h9) rfl dX6_pairs_28 ?_
              refine lv_sipush (v := 400) hx hb dX6_pairs_31 (by decide) ?_
              refine lv_iload hx hb dX6_pairs_34 (lv_at hl 5 rfl) ?_
              refine lv_imul hx hb dX6_pairs_36 ?_
              refine lv_topi (fun z_4 e_z_4 => ?_)
              obtain rfl : z_4 = 400 := e_z_4.trans (by decide)
              refine lv_iload hx hb dX6_pairs_37 (lv_at hl 6 rfl) ?_
              refine lv_iadd hx hb dX6_pairs_39 ?_
              refine lv_topi (fun z_5 e_z_5 => ?_)
              obtain rfl : z_5 = nI (400 + i1) := e_z_5.trans (nI_add 400 i1)
              refine va_iald hx hb hK hP 1 0 rfl rfl (vp_in_nI (show 400 + i1 < 800 by rw [nI_leI (by omega) (by omega)] at cge1; omega) (by omega)) dX6_pairs_40 ?_
              refine lv_istore (lv' := [(9, .int (m3 (nI (400 + i1)).toNatClampNeg)), (0, .ref mo), (1, .int kk), (2, .int 0), (3, .long bd), (5, .long v1), (7, .int 1), (8, .int (nI i1))]) hx hb dX6_pairs_41 hl (by decide) rfl (fun ls hl => ?_)
              refine lv_iload hx hb dX6_pairs_43 (lv_at hl 0 rfl) ?_
              refine lv_i2l (v := (m3 (nI (400 + i1)).toNatClampNeg).toInt64) hx hb dX6_pairs_45 (by first | rfl | decide) ?_
              refine lv_lload_n hx hb dX6_pairs_46 rfl (lv_at hl 4 rfl) ?_
              refine W.lcmp hx hb dX6_pairs_47 ?_
              refine lv_topi (fun z_6 e_z_6 => ?_)
              refine lv_if_ge (tgt := 55) hx hb dX6_pairs_48 (by decide) (fun cb1 => ?_) (fun cb1 => ?_)
              · refine lv_iconst (v := 0) hx hb dX6_pairs_55 (by decide) ?_
                refine lv_iload_n hx hb dX6_pairs_56 rfl (lv_at hl 3 rfl) ?_
                refine lv_icmp_ne (tgt := 113) hx hb dX6_pairs_57 (by decide) (fun c_7 => absurd c_7 (by decide)) (fun c_7 => ?_)
                refine lv_aload_n hx hb dX6_pairs_60 rfl (lv_at hl 1 rfl) ?_
                refine lv_iconst (v := 1) hx hb dX6_pairs_61 (by decide) ?_
                refine lv_iload hx hb dX6_pairs_62 (lv_at hl 6 rfl) ?_
                refine lv_isub hx hb dX6_pairs_64 ?_
                refine lv_topi (fun z_8 e_z_8 => ?_)
                obtain rfl : z_8 = 0 := e_z_8.trans (by decide)
                refine lv_iload hx hb dX6_pairs_65 (lv_at hl 0 rfl) ?_
                refine vp_callSi (va_Run.run (va_runV (As := [.int 0, .int (m3 (nI (400 + i1)).toNatClampNeg)]) (rest := []) ⟨hx, hb, hml, hown, hts⟩ (gM_rowsOf_0 l D cI cL cQ mo g n n2 q1 q3 q4 q5 q6 q11 z0 pr gr kd mk w10 w13 w14 m3 (m3 (nI (400 + i1)).toNatClampNeg) (by first | assumption | decide | omega)) (cwV 2 hts gX6_pairs_X6_rowsOf rfl rfl rfl (by decide +kernel) ⟨Nat.le_of_ble_eq_true rfl, Nat.le_of_ble_eq_true rfl⟩) (jr_V hK hN hP [0, 1, 2] rfl 6 0 rfl rfl rfl) rfl rfl hl.1 rfl (lv_room (Nat.le_of_ble_eq_true rfl)) dX6_pairs_67 ⟨Nat.le_of_ble_eq_true rfl, Nat.le_of_ble_eq_true rfl⟩)) (fun r f_9 => ?_)
                obtain rfl := f_9
                refine lv_istore (lv' := [(10, .int (nI (jCt n (jsh 0 m3) (m3 (nI (400 + i1)).toNatClampNeg)))), (9, .int (m3 (nI (400 + i1)).toNatClampNeg)), (0, .ref mo), (1, .int kk), (2, .int 0), (3, .long bd), (5, .long v1), (7, .int 1), (8, .int (nI i1))]) hx hb dX6_pairs_70 hl (by decide) rfl (fun ls hl => ?_)
                refine lv_lload hx hb dX6_pairs_72 (lv_at hl 6 rfl) ?_
                refine lv_iload hx hb dX6_pairs_74 (lv_at hl 0 rfl) ?_
                refine lv_if_ne (tgt := 98) hx hb dX6_pairs_76 (by decide) (fun cz1 => ?_) (fun cz1 => ?_)
                · refine lv_iload hx hb dX6_pairs_98 (lv_at hl 7 rfl) ?_
                  refine lv_if_ne (tgt := 109) hx hb dX6_pairs_100 (by decide) (fun c_10 => ?_) (fun c_10 => absurd c_10 (by decide))
                  refine lv_lconst (v := 0) hx hb dX6_pairs_109 (by decide) ?_
                  refine lv_ladd hx hb dX6_pairs_110 ?_
                  refine lv_lstore (lv' := [(5, .long (v1 + 0)), (10, .int (nI (jCt n (jsh 0 m3) (m3 (nI (400 + i1)).toNatClampNeg)))), (9, .int (m3 (nI (400 + i1)).toNatClampNeg)), (0, .ref mo), (1, .int kk), (2, .int 0), (3, .long bd), (7, .int 1), (8, .int (nI i1))]) hx hb dX6_pairs_111 hl (by decide) rfl (fun ls hl => ?_)
                  refine lv_iinc (v := nI (i1 + 1)) (lv' := [(8, .int (nI (i1 + 1))), (5, .long (v1 + 0)), (10, .int (nI (jCt n (jsh 0 m3) (m3 (nI (400 + i1)).toNatClampNeg)))), (9, .int (m3 (nI (400 + i1)).toNatClampNeg)), (0, .ref mo), (1, .int kk), (2, .int 0), (3, .long bd), (7, .int 1)]) hx hb dX6_pairs_113 hl (k := 8) rfl (nI_1 _) (by decide) rfl (fun ls hl => ?_)
                  refine lv_goto (tgt := 15) hx hb dX6_pairs_116 (by decide) ?_
                  exact ih_2 (i1 + 1) (v1 + 0) (by rw [nI_leI (by omega) (by omega)] at cge1; omega) (by rw [nI_leI (by omega) (by omega)] at cge1; omega) (jpa_hit (by omega) hv1 (jQ_0 e_z_6 cb1) (jG2_n cz1)) ls (lv_sub hl [4, 5, 6, 7, 1, 8, 0] rfl)
                · refine lv_iload_n hx hb dX6_pairs_79 rfl (lv_at hl 3 rfl) ?_
                  refine lv_iload hx hb dX6_pairs_80 (lv_at hl 7 rfl) ?_
                  refine lv_iconst (v := 1) hx hb dX6_pairs_82 (by decide) ?_
                  refine lv_iadd hx hb dX6_pairs_83 ?_
                  refine lv_topi (fun z_11 e_z_11 => ?_)
                  obtain rfl : z_11 = 2 := e_z_11.trans (by decide)
                  refine vp_callSi (va_Run.run (va_runS (As := [.int kk, .int 2]) (rest := [.long v1]) ⟨hx, hb, hml, hown, hts⟩ (gM_tells_2 l D cI cL cQ kk (by first | assumption | decide | omega)) (va_cwS 2 hts gX6_pairs_X6_tells rfl rfl rfl (by decide +kernel) ⟨Nat.le_of_ble_eq_true rfl, Nat.le_of_ble_eq_true rfl⟩) (jr_S hK hN hP [] rfl) rfl rfl hl.1 rfl (lv_room (Nat.le_of_ble_eq_true rfl)) dX6_pairs_84 ⟨Nat.le_of_ble_eq_true rfl, Nat.le_of_ble_eq_true rfl⟩)) (fun r f_12 => ?_)
                  rcases f_12 with ⟨rfl, f_13⟩ | ⟨rfl, f_14⟩
                  · refine lv_if_eq (tgt := 94) hx hb dX6_pairs_87 (by decide) (fun c_15 => absurd c_15 (by decide)) (fun c_15 => ?_)
                    refine lv_lconst (v := 1) hx hb dX6_pairs_90 (by decide) ?_
                    refine lv_goto (tgt := 110) hx hb dX6_pairs_91 (by decide) ?_
                    refine lv_ladd hx hb dX6_pairs_110 ?_
                    refine lv_lstore (lv' := [(5, .long (v1 + 1)), (10, .int (nI (jCt n (jsh 0 m3) (m3 (nI (400 + i1)).toNatClampNeg)))), (9, .int (m3 (nI (400 + i1)).toNatClampNeg)), (0, .ref mo), (1, .int kk), (2, .int 0), (3, .long bd), (7, .int 1), (8, .int (nI i1))]) hx hb dX6_pairs_111 hl (by decide) rfl (fun ls hl => ?_)
                    refine lv_iinc (v := nI (i1 + 1)) (lv' := [(8, .int (nI (i1 + 1))), (5, .long (v1 + 1)), (10, .int (nI (jCt n (jsh 0 m3) (m3 (nI (400 + i1)).toNatClampNeg)))), (9, .int (m3 (nI (400 + i1)).toNatClampNeg)), (0, .ref mo), (1, .int kk), (2, .int 0), (3, .long bd), (7, .int 1)]) hx hb dX6_pairs_113 hl (k := 8) rfl (nI_1 _) (by decide) rfl (fun ls hl => ?_)
                    refine lv_goto (tgt := 15) hx hb dX6_pairs_116 (by decide) ?_
                    exact ih_2 (i1 + 1) (v1 + 1) (by rw [nI_leI (by omega) (by omega)] at cge1; omega) (by rw [nI_leI (by omega) (by omega)] at cge1; omega) (jpa_hit (by omega) hv1 (jQ_0 e_z_6 cb1) (jG2_1 (Nat.le_trans jCt_le (by omega)) cz1 f_13)) ls (lv_sub hl [4, 5, 6, 7, 1, 8, 0] rfl)
                  · refine lv_if_eq (tgt := 94) hx hb dX6_pairs_87 (by decide) (fun c_16 => ?_) (fun c_16 => absurd c_16 (by decide))
                    refine lv_lconst (v := 0) hx hb dX6_pairs_94 (by decide) ?_
                    refine lv_goto (tgt := 110) hx hb dX6_pairs_95 (by decide) ?_
                    refine lv_ladd hx hb dX6_pairs_110 ?_
                    refine lv_lstore (lv' := [(5, .long (v1 + 0)), (10, .int (nI (jCt n (jsh 0 m3) (m3 (nI (400 + i1)).toNatClampNeg)))), (9, .int (m3 (nI (400 + i1)).toNatClampNeg)), (0, .ref mo), (1, .int kk), (2, .int 0), (3, .long bd), (7, .int 1), (8, .int (nI i1))]) hx hb dX6_pairs_111 hl (by decide) rfl (fun ls hl => ?_)
                    refine lv_iinc (v := nI (i1 + 1)) (lv' := [(8, .int (nI (i1 + 1))), (5, .long (v1 + 0)), (10, .int (nI (jCt n (jsh 0 m3) (m3 (nI (400 + i1)).toNatClampNeg)))), (9, .int (m3 (nI (400 + i1)).toNatClampNeg)), (0, .ref mo), (1, .int kk), (2, .int 0), (3, .long bd), (7, .int 1)]) hx hb dX6_pairs_113 hl (k := 8) rfl (nI_1 _) (by decide) rfl (fun ls hl => ?_)
                    refine lv_goto (tgt := 15) hx hb dX6_pairs_116 (by decide) ?_
                    exact ih_2 (i1 + 1) (v1 + 0) (by rw [nI_leI (by omega) (by omega)] at cge1; omega) (by rw [nI_leI (by omega) (by omega)] at cge1; omega) (jpa_hit (by omega) hv1 (jQ_0 e_z_6 cb1) (jG2_0 (Nat.le_trans jCt_le (by omega)) cz1 f_14)) ls (lv_sub hl [4, 5, 6, 7, 1, 8, 0] rfl)
              · refine lv_iconst (v := 1) hx hb dX6_pairs_51 (by decide) ?_
                refine lv_goto (tgt := 56) hx hb dX6_pairs_52 (by decide) ?_
                refine lv_iload_n hx hb dX6_pairs_56 rfl (lv_at hl 3 rfl) ?_
                refine lv_icmp_ne (tgt := 113) hx hb dX6_pairs_57 (by decide) (fun c_17 => ?_) (fun c_17 => absurd c_17 (by decide))
                refine lv_iinc (v := nI (i1 + 1)) (lv' := [(8, .int (nI (i1 + 1))), (9, .int (m3 (nI (400 + i1)).toNatClampNeg)), (0, .ref mo), (1, .int kk), (2, .int 0), (3, .long bd), (5, .long v1), (7, .int 1)]) hx hb dX6_pairs_113 hl (k := 7) rfl (nI_1 _) (by decide) rfl (fun ls hl => ?_)
                refine lv_goto (tgt := 15) hx hb dX6_pairs_116 (by decide) ?_
                exact ih_2 (i1 + 1) v1 (by rw [nI_leI (by omega) (by omega)] at cge1; omega) (by rw [nI_leI (by omega) (by omega)] at cge1; omega) (jpa_miss (by omega) hv1 (jQ_0n e_z_6 cb1)) ls (lv_sub hl [2, 3, 4, 5, 6, 7, 0] rfl)
        exact hloop_2 (n2 - 0 + 1) 0 v0 (Nat.lt_succ_self _) (Nat.zero_le _) (by rw [hv0, show i0 = n by rw [nI_leI (by omega) (by omega)] at cge0; omega]; rfl) ls (lv_sub hl [2, 3, 4, 5, 6, 1, 0] rfl)
      · refine lv_aload_n hx hb dX6_pairs_27 rfl (lv_at hl 0 rfl) ?_
        refine va_get (D := D) (ci := 6) (v := .ref q3) (C := RX6) (T := TX6) (N := 15) hx hb hts (by decide +kernel) hown hK hP 0 rfl rfl 3 (by decide) (hts (.fieldLink RX6 13 "JoinDeskModel" "keys" "[I") (by decide +kernel)) (fun _ h9 => h9) rfl dX6_pairs_28 ?_
        refine lv_sipush (v := 400) hx hb dX6_pairs_31 (by decide) ?_
        refine lv_iload hx hb dX6_pairs_34 (lv_at hl 5 rfl) ?_
        refine lv_imul hx hb dX6_pairs_36 ?_
        refine lv_topi (fun z_18 e_z_18 => ?_)
        obtain rfl : z_18 = 0 := e_z_18.trans (by decide)
        refine lv_iload hx hb dX6_pairs_37 (lv_at hl 6 rfl) ?_
        refine lv_iadd hx hb dX6_pairs_39 ?_
        refine lv_topi (fun z_19 e_z_19 => ?_)
        obtain rfl : z_19 = nI (0 + i0) := e_z_19.trans (nI_add 0 i0)
        refine va_iald hx hb hK hP 1 0 rfl rfl (vp_in_nI (show 0 + i0 < 800 by rw [nI_leI (by omega) (by omega)] at cge0; omega) (by omega)) dX6_pairs_40 ?_
        refine lv_istore (lv' := [(9, .int (m3 (nI (0 + i0)).toNatClampNeg)), (0, .ref mo), (1, .int kk), (2, .int 0), (3, .long bd), (5, .long v0), (7, .int 0), (8, .int (nI i0))]) hx hb dX6_pairs_41 hl (by decide) rfl (fun ls hl => ?_)
        refine lv_iload hx hb dX6_pairs_43 (lv_at hl 0 rfl) ?_
        refine lv_i2l (v := (m3 (nI (0 + i0)).toNatClampNeg).toInt64) hx hb dX6_pairs_45 (by first | rfl | decide) ?_
        refine lv_lload_n hx hb dX6_pairs_46 rfl (lv_at hl 4 rfl) ?_
        refine W.lcmp hx hb dX6_pairs_47 ?_
        refine lv_topi (fun z_20 e_z_20 => ?_)
        refine lv_if_ge (tgt := 55) hx hb dX6_pairs_48 (by decide) (fun cb0 => ?_) (fun cb0 => ?_)
        · refine lv_iconst (v := 0) hx hb dX6_pairs_55 (by decide) ?_
          refine lv_iload_n hx hb dX6_pairs_56 rfl (lv_at hl 3 rfl) ?_
          refine lv_icmp_ne (tgt := 113) hx hb dX6_pairs_57 (by decide) (fun c_21 => absurd c_21 (by decide)) (fun c_21 => ?_)
          refine lv_aload_n hx hb dX6_pairs_60 rfl (lv_at hl 1 rfl) ?_
          refine lv_iconst (v := 1) hx hb dX6_pairs_61 (by decide) ?_
          refine lv_iload hx hb dX6_pairs_62 (lv_at hl 6 rfl) ?_
          refine lv_isub hx hb dX6_pairs_64 ?_
          refine lv_topi (fun z_22 e_z_22 => ?_)
          obtain rfl : z_22 = 1 := e_z_22.trans (by decide)
          refine lv_iload hx hb dX6_pairs_65 (lv_at hl 0 rfl) ?_
          refine vp_callSi (va_Run.run (va_runV (As := [.int 1, .int (m3 (nI (0 + i0)).toNatClampNeg)]) (rest := []) ⟨hx, hb, hml, hown, hts⟩ (gM_rowsOf_1 l D cI cL cQ mo g n n2 q1 q3 q4 q5 q6 q11 z0 pr gr kd mk w10 w13 w14 m3 (m3 (nI (0 + i0)).toNatClampNeg) (by first | assumption | decide | omega)) (cwV 2 hts gX6_pairs_X6_rowsOf rfl rfl rfl (by decide +kernel) ⟨Nat.le_of_ble_eq_true rfl, Nat.le_of_ble_eq_true rfl⟩) (jr_V hK hN hP [0, 1, 2] rfl 6 0 rfl rfl rfl) rfl rfl hl.1 rfl (lv_room (Nat.le_of_ble_eq_true rfl)) dX6_pairs_67 ⟨Nat.le_of_ble_eq_true rfl, Nat.le_of_ble_eq_true rfl⟩)) (fun r f_23 => ?_)
          obtain rfl := f_23
          refine lv_istore (lv' := [(10, .int (nI (jCt n2 (jsh 400 m3) (m3 (nI (0 + i0)).toNatClampNeg)))), (9, .int (m3 (nI (0 + i0)).toNatClampNeg)), (0, .ref mo), (1, .int kk), (2, .int 0), (3, .long bd), (5, .long v0), (7, .int 0), (8, .int (nI i0))]) hx hb dX6_pairs_70 hl (by decide) rfl (fun ls hl => ?_)
          refine lv_lload hx hb dX6_pairs_72 (lv_at hl 6 rfl) ?_
          refine lv_iload hx hb dX6_pairs_74 (lv_at hl 0 rfl) ?_
          refine lv_if_ne (tgt := 98) hx hb dX6_pairs_76 (by decide) (fun cz0 => ?_) (fun cz0 => ?_)
          · refine lv_iload hx hb dX6_pairs_98 (lv_at hl 7 rfl) ?_
            refine lv_if_ne (tgt := 109) hx hb dX6_pairs_100 (by decide) (fun c_24 => absurd c_24 (by decide)) (fun c_24 => ?_)
            refine lv_iload hx hb dX6_pairs_103 (lv_at hl 0 rfl) ?_
            refine lv_i2l (v := (nI (jCt n2 (jsh 400 m3) (m3 (nI (0 + i0)).toNatClampNeg))).toInt64) hx hb dX6_pairs_105 (by first | rfl | decide) ?_
            refine lv_goto (tgt := 110) hx hb dX6_pairs_106 (by decide) ?_
            refine lv_ladd hx hb dX6_pairs_110 ?_
            refine lv_lstore (lv' := [(5, .long (v0 + ((nI (jCt n2 (jsh 400 m3) (m3 (nI (0 + i0)).toNatClampNeg))).toInt64))), (10, .int (nI (jCt n2 (jsh 400 m3) (m3 (nI (0 + i0)).toNatClampNeg)))), (9, .int (m3 (nI (0 + i0)).toNatClampNeg)), (0, .ref mo), (1, .int kk), (2, .int 0), (3, .long bd), (7, .int 0), (8, .int (nI i0))]) hx hb dX6_pairs_111 hl (by decide) rfl (fun ls hl => ?_)
            refine lv_iinc (v := nI (i0 + 1)) (lv' := [(8, .int (nI (i0 + 1))), (5, .long (v0 + ((nI (jCt n2 (jsh 400 m3) (m3 (nI (0 + i0)).toNatClampNeg))).toInt64))), (10, .int (nI (jCt n2 (jsh 400 m3) (m3 (nI (0 + i0)).toNatClampNeg)))), (9, .int (m3 (nI (0 + i0)).toNatClampNeg)), (0, .ref mo), (1, .int kk), (2, .int 0), (3, .long bd), (7, .int 0)]) hx hb dX6_pairs_113 hl (k := 8) rfl (nI_1 _) (by decide) rfl (fun ls hl => ?_)
            refine lv_goto (tgt := 15) hx hb dX6_pairs_116 (by decide) ?_
            exact ih_1 (i0 + 1) (v0 + ((nI (jCt n2 (jsh 400 m3) (m3 (nI (0 + i0)).toNatClampNeg))).toInt64)) (by rw [nI_leI (by omega) (by omega)] at cge0; omega) (by rw [nI_leI (by omega) (by omega)] at cge0; omega) (jpa_hit (by omega) hv0 (jQ_0 e_z_20 cb0) (jG1_n (Nat.le_trans jCt_le (by omega)) cz0)) ls (lv_sub hl [4, 5, 6, 7, 1, 8, 0] rfl)
          · refine lv_iload_n hx hb dX6_pairs_79 rfl (lv_at hl 3 rfl) ?_
            refine lv_iload hx hb dX6_pairs_80 (lv_at hl 7 rfl) ?_
            refine lv_iconst (v := 1) hx hb dX6_pairs_82 (by decide) ?_
            refine lv_iadd hx hb dX6_pairs_83 ?_
            refine lv_topi (fun z_25 e_z_25 => ?_)
            obtain rfl : z_25 = 1 := e_z_25.trans (by decide)
            refine vp_callSi (va_Run.run (va_runS (As := [.int kk, .int 1]) (rest := [.long v0]) ⟨hx, hb, hml, hown, hts⟩ (gM_tells_1 l D cI cL cQ kk (by first | assumption | decide | omega)) (va_cwS 2 hts gX6_pairs_X6_tells rfl rfl rfl (by decide +kernel) ⟨Nat.le_of_ble_eq_true rfl, Nat.le_of_ble_eq_true rfl⟩) (jr_S hK hN hP [] rfl) rfl rfl hl.1 rfl (lv_room (Nat.le_of_ble_eq_true rfl)) dX6_pairs_84 ⟨Nat.le_of_ble_eq_true rfl, Nat.le_of_ble_eq_true rfl⟩)) (fun r f_26 => ?_)
            rcases f_26 with ⟨rfl, f_27⟩ | ⟨rfl, f_28⟩
            · refine lv_if_eq (tgt := 94) hx hb dX6_pairs_87 (by decide) (fun c_29 => absurd c_29 (by decide)) (fun c_29 => ?_)
              refine lv_lconst (v := 1) hx hb dX6_pairs_90 (by decide) ?_
              refine lv_goto (tgt := 110) hx hb dX6_pairs_91 (by decide) ?_
              refine lv_ladd hx hb dX6_pairs_110 ?_
              refine lv_lstore (lv' := [(5, .long (v0 + 1)), (10, .int (nI (jCt n2 (jsh 400 m3) (m3 (nI (0 + i0)).toNatClampNeg)))), (9, .int (m3 (nI (0 + i0)).toNatClampNeg)), (0, .ref mo), (1, .int kk), (2, .int 0), (3, .long bd), (7, .int 0), (8, .int (nI i0))]) hx hb dX6_pairs_111 hl (by decide) rfl (fun ls hl => ?_)
              refine lv_iinc (v := nI (i0 + 1)) (lv' := [(8, .int (nI (i0 + 1))), (5, .long (v0 + 1)), (10, .int (nI (jCt n2 (jsh 400 m3) (m3 (nI (0 + i0)).toNatClampNeg)))), (9, .int (m3 (nI (0 + i0)).toNatClampNeg)), (0, .ref mo), (1, .int kk), (2, .int 0), (3, .long bd), (7, .int 0)]) hx hb dX6_pairs_113 hl (k := 8) rfl (nI_1 _) (by decide) rfl (fun ls hl => ?_)
              refine lv_goto (tgt := 15) hx hb dX6_pairs_116 (by decide) ?_
              exact ih_1 (i0 + 1) (v0 + 1) (by rw [nI_leI (by omega) (by omega)] at cge0; omega) (by rw [nI_leI (by omega) (by omega)] at cge0; omega) (jpa_hit (by omega) hv0 (jQ_0 e_z_20 cb0) (jG1_1 (Nat.le_trans jCt_le (by omega)) cz0 f_27)) ls (lv_sub hl [4, 5, 6, 7, 1, 8, 0] rfl)
            · refine lv_if_eq (tgt := 94) hx hb dX6_pairs_87 (by decide) (fun c_30 => ?_) (fun c_30 => absurd c_30 (by decide))
              refine lv_lconst (v := 0) hx hb dX6_pairs_94 (by decide) ?_
              refine lv_goto (tgt := 110) hx hb dX6_pairs_95 (by decide) ?_
              refine lv_ladd hx hb dX6_pairs_110 ?_
              refine lv_lstore (lv' := [(5, .long (v0 + 0)), (10, .int (nI (jCt n2 (jsh 400 m3) (m3 (nI (0 + i0)).toNatClampNeg)))), (9, .int (m3 (nI (0 + i0)).toNatClampNeg)), (0, .ref mo), (1, .int kk), (2, .int 0), (3, .long bd), (7, .int 0), (8, .int (nI i0))]) hx hb dX6_pairs_111 hl (by decide) rfl (fun ls hl => ?_)
              refine lv_iinc (v := nI (i0 + 1)) (lv' := [(8, .int (nI (i0 + 1))), (5, .long (v0 + 0)), (10, .int (nI (jCt n2 (jsh 400 m3) (m3 (nI (0 + i0)).toNatClampNeg)))), (9, .int (m3 (nI (0 + i0)).toNatClampNeg)), (0, .ref mo), (1, .int kk), (2, .int 0), (3, .long bd), (7, .int 0)]) hx hb dX6_pairs_113 hl (k := 8) rfl (nI_1 _) (by decide) rfl (fun ls hl => ?_)
              refine lv_goto (tgt := 15) hx hb dX6_pairs_116 (by decide) ?_
              exact ih_1 (i0 + 1) (v0 + 0) (by rw [nI_leI (by omega) (by omega)] at cge0; omega) (by rw [nI_leI (by omega) (by omega)] at cge0; omega) (jpa_hit (by omega) hv0 (jQ_0 e_z_20 cb0) (jG1_0 (Nat.le_trans jCt_le (by omega)) cz0 f_28)) ls (lv_sub hl [4, 5, 6, 7, 1, 8, 0] rfl)
        · refine lv_iconst (v := 1) hx hb dX6_pairs_51 (by decide) ?_
          refine lv_goto (tgt := 56) hx hb dX6_pairs_52 (by decide) ?_
          refine lv_iload_n hx hb dX6_pairs_56 rfl (lv_at hl 3 rfl) ?_
          refine lv_icmp_ne (tgt := 113) hx hb dX6_pairs_57 (by decide) (fun c_31 => ?_) (fun c_31 => absurd c_31 (by decide))
          refine lv_iinc (v := nI (i0 + 1)) (lv' := [(8, .int (nI (i0 + 1))), (9, .int (m3 (nI (0 + i0)).toNatClampNeg)), (0, .ref mo), (1, .int kk), (2, .int 0), (3, .long bd), (5, .long v0), (7, .int 0)]) hx hb dX6_pairs_113 hl (k := 7) rfl (nI_1 _) (by decide) rfl (fun ls hl => ?_)
          refine lv_goto (tgt := 15) hx hb dX6_pairs_116 (by decide) ?_
          exact ih_1 (i0 + 1) v0 (by rw [nI_leI (by omega) (by omega)] at cge0; omega) (by rw [nI_leI (by omega) (by omega)] at cge0; omega) (jpa_miss (by omega) hv0 (jQ_0n e_z_20 cb0)) ls (lv_sub hl [2, 3, 4, 5, 6, 7, 0] rfl)
  exact hloop_1 (n - 0 + 1) 0 0 (Nat.lt_succ_self _) (Nat.zero_le _) (rfl) ls (lv_sub hl [3, 4, 5, 6, 2, 1, 0] rfl)
