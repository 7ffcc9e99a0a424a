set_option maxHeartbeats 1000000 in
set_option maxRecDepth 100000 in
theorem gM_goes_0 (l : Launch) (D : va_G) (cI cL cQ : ClassId) (mo : Nat) (g : Nat) (n : Nat) (n2 : Nat) (q1 : Nat) (q3 : Nat) (q4 : Nat) (q5 : Nat) (q6 : Nat) (q11 : Nat) (z0 : Int32) (pr : Int32) (gr : Int32) (kd : Int32) (mk : Int32) (w10 : Int64) (w13 : Int64) (w14 : Int64) (m3 : Nat → Int32) (m5 : Nat → Int32) (t1 : Int32) (t2 : Int32) (t3 : Int32) (t4 : Int32) (t5 : Int32) (t6 : Int32) (t7 : Int32) (t8 : Int32) (t9 : Int32) (t10 : Int32) (t11 : Int32) (t12 : Int32) (t13 : Int32) (t14 : Int32) (t15 : Int32) (t16 : Int32) (t17 : Int32) (t18 : Int32) (t19 : Int32) (t20 : Int32) (t21 : Int32) (t22 : Int32) (t23 : Int32) (e0 : Nat) (sz : Nat) (hn : n ≤ 400) (h5 : jo5 m5) (he : e0 < n) : Met l yX6_goes wsX6_goes ({ frames := 1, cells := 0, slots := 0, locals := 22 }) (jw_P D vwCl (jT cI cL cQ) cL cQ [.ref mo, .int 0] [(mo, .inr (6, [.int z0, .ref q1, .int (nI g), .ref q3, .ref q4, .ref q5, .ref q6, .int pr, .int gr, .int kd, .long w10, .ref q11, .int mk, .long w13, .long w14])), (q3, .inl (cI, 800, .inl m3)), (q5, .inl (cI, 800, .inl m5)), (q6, .inl (cI, 2, .inl (jl [nI n, nI n2]))), (q11, .inl (cI, 24, .inl (jl [nI e0, t1, t2, t3, t4, t5, t6, t7, t8, t9, t10, t11, t12, t13, t14, t15, t16, t17, t18, t19, t20, t21, t22, t23])))] sz) (va_Qv (fun u : va_W => ∃ (to9 : Nat) (w9 : Int64), u = [(mo, .inr (6, [.int z0, .ref q1, .int (nI g), .ref q3, .ref q4, .ref q5, .ref q6, .int pr, .int gr, .int kd, .long w9, .ref q11, .int mk, .long w13, .long w14])), (q3, .inl (cI, 800, .inl m3)), (q5, .inl (cI, 800, .inl m5)), (q6, .inl (cI, 2, .inl (jl [nI n, nI n2]))), (q11, .inl (cI, 24, .inl (jl [nI to9, t1, nI e0, t3, nI to9, t5, nI e0, t7, t8, t9, t10, t11, t12, t13, t14, t15, t16, t17, t18, t19, t20, t21, t22, t23])))] ∧ (e0 < to9) ∧ (to9 ≤ n)) (jw_B D vwCl (va_A [(mo, .inr (6, [.int z0, .ref q1, .int (nI g), .ref q3, .ref q4, .ref q5, .ref q6, .int pr, .int gr, .int kd, .long w10, .ref q11, .int mk, .long w13, .long w14])), (q3, .inl (cI, 800, .inl m3)), (q5, .inl (cI, 800, .inl m5)), (q6, .inl (cI, 2, .inl (jl [nI n, nI n2]))), (q11, .inl (cI, 24, .inl (jl [nI e0, t1, t2, t3, t4, t5, t6, t7, t8, t9, t10, t11, t12, t13, t14, t15, t16, t17, t18, t19, t20, t21, t22, t23])))] sz) (fun u : va_W => u)) (va_A [(mo, .inr (6, [.int z0, .ref q1, .int (nI g), .ref q3, .ref q4, .ref q5, .ref q6, .int pr, .int gr, .int kd, .long w10, .ref q11, .int mk, .long w13, .long w14])), (q3, .inl (cI, 800, .inl m3)), (q5, .inl (cI, 800, .inl m5)), (q6, .inl (cI, 2, .inl (jl [nI n, nI n2]))), (q11, .inl (cI, 24, .inl (jl [nI e0, t1, t2, t3, t4, t5, t6, t7, t8, t9, t10, t11, t12, t13, t14, t15, t16, t17, t18, t19, t20, t21, t22, t23])))] sz)) 0 0 (va_A [(mo, .inr (6, [.int z0, .ref q1, .int (nI g), .ref q3, .ref q4, .ref q5, .ref q6, .int pr, .int gr, .int kd, .long w10, .ref q11, .int mk, .long w13, .long w14])), (q3, .inl (cI, 800, .inl m3)), (q5, .inl (cI, 800, .inl m5)), (q6, .inl (cI, 2, .inl (jl [nI n, nI n2]))), (q11, .inl (cI, 24, .inl (jl [nI e0, t1, t2, t3, t4, t5, t6, t7, t8, t9, t10, t11, t12, t13, t14, t15, t16, t17, t18, t19, t20, t21, t22, t23])))] sz) := by
  refine Met.ofW (cc := cX6_goes) (maxL := 4) (ret := none) (by decide) rfl ?_
  intro p e s m args below meth c s₁ B hml hv
  obtain ⟨rfl, hsz, hP, hK, hN, hD0⟩ := hv
  have hx := B.exec
  have hb := B.bytes
  have hr := B.returns
  have hts := atoms_spec (ws := wsX6_goes) B.pre
  have hown : s.vm.findClass RX6 = some m.cls := findClass_of_methodNamed B.named
  have hlocks := B.notSynchronized
  subst hsz
  have hD := hD0.self (sz := s.heap.size)
  generalize hAe : va_A [(mo, .inr (6, [.int z0, .ref q1, .int (nI g), .ref q3, .ref q4, .ref q5, .ref q6, .int pr, .int gr, .int kd, .long w10, .ref q11, .int mk, .long w13, .long w14])), (q3, .inl (cI, 800, .inl m3)), (q5, .inl (cI, 800, .inl m5)), (q6, .inl (cI, 2, .inl (jl [nI n, nI n2]))), (q11, .inl (cI, 24, .inl (jl [nI e0, t1, t2, t3, t4, t5, t6, t7, t8, t9, t10, t11, t12, t13, t14, t15, t16, t17, t18, t19, t20, t21, t22, t23])))] s.heap.size = A at hD ⊢
  have hA : ∀ q : Nat, s.heap.size ≤ q → A q := fun q h => by rw [← hAe]; exact Or.inr h
  have hS : va_S A s.heap s.heap [] := va_S.rf
  have hl := lv_entry ([.ref mo, .int 0]) (n := 4) (Nat.le_of_ble_eq_true rfl)
  rw [lg_entry_eq]
  generalize (lg_sl ([.ref mo, .int 0]) ++ List.replicate (4 - (lg_sl ([.ref mo, .int 0])).length) Slot.unset).toArray = ls at hl ⊢
  have hl : lv_has ls 4 [(0, .ref mo), (1, .int 0)] := hl
  refine lv_aload_n hx hb dX6_goes_0 rfl (lv_at hl 0 rfl) ?_
  refine va_get (D := D) (ci := 6) (v := .ref q11) (C := RX6) (T := TX6) (N := 15) hx hb hts (by decide +kernel) hown hK hP 0 rfl rfl 11 (by decide) (hts (.fieldLink RX6 25 "JoinDeskModel" "at" "[I") (by decide +kernel)) (fun _ h9 => h9) rfl dX6_goes_1 ?_
  refine lv_iconst (v := 0) hx hb dX6_goes_4 (by decide) ?_
  refine lv_iload_n hx hb dX6_goes_5 rfl (lv_at hl 1 rfl) ?_
  refine lv_iadd hx hb dX6_goes_6 ?_
  refine lv_topi (fun z_1 e_z_1 => ?_)
  obtain rfl : z_1 = 0 := e_z_1.trans (by decide)
  refine va_iald hx hb hK hP 4 0 rfl rfl (by unfold vp_in; decide) dX6_goes_7 ?_
  refine W.eq (g2 := F0 m 8 ls [.int (nI e0)]) rfl ?_
  refine lv_istore_n (lv' := [(2, .int (nI e0)), (0, .ref mo), (1, .int 0)]) hx hb dX6_goes_8 rfl hl (by decide) rfl (fun ls hl => ?_)
  refine lv_iload_n hx hb dX6_goes_9 rfl (lv_at hl 0 rfl) ?_
  refine lv_iconst (v := 1) hx hb dX6_goes_10 (by decide) ?_
  refine lv_iadd hx hb dX6_goes_11 ?_
  refine lv_topi (fun z_2 e_z_2 => ?_)
  obtain rfl : z_2 = nI (e0 + 1) := e_z_2.trans (nI_add e0 1)
  refine lv_istore_n (lv' := [(3, .int (nI (e0 + 1))), (2, .int (nI e0)), (0, .ref mo), (1, .int 0)]) hx hb dX6_goes_12 rfl hl (by decide) rfl (fun ls hl => ?_)
  refine lv_aload_n hx hb dX6_goes_13 rfl (lv_at hl 2 rfl) ?_
  refine lv_dup hx hb dX6_goes_14 rfl ?_
  refine va_get (D := D) (ci := 6) (v := .long w10) (C := RX6) (T := TX6) (N := 15) hx hb hts (by decide +kernel) hown hK hP 0 rfl rfl 10 (by decide) (hts (.fieldLink RX6 53 "JoinDeskModel" "cells" "J") (by decide +kernel)) (fun _ h9 => h9) rfl dX6_goes_15 ?_
  refine lv_lconst (v := 1) hx hb dX6_goes_18 (by decide) ?_
  refine lv_ladd hx hb dX6_goes_19 ?_
  refine va_put (D := D) (ci := 6) (v := .long (w10 + 1)) (ty := .long) (C := RX6) (T := TX6) (N := 15) hx hb hts (by decide +kernel) tyX6 tyX6_ok nmX6 hown hK hP hD hS 0 rfl rfl 10 (by decide) (hts (.fieldLink RX6 53 "JoinDeskModel" "cells" "J") (by decide +kernel)) (fun _ h9 => h9) rfl (by decide +kernel) rfl rfl (Nat.le_of_ble_eq_true rfl) dX6_goes_20 (fun H locs hP hD hS => ?_)
  have hP : va_P D vwCl [(mo, .inr (6, [.int z0, .ref q1, .int (nI g), .ref q3, .ref q4, .ref q5, .ref q6, .int pr, .int gr, .int kd, .long (w10 + 1), .ref q11, .int mk, .long w13, .long w14])), (q3, .inl (cI, 800, .inl m3)), (q5, .inl (cI, 800, .inl m5)), (q6, .inl (cI, 2, .inl (jl [nI n, nI n2]))), (q11, .inl (cI, 24, .inl (jl [nI e0, t1, t2, t3, t4, t5, t6, t7, t8, t9, t10, t11, t12, t13, t14, t15, t16, t17, t18, t19, t20, t21, t22, t23])))] H := hP
  have hD : va_D A [(mo, .inr (6, [.int z0, .ref q1, .int (nI g), .ref q3, .ref q4, .ref q5, .ref q6, .int pr, .int gr, .int kd, .long (w10 + 1), .ref q11, .int mk, .long w13, .long w14])), (q3, .inl (cI, 800, .inl m3)), (q5, .inl (cI, 800, .inl m5)), (q6, .inl (cI, 2, .inl (jl [nI n, nI n2]))), (q11, .inl (cI, 24, .inl (jl [nI e0, t1, t2, t3, t4, t5, t6, t7, t8, t9, t10, t11, t12, t13, t14, t15, t16, t17, t18, t19, t20, t21, t22, t23])))] := hD
  have hloop_1 : ∀ (k_1 : Nat) (i : Nat) (w1 : Int64), n - i < k_1 → (i ≤ n) → (e0 < i) → ∀ (H : Heap) (locs : List Loc), va_P D vwCl [(mo, .inr (6, [.int z0, .ref q1, .int (nI g), .ref q3, .ref q4, .ref q5, .ref q6, .int pr, .int gr, .int kd, .long w1, .ref q11, .int mk, .long w13, .long w14])), (q3, .inl (cI, 800, .inl m3)), (q5, .inl (cI, 800, .inl m5)), (q6, .inl (cI, 2, .inl (jl [nI n, nI n2]))), (q11, .inl (cI, 24, .inl (jl [nI e0, t1, t2, t3, t4, t5, t6, t7, t8, t9, t10, t11, t12, t13, t14, t15, t16, t17, t18, t19, t20, t21, t22, t23])))] H → va_D A [(mo, .inr (6, [.int z0, .ref q1, .int (nI g), .ref q3, .ref q4, .ref q5, .ref q6, .int pr, .int gr, .int kd, .long w1, .ref q11, .int mk, .long w13, .long w14])), (q3, .inl (cI, 800, .inl m3)), (q5, .inl (cI, 800, .inl m5)), (q6, .inl (cI, 2, .inl (jl [nI n, nI n2]))), (q11, .inl (cI, 24, .inl (jl [nI e0, t1, t2, t3, t4, t5, t6, t7, t8, t9, t10, t11, t12, t13, t14, t15, t16, t17, t18, t19, t20, t21, t22, t23])))] → va_S A s.heap H locs → ∀ ls : Array Slot, lv_has ls 4 [(0, .ref mo), (1, .int 0), (2, .int (nI e0)), (3, .int (nI i))] → W p l e (headSpec wsX6_goes ({ frames := 1, cells := 0, slots := 0, locals := 22 })).room s m #[.ref mo, .int 0] below meth c H locs 0 0 (MQ below (va_Qv (fun u : va_W => ∃ (to9 : Nat) (w9 : Int64), u = [(mo, .inr (6, [.int z0, .ref q1, .int (nI g), .ref q3, .ref q4, .ref q5, .ref q6, .int pr, .int gr, .int kd, .long w9, .ref q11, .int mk, .long w13, .long w14])), (q3, .inl (cI, 800, .inl m3)), (q5, .inl (cI, 800, .inl m5)), (q6, .inl (cI, 2, .inl (jl [nI n, nI n2]))), (q11, .inl (cI, 24, .inl (jl [nI to9, t1, nI e0, t3, nI to9, t5, nI e0, t7, t8, t9, t10, t11, t12, t13, t14, t15, t16, t17, t18, t19, t20, t21, t22, t23])))] ∧ (e0 < to9) ∧ (to9 ≤ n)) (jw_B D vwCl A (fun u : va_W => u)) A) #[.ref mo, .int 0] s 0 0 A) (F0 m 23 ls []) := by
    intro k_1
    induction k_1 with
    | zero => exact fun _ _ hm => absurd hm (Nat.not_lt_zero _)
    | succ k_1 ih_1 =>
      intro i w1 hm1 hi hi2 H locs hP hD hS ls hl
      refine lv_iload_n hx hb dX6_goes_23 rfl (lv_at hl 3 rfl) ?_
      refine lv_aload_n hx hb dX6_goes_24 rfl (lv_at hl 0 rfl) ?_
      refine va_get (D := D) (ci := 6) (v := .ref q6) (C := RX6) (T := TX6) (N := 15) hx hb hts (by decide +kernel) hown hK hP 0 rfl rfl 6 (by decide) (hts (.fieldLink RX6 22 "JoinDeskModel" "many" "[I") (by decide +kernel)) (fun _ h9 => h9) rfl dX6_goes_25 ?_
      refine lv_iload_n hx hb dX6_goes_28 rfl (lv_at hl 1 rfl) ?_
      refine va_iald hx hb hK hP 3 0 rfl rfl (by unfold vp_in; decide) dX6_goes_29 ?_
      refine W.eq (g2 := F0 m 30 ls [.int (nI n), .int (nI i)]) rfl ?_
      refine lv_icmp_ge (tgt := 64) hx hb dX6_goes_30 (by decide) (fun cge => ?_) (fun cge => ?_)
      · refine lv_aload_n hx hb dX6_goes_64 rfl (lv_at hl 0 rfl) ?_
        refine lv_dup hx hb dX6_goes_65 rfl ?_
        refine va_get (D := D) (ci := 6) (v := .long w1) (C := RX6) (T := TX6) (N := 15) hx hb hts (by decide +kernel) hown hK hP 0 rfl rfl 10 (by decide) (hts (.fieldLink RX6 53 "JoinDeskModel" "cells" "J") (by decide +kernel)) (fun _ h9 => h9) rfl dX6_goes_66 ?_
        refine lv_iload_n hx hb dX6_goes_69 rfl (lv_at hl 3 rfl) ?_
        refine lv_aload_n hx hb dX6_goes_70 rfl (lv_at hl 0 rfl) ?_
        refine va_get (D := D) (ci := 6) (v := .ref q6) (C := RX6) (T := TX6) (N := 15) hx hb hts (by decide +kernel) hown hK hP 0 rfl rfl 6 (by decide) (hts (.fieldLink RX6 22 "JoinDeskModel" "many" "[I") (by decide +kernel)) (fun _ h9 => h9) rfl dX6_goes_71 ?_
        refine lv_iload_n hx hb dX6_goes_74 rfl (lv_at hl 1 rfl) ?_
        refine va_iald hx hb hK hP 3 0 rfl rfl (by unfold vp_in; decide) dX6_goes_75 ?_
        refine W.eq (g2 := F0 m 76 ls [.int (nI n), .int (nI i), .long w1, .ref mo]) rfl ?_
        refine lv_icmp_ge (tgt := 83) hx hb dX6_goes_76 (by decide) (fun c_3 => ?_) (fun c_3 => ?_)
        · refine lv_lconst (v := 0) hx hb dX6_goes_83 (by decide) ?_
          refine lv_ladd hx hb dX6_goes_84 ?_
          refine va_put (D := D) (ci := 6) (v := .long (w1 + 0)) (ty := .long) (C := RX6) (T := TX6) (N := 15) hx hb hts (by decide +kernel) tyX6 tyX6_ok nmX6 hown hK hP hD hS 0 rfl rfl 10 (by decide) (hts (.fieldLink RX6 53 "JoinDeskModel" "cells" "J") (by decide +kernel)) (fun _ h9 => h9) rfl (by decide +kernel) rfl rfl (Nat.le_of_ble_eq_true rfl) dX6_goes_85 (fun H locs hP hD hS => ?_)
          have hP : va_P D vwCl [(mo, .inr (6, [.int z0, .ref q1, .int (nI g), .ref q3, .ref q4, .ref q5, .ref q6, .int pr, .int gr, .int kd, .long (w1 + 0), .ref q11, .int mk, .long w13, .long w14])), (q3, .inl (cI, 800, .inl m3)), (q5, .inl (cI, 800, .inl m5)), (q6, .inl (cI, 2, .inl (jl [nI n, nI n2]))), (q11, .inl (cI, 24, .inl (jl [nI e0, t1, t2, t3, t4, t5, t6, t7, t8, t9, t10, t11, t12, t13, t14, t15, t16, t17, t18, t19, t20, t21, t22, t23])))] H := hP
          have hD : va_D A [(mo, .inr (6, [.int z0, .ref q1, .int (nI g), .ref q3, .ref q4, .ref q5, .ref q6, .int pr, .int gr, .int kd, .long (w1 + 0), .ref q11, .int mk, .long w13, .long w14])), (q3, .inl (cI, 800, .inl m3)), (q5, .inl (cI, 800, .inl m5)), (q6, .inl (cI, 2, .inl (jl [nI n, nI n2]))), (q11, .inl (cI, 24, .inl (jl [nI e0, t1, t2, t3, t4, t5, t6, t7, t8, t9, t10, t11, t12, t13, t14, t15, t16, t17, t18, t19, t20, t21, t22, t23])))] := hD
          refine lv_aload_n hx hb dX6_goes_88 rfl (lv_at hl 0 rfl) ?_
          refine va_get (D := D) (ci := 6) (v := .ref q11) (C := RX6) (T := TX6) (N := 15) hx hb hts (by decide +kernel) hown hK hP 0 rfl rfl 11 (by decide) (hts (.fieldLink RX6 25 "JoinDeskModel" "at" "[I") (by decide +kernel)) (fun _ h9 => h9) rfl dX6_goes_89 ?_
          refine lv_iconst (v := 2) hx hb dX6_goes_92 (by decide) ?_
          refine lv_iload_n hx hb dX6_goes_93 rfl (lv_at hl 1 rfl) ?_
          refine lv_iadd hx hb dX6_goes_94 ?_
          refine lv_topi (fun z_4 e_z_4 => ?_)
          obtain rfl : z_4 = 2 := e_z_4.trans (by decide)
          refine lv_iload_n hx hb dX6_goes_95 rfl (lv_at hl 2 rfl) ?_
          refine va_iast hx hb hK hP hD hS 4 0 rfl rfl (by unfold vp_in; decide) dX6_goes_96 (fun H locs hP hD hS => ?_)
          rw [jl_upd (show (2 : Int32).toNatClampNeg = 2 by decide) (Nat.le_of_ble_eq_true rfl)] at hP hD
          have hP : va_P D vwCl [(mo, .inr (6, [.int z0, .ref q1, .int (nI g), .ref q3, .ref q4, .ref q5, .ref q6, .int pr, .int gr, .int kd, .long (w1 + 0), .ref q11, .int mk, .long w13, .long w14])), (q3, .inl (cI, 800, .inl m3)), (q5, .inl (cI, 800, .inl m5)), (q6, .inl (cI, 2, .inl (jl [nI n, nI n2]))), (q11, .inl (cI, 24, .inl (jl [nI e0, t1, nI e0, t3, t4, t5, t6, t7, t8, t9, t10, t11, t12, t13, t14, t15, t16, t17, t18, t19, t20, t21, t22, t23])))] H := hP
          have hD : va_D A [(mo, .inr (6, [.int z0, .ref q1, .int (nI g), .ref q3, .ref q4, .ref q5, .ref q6, .int pr, .int gr, .int kd, .long (w1 + 0), .ref q11, .int mk, .long w13, .long w14])), (q3, .inl (cI, 800, .inl m3)), (q5, .inl (cI, 800, .inl m5)), (q6, .inl (cI, 2, .inl (jl [nI n, nI n2]))), (q11, .inl (cI, 24, .inl (jl [nI e0, t1, nI e0, t3, t4, t5, t6, t7, t8, t9, t10, t11, t12, t13, t14, t15, t16, t17, t18, t19, t20, t21, t22, t23])))] := hD
          refine lv_aload_n hx hb dX6_goes_97 rfl (lv_at hl 0 rfl) ?_
          refine va_get (D := D) (ci := 6) (v := .ref q11) (C := RX6) (T := TX6) (N := 15) hx hb hts (by decide +kernel) hown hK hP 0 rfl rfl 11 (by decide) (hts (.fieldLink RX6 25 "JoinDeskModel" "at" "[I") (by decide +kernel)) (fun _ h9 => h9) rfl dX6_goes_98 ?_
          refine lv_iconst (v := 4) hx hb dX6_goes_101 (by decide) ?_
          refine lv_iload_n hx hb dX6_goes_102 rfl (lv_at hl 1 rfl) ?_
          refine lv_iadd hx hb dX6_goes_103 ?_
          refine lv_topi (fun z_5 e_z_5 => ?_)
          obtain rfl : z_5 = 4 := e_z_5.trans (by decide)
          refine lv_iload_n hx hb dX6_goes_104 rfl (lv_at hl 3 rfl) ?_
          refine va_iast hx hb hK hP hD hS 4 0 rfl rfl (by unfold vp_in; decide) dX6_goes_105 (fun H locs hP hD hS => ?_)
          rw [jl_upd (show (4 : Int32).toNatClampNeg = 4 by decide) (Nat.le_of_ble_eq_true rfl)] at hP hD
          have hP : va_P D vwCl [(mo, .inr (6, [.int z0, .ref q1, .int (nI g), .ref q3, .ref q4, .ref q5, .ref q6, .int pr, .int gr, .int kd, .long (w1 + 0), .ref q11, .int mk, .long w13, .long w14])), (q3, .inl (cI, 800, .inl m3)), (q5, .inl (cI, 800, .inl m5)), (q6, .inl (cI, 2, .inl (jl [nI n, nI n2]))), (q11, .inl (cI, 24, .inl (jl [nI e0, t1, nI e0, t3, nI i, t5, t6, t7, t8, t9, t10, t11, t12, t13, t14, t15, t16, t17, t18, t19, t20, t21, t22, t23])))] H := hP
          have hD : va_D A [(mo, .inr (6, [.int z0, .ref q1, .int (nI g), .ref q3, .ref q4, .ref q5, .ref q6, .int pr, .int gr, .int kd, .long (w1 + 0), .ref q11, .int mk, .long w13, .long w14])), (q3, .inl (cI, 800, .inl m3)), (q5, .inl (cI, 800, .inl m5)), (q6, .inl (cI, 2, .inl (jl [nI n, nI n2]))), (q11, .inl (cI, 24, .inl (jl [nI e0, t1, nI e0, t3, nI i, t5, t6, t7, t8, t9, t10, t11, t12, t13, t14, t15, t16, t17, t18, t19, t20, t21, t22, t23])))] := hD
          refine lv_aload_n hx hb dX6_goes_106 rfl (lv_at hl 0 rfl) ?_
          refine va_get (D := D) (ci := 6) (v := .ref q11) (C := RX6) (T := TX6) (N := 15) hx hb hts (by decide +kernel) hown hK hP 0 rfl rfl 11 (by decide) (hts (.fieldLink RX6 25 "JoinDeskModel" "at" "[I") (by decide +kernel)) (fun _ h9 => h9) rfl dX6_goes_107 ?_
          refine lv_bipush (v := 6) hx hb dX6_goes_110 (by decide) ?_
          refine lv_iload_n hx hb dX6_goes_112 rfl (lv_at hl 1 rfl) ?_
          refine lv_iadd hx hb dX6_goes_113 ?_
          refine lv_topi (fun z_6 e_z_6 => ?_)
          obtain rfl : z_6 = 6 := e_z_6.trans (by decide)
          refine lv_iload_n hx hb dX6_goes_114 rfl (lv_at hl 2 rfl) ?_
          refine va_iast hx hb hK hP hD hS 4 0 rfl rfl (by unfold vp_in; decide) dX6_goes_115 (fun H locs hP hD hS => ?_)
          rw [jl_upd (show (6 : Int32).toNatClampNeg = 6 by decide) (Nat.le_of_ble_eq_true rfl)] at hP hD
          have hP : va_P D vwCl [(mo, .inr (6, [.int z0, .ref q1, .int (nI g), .ref q3, .ref q4, .ref q5, .ref q6, .int pr, .int gr, .int kd, .long (w1 + 0), .ref q11, .int mk, .long w13, .long w14])), (q3, .inl (cI, 800, .inl m3)), (q5, .inl (cI, 800, .inl m5)), (q6, .inl (cI, 2, .inl (jl [nI n, nI n2]))), (q11, .inl (cI, 24, .inl (jl [nI e0, t1, nI e0, t3, nI i, t5, nI e0, t7, t8, t9, t10, t11, t12, t13, t14, t15, t16, t17, t18, t19, t20, t21, t22, t23])))] H := hP
          have hD : va_D A [(mo, .inr (6, [.int z0, .ref q1, .int (nI g), .ref q3, .ref q4, .ref q5, .ref q6, .int pr, .int gr, .int kd, .long (w1 + 0), .ref q11, .int mk, .long w13, .long w14])), (q3, .inl (cI, 800, .inl m3)), (q5, .inl (cI, 800, .inl m5)), (q6, .inl (cI, 2, .inl (jl [nI n, nI n2]))), (q11, .inl (cI, 24, .inl (jl [nI e0, t1, nI e0, t3, nI i, t5, nI e0, t7, t8, t9, t10, t11, t12, t13, t14, t15, t16, t17, t18, t19, t20, t21, t22, t23])))] := hD
          refine lv_aload_n hx hb dX6_goes_116 rfl (lv_at hl 0 rfl) ?_
          refine va_get (D := D) (ci := 6) (v := .ref q11) (C := RX6) (T := TX6) (N := 15) hx hb hts (by decide +kernel) hown hK hP 0 rfl rfl 11 (by decide) (hts (.fieldLink RX6 25 "JoinDeskModel" "at" "[I") (by decide +kernel)) (fun _ h9 => h9) rfl dX6_goes_117 ?_
          refine lv_iconst (v := 0) hx hb dX6_goes_120 (by decide) ?_
          refine lv_iload_n hx hb dX6_goes_121 rfl (lv_at hl 1 rfl) ?_
          refine lv_iadd hx hb dX6_goes_122 ?_
          refine lv_topi (fun z_7 e_z_7 => ?_)
          obtain rfl : z_7 = 0 := e_z_7.trans (by decide)
          refine lv_iload_n hx hb dX6_goes_123 rfl (lv_at hl 3 rfl) ?_
          refine va_iast hx hb hK hP hD hS 4 0 rfl rfl (by unfold vp_in; decide) dX6_goes_124 (fun H locs hP hD hS => ?_)
          rw [jl_upd (show (0 : Int32).toNatClampNeg = 0 by decide) (Nat.le_of_ble_eq_true rfl)] at hP hD
          have hP : va_P D vwCl [(mo, .inr (6, [.int z0, .ref q1, .int (nI g), .ref q3, .ref q4, .ref q5, .ref q6, .int pr, .int gr, .int kd, .long (w1 + 0), .ref q11, .int mk, .long w13, .long w14])), (q3, .inl (cI, 800, .inl m3)), (q5, .inl (cI, 800, .inl m5)), (q6, .inl (cI, 2, .inl (jl [nI n, nI n2]))), (q11, .inl (cI, 24, .inl (jl [nI i, t1, nI e0, t3, nI i, t5, nI e0, t7, t8, t9, t10, t11, t12, t13, t14, t15, t16, t17, t18, t19, t20, t21, t22, t23])))] H := hP
          have hD : va_D A [(mo, .inr (6, [.int z0, .ref q1, .int (nI g), .ref q3, .ref q4, .ref q5, .ref q6, .int pr, .int gr, .int kd, .long (w1 + 0), .ref q11, .int mk, .long w13, .long w14])), (q3, .inl (cI, 800, .inl m3)), (q5, .inl (cI, 800, .inl m5)), (q6, .inl (cI, 2, .inl (jl [nI n, nI n2]))), (q11, .inl (cI, 24, .inl (jl [nI i, t1, nI e0, t3, nI i, t5, nI e0, t7, t8, t9, t10, t11, t12, t13, t14, t15, t16, t17, t18, t19, t20, t21, t22, t23])))] := hD
          refine W.widen (k := 0) (n := 0) (by omega) (by omega) ?_
          exact W.vret hx hb hr (fun t ht hW => ⟨⟨[(mo, .inr (6, [.int z0, .ref q1, .int (nI g), .ref q3, .ref q4, .ref q5, .ref q6, .int pr, .int gr, .int kd, .long (w1 + 0), .ref q11, .int mk, .long w13, .long w14])), (q3, .inl (cI, 800, .inl m3)), (q5, .inl (cI, 800, .inl m5)), (q6, .inl (cI, 2, .inl (jl [nI n, nI n2]))), (q11, .inl (cI, 24, .inl (jl [nI i, t1, nI e0, t3, nI i, t5, nI e0, t7, t8, t9, t10, t11, t12, t13, t14, t15, t16, t17, t18, t19, t20, t21, t22, t23])))], rfl, (⟨_, _, rfl, by assumption, by assumption⟩), by rw [ht]; exact hP, hD⟩, hS.F ht⟩) hS.2.2 dX6_goes_125
        · refine lv_lconst (v := 1) hx hb dX6_goes_79 (by decide) ?_
          refine lv_goto (tgt := 84) hx hb dX6_goes_80 (by decide) ?_
          refine lv_ladd hx hb dX6_goes_84 ?_
          refine va_put (D := D) (ci := 6) (v := .long (w1 + 1)) (ty := .long) (C := RX6) (T := TX6) (N := 15) hx hb hts (by decide +kernel) tyX6 tyX6_ok nmX6 hown hK hP hD hS 0 rfl rfl 10 (by decide) (hts (.fieldLink RX6 53 "JoinDeskModel" "cells" "J") (by decide +kernel)) (fun _ h9 => h9) rfl (by decide +kernel) rfl rfl (Nat.le_of_ble_eq_true rfl) dX6_goes_85 (fun H locs hP hD hS => ?_)
          have hP : va_P D vwCl [(mo, .inr (6, [.int z0, .ref q1, .int (nI g), .ref q3, .ref q4, .ref q5, .ref q6, .int pr, .int gr, .int kd, .long (w1 + 1), .ref q11, .int mk, .long w13, .long w14])), (q3, .inl (cI, 800, .inl m3)), (q5, .inl (cI, 800, .inl m5)), (q6, .inl (cI, 2, .inl (jl [nI n, nI n2]))), (q11, .inl (cI, 24, .inl (jl [nI e0, t1, t2, t3, t4, t5, t6, t7, t8, t9, t10, t11, t12, t13, t14, t15, t16, t17, t18, t19, t20, t21, t22, t23])))] H := hP
          have hD : va_D A [(mo, .inr (6, [.int z0, .ref q1, .int (nI g), .ref q3, .ref q4, .ref q5, .ref q6, .int pr, .int gr, .int kd, .long (w1 + 1), .ref q11, .int mk, .long w13, .long w14])), (q3, .inl (cI, 800, .inl m3)), (q5, .inl (cI, 800, .inl m5)), (q6, .inl (cI, 2, .inl (jl [nI n, nI n2]))), (q11, .inl (cI, 24, .inl (jl [nI e0, t1, t2, t3, t4, t5, t6, t7, t8, t9, t10, t11, t12, t13, t14, t15, t16, t17, t18, t19, t20, t21, t22, t23])))] := hD
          refine lv_aload_n hx hb dX6_goes_88 rfl (lv_at hl 0 rfl) ?_
          refine va_get (D := D) (ci := 6) (v := .ref q11) (C := RX6) (T := TX6) (N := 15) hx hb hts (by decide +kernel) hown hK hP 0 rfl rfl 11 (by decide) (hts (.fieldLink RX6 25 "JoinDeskModel" "at" "[I") (by decide +kernel)) (fun _ h9 => h9) rfl dX6_goes_89 ?_
          refine lv_iconst (v := 2) hx hb dX6_goes_92 (by decide) ?_
          refine lv_iload_n hx hb dX6_goes_93 rfl (lv_at hl 1 rfl) ?_
          refine lv_iadd hx hb dX6_goes_94 ?_
          refine lv_topi (fun z_8 e_z_8 => ?_)
          obtain rfl : z_8 = 2 := e_z_8.trans (by decide)
          refine lv_iload_n hx hb dX6_goes_95 rfl (lv_at hl 2 rfl) ?_
          refine va_iast hx hb hK hP hD hS 4 0 rfl rfl (by unfold vp_in; decide) dX6_goes_96 (fun H locs hP hD hS => ?_)
          rw [jl_upd (show (2 : Int32).toNatClampNeg = 2 by decide) (Nat.le_of_ble_eq_true rfl)] at hP hD
          have hP : va_P D vwCl [(mo, .inr (6, [.int z0, .ref q1, .int (nI g), .ref q3, .ref q4, .ref q5, .ref q6, .int pr, .int gr, .int kd, .long (w1 + 1), .ref q11, .int mk, .long w13, .long w14])), (q3, .inl (cI, 800, .inl m3)), (q5, .inl (cI, 800, .inl m5)), (q6, .inl (cI, 2, .inl (jl [nI n, nI n2]))), (q11, .inl (cI, 24, .inl (jl [nI e0, t1, nI e0, t3, t4, t5, t6, t7, t8, t9, t10, t11, t12, t13, t14, t15, t16, t17, t18, t19, t20, t21, t22, t23])))] H := hP
          have hD : va_D A [(mo, .inr (6, [.int z0, .ref q1, .int (nI g), .ref q3, .ref q4, .ref q5, .ref q6, .int pr, .int gr, .int kd, .long (w1 + 1), .ref q11, .int mk, .long w13, .long w14])), (q3, .inl (cI, 800, .inl m3)), (q5, .inl (cI, 800, .inl m5)), (q6, .inl (cI, 2, .inl (jl [nI n, nI n2]))), (q11, .inl (cI, 24, .inl (jl [nI e0, t1, nI e0, t3, t4, t5, t6, t7, t8, t9, t10, t11, t12, t13, t14, t15, t16, t17, t18, t19, t20, t21, t22, t23])))] := hD
          refine lv_aload_n hx hb dX6_goes_97 rfl (lv_at hl 0 rfl) ?_
          refine va_get (D := D) (ci := 6) (v := .ref q11) (C := RX6) (T := TX6) (N := 15) hx hb hts (by decide +kernel) hown hK hP 0 rfl rfl 11 (by decide) (hts (.fieldLink RX6 25 "JoinDeskModel" "at" "[I") (by decide +kernel)) (fun _ h9 => h9) rfl dX6_goes_98 ?_
          refine lv_iconst (v := 4) hx hb dX6_goes_101 (by decide) ?_
          refine lv_iload_n hx hb dX6_goes_102 rfl (lv_at hl 1 rfl) ?_
          refine lv_iadd hx hb dX6_goes_103 ?_
          refine lv_topi (fun z_9 e_z_9 => ?_)
          obtain rfl : z_9 = 4 := e_z_9.trans (by decide)
          refine lv_iload_n hx hb dX6_goes_104 rfl (lv_at hl 3 rfl) ?_
          refine va_iast hx hb hK hP hD hS 4 0 rfl rfl (by unfold vp_in; decide) dX6_goes_105 (fun H locs hP hD hS => ?_)
          rw [jl_upd (show (4 : Int32).toNatClampNeg = 4 by decide) (Nat.le_of_ble_eq_true rfl)] at hP hD
          have hP : va_P D vwCl [(mo, .inr (6, [.int z0, .ref q1, .int (nI g), .ref q3, .ref q4, .ref q5, .ref q6, .int pr, .int gr, .int kd, .long (w1 + 1), .ref q11, .int mk, .long w13, .long w14])), (q3, .inl (cI, 800, .inl m3)), (q5, .inl (cI, 800, .inl m5)), (q6, .inl (cI, 2, .inl (jl [nI n, nI n2]))), (q11, .inl (cI, 24, .inl (jl [nI e0, t1, nI e0, t3, nI i, t5, t6, t7, t8, t9, t10, t11, t12, t13, t14, t15, t16, t17, t18, t19, t20, t21, t22, t23])))] H := hP
          have hD : va_D A [(mo, .inr (6, [.int z0, .ref q1, .int (nI g), .ref q3, .ref q4, .ref q5, .ref q6, .int pr, .int gr, .int kd, .long (w1 + 1), .ref q11, .int mk, .long w13, .long w14])), (q3, .inl (cI, 800, .inl m3)), (q5, .inl (cI, 800, .inl m5)), (q6, .inl (cI, 2, .inl (jl [nI n, nI n2]))), (q11, .inl (cI, 24, .inl (jl [nI e0, t1, nI e0, t3, nI i, t5, t6, t7, t8, t9, t10, t11, t12, t13, t14, t15, t16, t17, t18, t19, t20, t21, t22, t23])))] := hD
          refine lv_aload_n hx hb dX6_goes_106 rfl (lv_at hl 0 rfl) ?_
          refine va_get (D := D) (ci := 6) (v := .ref q11) (C := RX6) (T := TX6) (N := 15) hx hb hts (by decide +kernel) hown hK hP 0 rfl rfl 11 (by decide) (hts (.fieldLink RX6 25 "JoinDeskModel" "at" "[I") (by decide +kernel)) (fun _ h9 => h9) rfl dX6_goes_107 ?_
          refine lv_bipush (v := 6) hx hb dX6_goes_110 (by decide) ?_
          refine lv_iload_n hx hb dX6_goes_112 rfl (lv_at hl 1 rfl) ?_
          refine lv_iadd hx hb dX6_goes_113 ?_
          refine lv_topi (fun z_10 e_z_10 => ?_)
          obtain rfl : z_10 = 6 := e_z_10.trans (by decide)
          refine lv_iload_n hx hb dX6_goes_114 rfl (lv_at hl 2 rfl) ?_
          refine va_iast hx hb hK hP hD hS 4 0 rfl rfl (by unfold vp_in; decide) dX6_goes_115 (fun H locs hP hD hS => ?_)
          rw [jl_upd (show (6 : Int32).toNatClampNeg = 6 by decide) (Nat.le_of_ble_eq_true rfl)] at hP hD
          have hP : va_P D vwCl [(mo, .inr (6, [.int z0, .ref q1, .int (nI g), .ref q3, .ref q4, .ref q5, .ref q6, .int pr, .int gr, .int kd, .long (w1 + 1), .ref q11, .int mk, .long w13, .long w14])), (q3, .inl (cI, 800, .inl m3)), (q5, .inl (cI, 800, .inl m5)), (q6, .inl (cI, 2, .inl (jl [nI n, nI n2]))), (q11, .inl (cI, 24, .inl (jl [nI e0, t1, nI e0, t3, nI i, t5, nI e0, t7, t8, t9, t10, t11, t12, t13, t14, t15, t16, t17, t18, t19, t20, t21, t22, t23])))] H := hP
          have hD : va_D A [(mo, .inr (6, [.int z0, .ref q1, .int (nI g), .ref q3, .ref q4, .ref q5, .ref q6, .int pr, .int gr, .int kd, .long (w1 + 1), .ref q11, .int mk, .long w13, .long w14])), (q3, .inl (cI, 800, .inl m3)), (q5, .inl (cI, 800, .inl m5)), (q6, .inl (cI, 2, .inl (jl [nI n, nI n2]))), (q11, .inl (cI, 24, .inl (jl [nI e0, t1, nI e0, t3, nI i, t5, nI e0, t7, t8, t9, t10, t11, t12, t13, t14, t15, t16, t17, t18, t19, t20, t21, t22, t23])))] := hD
          refine lv_aload_n hx hb dX6_goes_116 rfl (lv_at hl 0 rfl) ?_
          refine va_get (D := D) (ci := 6) (v := .ref q11) (C := RX6) (T := TX6) (N := 15) hx hb hts (by decide +kernel) hown hK hP 0 rfl rfl 11 (by decide) (hts (.fieldLink RX6 25 "JoinDeskModel" "at" "[I") (by decide +kernel)) (fun _ h9 => h9) rfl dX6_goes_117 ?_
          refine lv_iconst (v := 0) hx hb dX6_goes_120 (by decide) ?_
          refine lv_iload_n hx hb dX6_goes_121 rfl (lv_at hl 1 rfl) ?_
          refine lv_iadd hx hb dX6_goes_122 ?_
          refine lv_topi (fun z_11 e_z_11 => ?_)
          obtain rfl : z_11 = 0 := e_z_11.trans (by decide)
          refine lv_iload_n hx hb dX6_goes_123 rfl (lv_at hl 3 rfl) ?_
          refine va_iast hx hb hK hP hD hS 4 0 rfl rfl (by unfold vp_in; decide) dX6_goes_124 (fun H locs hP hD hS => ?_)
          rw [jl_upd (show (0 : Int32).toNatClampNeg = 0 by decide) (Nat.le_of_ble_eq_true rfl)] at hP hD
          have hP : va_P D vwCl [(mo, .inr (6, [.int z0, .ref q1, .int (nI g), .ref q3, .ref q4, .ref q5, .ref q6, .int pr, .int gr, .int kd, .long (w1 + 1), .ref q11, .int mk, .long w13, .long w14])), (q3, .inl (cI, 800, .inl m3)), (q5, .inl (cI, 800, .inl m5)), (q6, .inl (cI, 2, .inl (jl [nI n, nI n2]))), (q11, .inl (cI, 24, .inl (jl [nI i, t1, nI e0, t3, nI i, t5, nI e0, t7, t8, t9, t10, t11, t12, t13, t14, t15, t16, t17, t18, t19, t20, t21, t22, t23])))] H := hP
          have hD : va_D A [(mo, .inr (6, [.int z0, .ref q1, .int (nI g), .ref q3, .ref q4, .ref q5, .ref q6, .int pr, .int gr, .int kd, .long (w1 + 1), .ref q11, .int mk, .long w13, .long w14])), (q3, .inl (cI, 800, .inl m3)), (q5, .inl (cI, 800, .inl m5)), (q6, .inl (cI, 2, .inl (jl [nI n, nI n2]))), (q11, .inl (cI, 24, .inl (jl [nI i, t1, nI e0, t3, nI i, t5, nI e0, t7, t8, t9, t10, t11, t12, t13, t14, t15, t16, t17, t18, t19, t20, t21, t22, t23])))] := hD
          refine W.widen (k := 0) (n := 0) (by omega) (by omega) ?_
          exact W.vret hx hb hr (fun t ht hW => ⟨⟨[(mo, .inr (6, [.int z0, .ref q1, .int (nI g), .ref q3, .ref q4, .ref q5, .ref q6, .int pr, .int gr, .int kd, .long (w1 + 1), .ref q11, .int mk, .long w13, .long w14])), (q3, .inl (cI, 800, .inl m3)), (q5, .inl (cI, 800, .inl m5)), (q6, .inl (cI, 2, .inl (jl [nI n, nI n2]))), (q11, .inl (cI, 24, .inl (jl [nI i, t1, nI e0, t3, nI i, t5, nI e0, t7, t8, t9, t10, t11, t12, t13, t14, t15, t16, t17, t18, t19, t20, t21, t22, t23])))], rfl, (⟨_, _, rfl, by assumption, by assumption⟩), by rw [ht]; exact hP, hD⟩, hS.F ht⟩) hS.2.2 dX6_goes_125
      · refine lv_aload_n hx hb dX6_goes_33 rfl (lv_at hl 0 rfl) ?_
        refine lv_iload_n hx hb dX6_goes_34 rfl (lv_at hl 1 rfl) ?_
        refine lv_iload_n hx hb dX6_goes_35 rfl (lv_at hl 3 rfl) ?_
        refine vp_callSi (va_Run.run (va_runV (As := [.int 0, .int (nI i)]) (rest := []) ⟨hx, hb, hml, hown, hts⟩ (gM_key_0 l D cI cL cQ mo g q1 q3 q4 q5 q6 q11 z0 pr gr kd mk w1 w13 w14 m3 m5 i (by first | assumption | decide | omega) (by rw [nI_leI (by omega) (by omega)] at cge; omega)) (cwV 2 hts gX6_goes_X6_key rfl rfl rfl (by decide +kernel) ⟨Nat.le_of_ble_eq_true rfl, Nat.le_of_ble_eq_true rfl⟩) (jr_V hK hN hP [0, 1, 2] rfl 6 0 rfl rfl rfl) rfl rfl hl.1 rfl (lv_room (Nat.le_of_ble_eq_true rfl)) dX6_goes_36 ⟨Nat.le_of_ble_eq_true rfl, Nat.le_of_ble_eq_true rfl⟩)) (fun r f_12 => ?_)
        obtain rfl := f_12
        refine lv_aload_n hx hb dX6_goes_39 rfl (lv_at hl 0 rfl) ?_
        refine lv_iload_n hx hb dX6_goes_40 rfl (lv_at hl 1 rfl) ?_
        refine lv_iload_n hx hb dX6_goes_41 rfl (lv_at hl 2 rfl) ?_
        refine vp_callSi (va_Run.run (va_runV (As := [.int 0, .int (nI e0)]) (rest := [.int (jmk 0 m3 m5 i)]) ⟨hx, hb, hml, hown, hts⟩ (gM_key_0 l D cI cL cQ mo g q1 q3 q4 q5 q6 q11 z0 pr gr kd mk w1 w13 w14 m3 m5 e0 (by first | assumption | decide | omega) (by omega)) (cwV 2 hts gX6_goes_X6_key rfl rfl rfl (by decide +kernel) ⟨Nat.le_of_ble_eq_true rfl, Nat.le_of_ble_eq_true rfl⟩) (jr_V hK hN hP [0, 1, 2] rfl 6 0 rfl rfl rfl) rfl rfl hl.1 rfl (lv_room (Nat.le_of_ble_eq_true rfl)) dX6_goes_42 ⟨Nat.le_of_ble_eq_true rfl, Nat.le_of_ble_eq_true rfl⟩)) (fun r f_13 => ?_)
        obtain rfl := f_13
        refine lv_icmp_ne (tgt := 64) hx hb dX6_goes_45 (by decide) (fun c_14 => ?_) (fun c_14 => ?_)
        · refine lv_aload_n hx hb dX6_goes_64 rfl (lv_at hl 0 rfl) ?_
          refine lv_dup hx hb dX6_goes_65 rfl ?_
          refine va_get (D := D) (ci := 6) (v := .long w1) (C := RX6) (T := TX6) (N := 15) hx hb hts (by decide +kernel) hown hK hP 0 rfl rfl 10 (by decide) (hts (.fieldLink RX6 53 "JoinDeskModel" "cells" "J") (by decide +kernel)) (fun _ h9 => h9) rfl dX6_goes_66 ?_
          refine lv_iload_n hx hb dX6_goes_69 rfl (lv_at hl 3 rfl) ?_
          refine lv_aload_n hx hb dX6_goes_70 rfl (lv_at hl 0 rfl) ?_
          refine va_get (D := D) (ci := 6) (v := .ref q6) (C := RX6) (T := TX6) (N := 15) hx hb hts (by decide +kernel) hown hK hP 0 rfl rfl 6 (by decide) (hts (.fieldLink RX6 22 "JoinDeskModel" "many" "[I") (by decide +kernel)) (fun _ h9 => h9) rfl dX6_goes_71 ?_
          refine lv_iload_n hx hb dX6_goes_74 rfl (lv_at hl 1 rfl) ?_
          refine va_iald hx hb hK hP 3 0 rfl rfl (by unfold vp_in; decide) dX6_goes_75 ?_
          refine W.eq (g2 := F0 m 76 ls [.int (nI n), .int (nI i), .long w1, .ref mo]) rfl ?_
          refine lv_icmp_ge (tgt := 83) hx hb dX6_goes_76 (by decide) (fun c_15 => ?_) (fun c_15 => ?_)
          · refine lv_lconst (v := 0) hx hb dX6_goes_83 (by decide) ?_
            refine lv_ladd hx hb dX6_goes_84 ?_
            refine va_put (D := D) (ci := 6) (v := .long (w1 + 0)) (ty := .long) (C := RX6) (T := TX6) (N := 15) hx hb hts (by decide +kernel) tyX6 tyX6_ok nmX6 hown hK hP hD hS 0 rfl rfl 10 (by decide) (hts (.fieldLink RX6 53 "JoinDeskModel" "cells" "J") (by decide +kernel)) (fun _ h9 => h9) rfl (by decide +kernel) rfl rfl (Nat.le_of_ble_eq_true rfl) dX6_goes_85 (fun H locs hP hD hS => ?_)
            have hP : va_P D vwCl [(mo, .inr (6, [.int z0, .ref q1, .int (nI g), .ref q3, .ref q4, .ref q5, .ref q6, .int pr, .int gr, .int kd, .long (w1 + 0), .ref q11, .int mk, .long w13, .long w14])), (q3, .inl (cI, 800, .inl m3)), (q5, .inl (cI, 800, .inl m5)), (q6, .inl (cI, 2, .inl (jl [nI n, nI n2]))), (q11, .inl (cI, 24, .inl (jl [nI e0, t1, t2, t3, t4, t5, t6, t7, t8, t9, t10, t11, t12, t13, t14, t15, t16, t17, t18, t19, t20, t21, t22, t23])))] H := hP
            have hD : va_D A [(mo, .inr (6, [.int z0, .ref q1, .int (nI g), .ref q3, .ref q4, .ref q5, .ref q6, .int pr, .int gr, .int kd, .long (w1 + 0), .ref q11, .int mk, .long w13, .long w14])), (q3, .inl (cI, 800, .inl m3)), (q5, .inl (cI, 800, .inl m5)), (q6, .inl (cI, 2, .inl (jl [nI n, nI n2]))), (q11, .inl (cI, 24, .inl (jl [nI e0, t1, t2, t3, t4, t5, t6, t7, t8, t9, t10, t11, t12, t13, t14, t15, t16, t17, t18, t19, t20, t21, t22, t23])))] := hD
            refine lv_aload_n hx hb dX6_goes_88 rfl (lv_at hl 0 rfl) ?_
            refine va_get (D := D) (ci := 6) (v := .ref q11) (C := RX6) (T := TX6) (N := 15) hx hb hts (by decide +kernel) hown hK hP 0 rfl rfl 11 (by decide) (hts (.fieldLink RX6 25 "JoinDeskModel" "at" "[I") (by decide +kernel)) (fun _ h9 => h9) rfl dX6_goes_89 ?_
            refine lv_iconst (v := 2) hx hb dX6_goes_92 (by decide) ?_
            refine lv_iload_n hx hb dX6_goes_93 rfl (lv_at hl 1 rfl) ?_
            refine lv_iadd hx hb dX6_goes_94 ?_
            refine lv_topi (fun z_16 e_z_16 => ?_)
            obtain rfl : z_16 = 2 := e_z_16.trans (by decide)
            refine lv_iload_n hx hb dX6_goes_95 rfl (lv_at hl 2 rfl) ?_
            refine va_iast hx hb hK hP hD hS 4 0 rfl rfl (by unfold vp_in; decide) dX6_goes_96 (fun H locs hP hD hS => ?_)
            rw [jl_upd (show (2 : Int32).toNatClampNeg = 2 by decide) (Nat.le_of_ble_eq_true rfl)] at hP hD
            have hP : va_P D vwCl [(mo, .inr (6, [.int z0, .ref q1, .int (nI g), .ref q3, .ref q4, .ref q5, .ref q6, .int pr, .int gr, .int kd, .long (w1 + 0), .ref q11, .int mk, .long w13, .long w14])), (q3, .inl (cI, 800, .inl m3)), (q5, .inl (cI, 800, .inl m5)), (q6, .inl (cI, 2, .inl (jl [nI n, nI n2]))), (q11, .inl (cI, 24, .inl (jl [nI e0, t1, nI e0, t3, t4, t5, t6, t7, t8, t9, t10, t11, t12, t13, t14, t15, t16, t17, t18, t19, t20, t21, t22, t23])))] H := hP
            have hD : va_D A [(mo, .inr (6, [.int z0, .ref q1, .int (nI g), .ref q3, .ref q4, .ref q5, .ref q6, .int pr, .int gr, .int kd, .long (w1 + 0), .ref q11, .int mk, .long w13, .long w14])), (q3, .inl (cI, 800, .inl m3)), (q5, .inl (cI, 800, .inl m5)), (q6, .inl (cI, 2, .inl (jl [nI n, nI n2]))), (q11, .inl (cI, 24, .inl (jl [nI e0, t1, nI e0, t3, t4, t5, t6, t7, t8, t9, t10, t11, t12, t13, t14, t15, t16, t17, t18, t19, t20, t21, t22, t23])))] := hD
            refine lv_aload_n hx hb dX6_goes_97 rfl (lv_at hl 0 rfl) ?_
            refine va_get (D := D) (ci := 6) (v := .ref q11) (C := RX6) (T := TX6) (N := 15) hx hb hts (by decide +kernel) hown hK hP 0 rfl rfl 11 (by decide) (hts (.fieldLink RX6 25 "JoinDeskModel" "at" "[I") (by decide +kernel)) (fun _ h9 => h9) rfl dX6_goes_98 ?_
            refine lv_iconst (v := 4) hx hb dX6_goes_101 (by decide) ?_
            refine lv_iload_n hx hb dX6_goes_102 rfl (lv_at hl 1 rfl) ?_
            refine lv_iadd hx hb dX6_goes_103 ?_
            refine lv_topi (fun z_17 e_z_17 => ?_)
            obtain rfl : z_17 = 4 := e_z_17.trans (by decide)
            refine lv_iload_n hx hb dX6_goes_104 rfl (lv_at hl 3 rfl) ?_
            refine va_iast hx hb hK hP hD hS 4 0 rfl rfl (by unfold vp_in; decide) dX6_goes_105 (fun H locs hP hD hS => ?_)
            rw [jl_upd (show (4 : Int32).toNatClampNeg = 4 by decide) (Nat.le_of_ble_eq_true rfl)] at hP hD
            have hP : va_P D vwCl [(mo, .inr (6, [.int z0, .ref q1, .int (nI g), .ref q3, .ref q4, .ref q5, .ref q6, .int pr, .int gr, .int kd, .long (w1 + 0), .ref q11, .int mk, .long w13, .long w14])), (q3, .inl (cI, 800, .inl m3)), (q5, .inl (cI, 800, .inl m5)), (q6, .inl (cI, 2, .inl (jl [nI n, nI n2]))), (q11, .inl (cI, 24, .inl (jl [nI e0, t1, nI e0, t3, nI i, t5, t6, t7, t8, t9, t10, t11, t12, t13, t14, t15, t16, t17, t18, t19, t20, t21, t22, t23])))] H := hP
            have hD : va_D A [(mo, .inr (6, [.int z0, .ref q1, .int (nI g), .ref q3, .ref q4, .ref q5, .ref q6, .int pr, .int gr, .int kd, .long (w1 + 0), .ref q11, .int mk, .long w13, .long w14])), (q3, .inl (cI, 800, .inl m3)), (q5, .inl (cI, 800, .inl m5)), (q6, .inl (cI, 2, .inl (jl [nI n, nI n2]))), (q11, .inl (cI, 24, .inl (jl [nI e0, t1, nI e0, t3, nI i, t5, t6, t7, t8, t9, t10, t11, t12, t13, t14, t15, t16, t17, t18, t19, t20, t21, t22, t23])))] := hD
            refine lv_aload_n hx hb dX6_goes_106 rfl (lv_at hl 0 rfl) ?_
            refine va_get (D := D) (ci := 6) (v := .ref q11) (C := RX6) (T := TX6) (N := 15) hx hb hts (by decide +kernel) hown hK hP 0 rfl rfl 11 (by decide) (hts (.fieldLink RX6 25 "JoinDeskModel" "at" "[I") (by decide +kernel)) (fun _ h9 => h9) rfl dX6_goes_107 ?_
            refine lv_bipush (v := 6) hx hb dX6_goes_110 (by decide) ?_
            refine lv_iload_n hx hb dX6_goes_112 rfl (lv_at hl 1 rfl) ?_
            refine lv_iadd hx hb dX6_goes_113 ?_
            refine lv_topi (fun z_18 e_z_18 => ?_)
            obtain rfl : z_18 = 6 := e_z_18.trans (by decide)
            refine lv_iload_n hx hb dX6_goes_114 rfl (lv_at hl 2 rfl) ?_
            refine va_iast hx hb hK hP hD hS 4 0 rfl rfl (by unfold vp_in; decide) dX6_goes_115 (fun H locs hP hD hS => ?_)
            rw [jl_upd (show (6 : Int32).toNatClampNeg = 6 by decide) (Nat.le_of_ble_eq_true rfl)] at hP hD
            have hP : va_P D vwCl [(mo, .inr (6, [.int z0, .ref q1, .int (nI g), .ref q3, .ref q4, .ref q5, .ref q6, .int pr, .int gr, .int kd, .long (w1 + 0), .ref q11, .int mk, .long w13, .long w14])), (q3, .inl (cI, 800, .inl m3)), (q5, .inl (cI, 800, .inl m5)), (q6, .inl (cI, 2, .inl (jl [nI n, nI n2]))), (q11, .inl (cI, 24, .inl (jl [nI e0, t1, nI e0, t3, nI i, t5, nI e0, t7, t8, t9, t10, t11, t12, t13, t14, t15, t16, t17, t18, t19, t20, t21, t22, t23])))] H := hP
            have hD : va_D A [(mo, .inr (6, [.int z0, .ref q1, .int (nI g), .ref q3, .ref q4, .ref q5, .ref q6, .int pr, .int gr, .int kd, .long (w1 + 0), .ref q11, .int mk, .long w13, .long w14])), (q3, .inl (cI, 800, .inl m3)), (q5, .inl (cI, 800, .inl m5)), (q6, .inl (cI, 2, .inl (jl [nI n, nI n2]))), (q11, .inl (cI, 24, .inl (jl [nI e0, t1, nI e0, t3, nI i, t5, nI e0, t7, t8, t9, t10, t11, t12, t13, t14, t15, t16, t17, t18, t19, t20, t21, t22, t23])))] := hD
            refine lv_aload_n hx hb dX6_goes_116 rfl (lv_at hl 0 rfl) ?_
            refine va_get (D := D) (ci := 6) (v := .ref q11) (C := RX6) (T := TX6) (N := 15) hx hb hts (by decide +kernel) hown hK hP 0 rfl rfl 11 (by decide) (hts (.fieldLink RX6 25 "JoinDeskModel" "at" "[I") (by decide +kernel)) (fun _ h9 => h9) rfl dX6_goes_117 ?_
            refine lv_iconst (v := 0) hx hb dX6_goes_120 (by decide) ?_
            refine lv_iload_n hx hb dX6_goes_121 rfl (lv_at hl 1 rfl) ?_
            refine lv_iadd hx hb dX6_goes_122 ?_
            refine lv_topi (fun z_19 e_z_19 => ?_)
            obtain rfl : z_19 = 0 := e_z_19.trans (by decide)
            refine lv_iload_n hx hb dX6_goes_123 rfl (lv_at hl 3 rfl) ?_
            refine va_iast hx hb hK hP hD hS 4 0 rfl rfl (by unfold vp_in; decide) dX6_goes_124 (fun H locs hP hD hS => ?_)
            rw [jl_upd (show (0 : Int32).toNatClampNeg = 0 by decide) (Nat.le_of_ble_eq_true rfl)] at hP hD
            have hP : va_P D vwCl [(mo, .inr (6, [.int z0, .ref q1, .int (nI g), .ref q3, .ref q4, .ref q5, .ref q6, .int pr, .int gr, .int kd, .long (w1 + 0), .ref q11, .int mk, .long w13, .long w14])), (q3, .inl (cI, 800, .inl m3)), (q5, .inl (cI, 800, .inl m5)), (q6, .inl (cI, 2, .inl (jl [nI n, nI n2]))), (q11, .inl (cI, 24, .inl (jl [nI i, t1, nI e0, t3, nI i, t5, nI e0, t7, t8, t9, t10, t11, t12, t13, t14, t15, t16, t17, t18, t19, t20, t21, t22, t23])))] H := hP
            have hD : va_D A [(mo, .inr (6, [.int z0, .ref q1, .int (nI g), .ref q3, .ref q4, .ref q5, .ref q6, .int pr, .int gr, .int kd, .long (w1 + 0), .ref q11, .int mk, .long w13, .long w14])), (q3, .inl (cI, 800, .inl m3)), (q5, .inl (cI, 800, .inl m5)), (q6, .inl (cI, 2, .inl (jl [nI n, nI n2]))), (q11, .inl (cI, 24, .inl (jl [nI i, t1, nI e0, t3, nI i, t5, nI e0, t7, t8, t9, t10, t11, t12, t13, t14, t15, t16, t17, t18, t19, t20, t21, t22, t23])))] := hD
            refine W.widen (k := 0) (n := 0) (by omega) (by omega) ?_
            exact W.vret hx hb hr (fun t ht hW => ⟨⟨[(mo, .inr (6, [.int z0, .ref q1, .int (nI g), .ref q3, .ref q4, .ref q5, .ref q6, .int pr, .int gr, .int kd, .long (w1 + 0), .ref q11, .int mk, .long w13, .long w14])), (q3, .inl (cI, 800, .inl m3)), (q5, .inl (cI, 800, .inl m5)), (q6, .inl (cI, 2, .inl (jl [nI n, nI n2]))), (q11, .inl (cI, 24, .inl (jl [nI i, t1, nI e0, t3, nI i, t5, nI e0, t7, t8, t9, t10, t11, t12, t13, t14, t15, t16, t17, t18, t19, t20, t21, t22, t23])))], rfl, (⟨_, _, rfl, by assumption, by assumption⟩), by rw [ht]; exact hP, hD⟩, hS.F ht⟩) hS.2.2 dX6_goes_125
          · refine lv_lconst (v := 1) hx hb dX6_goes_79 (by decide) ?_
            refine lv_goto (tgt := 84) hx hb dX6_goes_80 (by decide) ?_
            refine lv_ladd hx hb dX6_goes_84 ?_
            refine va_put (D := D) (ci := 6) (v := .long (w1 + 1)) (ty := .long) (C := RX6) (T := TX6) (N := 15) hx hb hts (by decide +kernel) tyX6 tyX6_ok nmX6 hown hK hP hD hS 0 rfl rfl 10 (by decide) (hts (.fieldLink RX6 53 "JoinDeskModel" "cells" "J") (by decide +kernel)) (fun _ h9 => h9) rfl (by decide +kernel) rfl rfl (Nat.le_of_ble_eq_true rfl) dX6_goes_85 (fun H locs hP hD hS => ?_)
            have hP : va_P D vwCl [(mo, .inr (6, [.int z0, .ref q1, .int (nI g), .ref q3, .ref q4, .ref q5, .ref q6, .int pr, .int gr, .int kd, .long (w1 + 1), .ref q11, .int mk, .long w13, .long w14])), (q3, .inl (cI, 800, .inl m3)), (q5, .inl (cI, 800, .inl m5)), (q6, .inl (cI, 2, .inl (jl [nI n, nI n2]))), (q11, .inl (cI, 24, .inl (jl [nI e0, t1, t2, t3, t4, t5, t6, t7, t8, t9, t10, t11, t12, t13, t14, t15, t16, t17, t18, t19, t20, t21, t22, t23])))] H := hP
            have hD : va_D A [(mo, .inr (6, [.int z0, .ref q1, .int (nI g), .ref q3, .ref q4, .ref q5, .ref q6, .int pr, .int gr, .int kd, .long (w1 + 1), .ref q11, .int mk, .long w13, .long w14])), (q3, .inl (cI, 800, .inl m3)), (q5, .inl (cI, 800, .inl m5)), (q6, .inl (cI, 2, .inl (jl [nI n, nI n2]))), (q11, .inl (cI, 24, .inl (jl [nI e0, t1, t2, t3, t4, t5, t6, t7, t8, t9, t10, t11, t12, t13, t14, t15, t16, t17, t18, t19, t20, t21, t22, t23])))] := hD
            refine lv_aload_n hx hb dX6_goes_88 rfl (lv_at hl 0 rfl) ?_
            refine va_get (D := D) (ci := 6) (v := .ref q11) (C := RX6) (T := TX6) (N := 15) hx hb hts (by decide +kernel) hown hK hP 0 rfl rfl 11 (by decide) (hts (.fieldLink RX6 25 "JoinDeskModel" "at" "[I") (by decide +kernel)) (fun _ h9 => h9) rfl dX6_goes_89 ?_
            refine lv_iconst (v := 2) hx hb dX6_goes_92 (by decide) ?_
            refine lv_iload_n hx hb dX6_goes_93 rfl (lv_at hl 1 rfl) ?_
            refine lv_iadd hx hb dX6_goes_94 ?_
            refine lv_topi (fun z_20 e_z_20 => ?_)
            obtain rfl : z_20 = 2 := e_z_20.trans (by decide)
            refine lv_iload_n hx hb dX6_goes_95 rfl (lv_at hl 2 rfl) ?_
            refine va_iast hx hb hK hP hD hS 4 0 rfl rfl (by unfold vp_in; decide) dX6_goes_96 (fun H locs hP hD hS => ?_)
            rw [jl_upd (show (2 : Int32).toNatClampNeg = 2 by decide) (Nat.le_of_ble_eq_true rfl)] at hP hD
            have hP : va_P D vwCl [(mo, .inr (6, [.int z0, .ref q1, .int (nI g), .ref q3, .ref q4, .ref q5, .ref q6, .int pr, .int gr, .int kd, .long (w1 + 1), .ref q11, .int mk, .long w13, .long w14])), (q3, .inl (cI, 800, .inl m3)), (q5, .inl (cI, 800, .inl m5)), (q6, .inl (cI, 2, .inl (jl [nI n, nI n2]))), (q11, .inl (cI, 24, .inl (jl [nI e0, t1, nI e0, t3, t4, t5, t6, t7, t8, t9, t10, t11, t12, t13, t14, t15, t16, t17, t18, t19, t20, t21, t22, t23])))] H := hP
            have hD : va_D A [(mo, .inr (6, [.int z0, .ref q1, .int (nI g), .ref q3, .ref q4, .ref q5, .ref q6, .int pr, .int gr, .int kd, .long (w1 + 1), .ref q11, .int mk, .long w13, .long w14])), (q3, .inl (cI, 800, .inl m3)), (q5, .inl (cI, 800, .inl m5)), (q6, .inl (cI, 2, .inl (jl [nI n, nI n2]))), (q11, .inl (cI, 24, .inl (jl [nI e0, t1, nI e0, t3, t4, t5, t6, t7, t8, t9, t10, t11, t12, t13, t14, t15, t16, t17, t18, t19, t20, t21, t22, t23])))] := hD
            refine lv_aload_n hx hb dX6_goes_97 rfl (lv_at hl 0 rfl) ?_
            refine va_get (D := D) (ci := 6) (v := .ref q11) (C := RX6) (T := TX6) (N := 15) hx hb hts (by decide +kernel) hown hK hP 0 rfl rfl 11 (by decide) (hts (.fieldLink RX6 25 "JoinDeskModel" "at" "[I") (by decide +kernel)) (fun _ h9 => h9) rfl dX6_goes_98 ?_
            refine lv_iconst (v := 4) hx hb dX6_goes_101 (by decide) ?_
            refine lv_iload_n hx hb dX6_goes_102 rfl (lv_at hl 1 rfl) ?_
            refine lv_iadd hx hb dX6_goes_103 ?_
            refine lv_topi (fun z_21 e_z_21 => ?_)
            obtain rfl : z_21 = 4 := e_z_21.trans (by decide)
            refine lv_iload_n hx hb dX6_goes_104 rfl (lv_at hl 3 rfl) ?_
            refine va_iast hx hb hK hP hD hS 4 0 rfl rfl (by unfold vp_in; decide) dX6_goes_105 (fun H locs hP hD hS => ?_)
            rw [jl_upd (show (4 : Int32).toNatClampNeg = 4 by decide) (Nat.le_of_ble_eq_true rfl)] at hP hD
            have hP : va_P D vwCl [(mo, .inr (6, [.int z0, .ref q1, .int (nI g), .ref q3, .ref q4, .ref q5, .ref q6, .int pr, .int gr, .int kd, .long (w1 + 1), .ref q11, .int mk, .long w13, .long w14])), (q3, .inl (cI, 800, .inl m3)), (q5, .inl (cI, 800, .inl m5)), (q6, .inl (cI, 2, .inl (jl [nI n, nI n2]))), (q11, .inl (cI, 24, .inl (jl [nI e0, t1, nI e0, t3, nI i, t5, t6, t7, t8, t9, t10, t11, t12, t13, t14, t15, t16, t17, t18, t19, t20, t21, t22, t23])))] H := hP
            have hD : va_D A [(mo, .inr (6, [.int z0, .ref q1, .int (nI g), .ref q3, .ref q4, .ref q5, .ref q6, .int pr, .int gr, .int kd, .long (w1 + 1), .ref q11, .int mk, .long w13, .long w14])), (q3, .inl (cI, 800, .inl m3)), (q5, .inl (cI, 800, .inl m5)), (q6, .inl (cI, 2, .inl (jl [nI n, nI n2]))), (q11, .inl (cI, 24, .inl (jl [nI e0, t1, nI e0, t3, nI i, t5, t6, t7, t8, t9, t10, t11, t12, t13, t14, t15, t16, t17, t18, t19, t20, t21, t22, t23])))] := hD
            refine lv_aload_n hx hb dX6_goes_106 rfl (lv_at hl 0 rfl) ?_
            refine va_get (D := D) (ci := 6) (v := .ref q11) (C := RX6) (T := TX6) (N := 15) hx hb hts (by decide +kernel) hown hK hP 0 rfl rfl 11 (by decide) (hts (.fieldLink RX6 25 "JoinDeskModel" "at" "[I") (by decide +kernel)) (fun _ h9 => h9) rfl dX6_goes_107 ?_
            refine lv_bipush (v := 6) hx hb dX6_goes_110 (by decide) ?_
            refine lv_iload_n hx hb dX6_goes_112 rfl (lv_at hl 1 rfl) ?_
            refine lv_iadd hx hb dX6_goes_113 ?_
            refine lv_topi (fun z_22 e_z_22 => ?_)
            obtain rfl : z_22 = 6 := e_z_22.trans (by decide)
            refine lv_iload_n hx hb dX6_goes_114 rfl (lv_at hl 2 rfl) ?_
            refine va_iast hx hb hK hP hD hS 4 0 rfl rfl (by unfold vp_in; decide) dX6_goes_115 (fun H locs hP hD hS => ?_)
            rw [jl_upd (show (6 : Int32).toNatClampNeg = 6 by decide) (Nat.le_of_ble_eq_true rfl)] at hP hD
            have hP : va_P D vwCl [(mo, .inr (6, [.int z0, .ref q1, .int (nI g), .ref q3, .ref q4, .ref q5, .ref q6, .int pr, .int gr, .int kd, .long (w1 + 1), .ref q11, .int mk, .long w13, .long w14])), (q3, .inl (cI, 800, .inl m3)), (q5, .inl (cI, 800, .inl m5)), (q6, .inl (cI, 2, .inl (jl [nI n, nI n2]))), (q11, .inl (cI, 24, .inl (jl [nI e0, t1, nI e0, t3, nI i, t5, nI e0, t7, t8, t9, t10, t11, t12, t13, t14, t15, t16, t17, t18, t19, t20, t21, t22, t23])))] H := hP
            have hD : va_D A [(mo, .inr (6, [.int z0, .ref q1, .int (nI g), .ref q3, .ref q4, .ref q5, .ref q6, .int pr, .int gr, .int kd, .long (w1 + 1), .ref q11, .int mk, .long w13, .long w14])), (q3, .inl (cI, 800, .inl m3)), (q5, .inl (cI, 800, .inl m5)), (q6, .inl (cI, 2, .inl (jl [nI n, nI n2]))), (q11, .inl (cI, 24, .inl (jl [nI e0, t1, nI e0, t3, nI i, t5, nI e0, t7, t8, t9, t10, t11, t12, t13, t14, t15, t16, t17, t18, t19, t20, t21, t22, t23])))] := hD
            refine lv_aload_n hx hb dX6_goes_116 rfl (lv_at hl 0 rfl) ?_
            refine va_get (D := D) (ci := 6) (v := .ref q11) (C := RX6) (T := TX6) (N := 15) hx hb hts (by decide +kernel) hown hK hP 0 rfl rfl 11 (by decide) (hts (.fieldLink RX6 25 "JoinDeskModel" "at" "[I") (by decide +kernel)) (fun _ h9 => h9) rfl dX6_goes_117 ?_
            refine lv_iconst (v := 0) hx hb dX6_goes_120 (by decide) ?_
            refine lv_iload_n hx hb dX6_goes_121 rfl (lv_at hl 1 rfl) ?_
            refine lv_iadd hx hb dX6_goes_122 ?_
            refine lv_topi (fun z_23 e_z_23 => ?_)
            obtain rfl : z_23 = 0 := e_z_23.trans (by decide)
            refine lv_iload_n hx hb dX6_goes_123 rfl (lv_at hl 3 rfl) ?_
            refine va_iast hx hb hK hP hD hS 4 0 rfl rfl (by unfold vp_in; decide) dX6_goes_124 (fun H locs hP hD hS => ?_)
            rw [jl_upd (show (0 : Int32).toNatClampNeg = 0 by decide) (Nat.le_of_ble_eq_true rfl)] at hP hD
            have hP : va_P D vwCl [(mo, .inr (6, [.int z0, .ref q1, .int (nI g), .ref q3, .ref q4, .ref q5, .ref q6, .int pr, .int gr, .int kd, .long (w1 + 1), .ref q11, .int mk, .long w13, .long w14])), (q3, .inl (cI, 800, .inl m3)), (q5, .inl (cI, 800, .inl m5)), (q6, .inl (cI, 2, .inl (jl [nI n, nI n2]))), (q11, .inl (cI, 24, .inl (jl [nI i, t1, nI e0, t3, nI i, t5, nI e0, t7, t8, t9, t10, t11, t12, t13, t14, t15, t16, t17, t18, t19, t20, t21, t22, t23])))] H := hP
            have hD : va_D A [(mo, .inr (6, [.int z0, .ref q1, .int (nI g), .ref q3, .ref q4, .ref q5, .ref q6, .int pr, .int gr, .int kd, .long (w1 + 1), .ref q11, .int mk, .long w13, .long w14])), (q3, .inl (cI, 800, .inl m3)), (q5, .inl (cI, 800, .inl m5)), (q6, .inl (cI, 2, .inl (jl [nI n, nI n2]))), (q11, .inl (cI, 24, .inl (jl [nI i, t1, nI e0, t3, nI i, t5, nI e0, t7, t8, t9, t10, t11, t12, t13, t14, t15, t16, t17, t18, t19, t20, t21, t22, t23])))] := hD
            refine W.widen (k := 0) (n := 0) (by omega) (by omega) ?_
            exact W.vret hx hb hr (fun t ht hW => ⟨⟨[(mo, .inr (6, [.int z0, .ref q1, .int (nI g), .ref q3, .ref q4, .ref q5, .ref q6, .int pr, .int gr, .int kd, .long (w1 + 1), .ref q11, .int mk, .long w13, .long w14])), (q3, .inl (cI, 800, .inl m3)), (q5, .inl (cI, 800, .inl m5)), (q6, .inl (cI, 2, .inl (jl [nI n, nI n2]))), (q11, .inl (cI, 24, .inl (jl [nI i, t1, nI e0, t3, nI i, t5, nI e0, t7, t8, t9, t10, t11, t12, t13, t14, t15, t16, t17, t18, t19, t20, t21, t22, t23])))], rfl, (⟨_, _, rfl, by assumption, by assumption⟩), by rw [ht]; exact hP, hD⟩, hS.F ht⟩) hS.2.2 dX6_goes_125
        · refine lv_iinc (v := nI (i + 1)) (lv' := [(3, .int (nI (i + 1))), (0, .ref mo), (1, .int 0), (2, .int (nI e0))]) hx hb dX6_goes_48 hl (k := 3) rfl (nI_1 _) (by decide) rfl (fun ls hl => ?_)
          refine lv_aload_n hx hb dX6_goes_51 rfl (lv_at hl 1 rfl) ?_
          refine lv_dup hx hb dX6_goes_52 rfl ?_
          refine va_get (D := D) (ci := 6) (v := .long w1) (C := RX6) (T := TX6) (N := 15) hx hb hts (by decide +kernel) hown hK hP 0 rfl rfl 10 (by decide) (hts (.fieldLink RX6 53 "JoinDeskModel" "cells" "J") (by decide +kernel)) (fun _ h9 => h9) rfl dX6_goes_53 ?_
          refine lv_lconst (v := 1) hx hb dX6_goes_56 (by decide) ?_
          refine lv_ladd hx hb dX6_goes_57 ?_
          refine va_put (D := D) (ci := 6) (v := .long (w1 + 1)) (ty := .long) (C := RX6) (T := TX6) (N := 15) hx hb hts (by decide +kernel) tyX6 tyX6_ok nmX6 hown hK hP hD hS 0 rfl rfl 10 (by decide) (hts (.fieldLink RX6 53 "JoinDeskModel" "cells" "J") (by decide +kernel)) (fun _ h9 => h9) rfl (by decide +kernel) rfl rfl (Nat.le_of_ble_eq_true rfl) dX6_goes_58 (fun H locs hP hD hS => ?_)
          have hP : va_P D vwCl [(mo, .inr (6, [.int z0, .ref q1, .int (nI g), .ref q3, .ref q4, .ref q5, .ref q6, .int pr, .int gr, .int kd, .long (w1 + 1), .ref q11, .int mk, .long w13, .long w14])), (q3, .inl (cI, 800, .inl m3)), (q5, .inl (cI, 800, .inl m5)), (q6, .inl (cI, 2, .inl (jl [nI n, nI n2]))), (q11, .inl (cI, 24, .inl (jl [nI e0, t1, t2, t3, t4, t5, t6, t7, t8, t9, t10, t11, t12, t13, t14, t15, t16, t17, t18, t19, t20, t21, t22, t23])))] H := hP
          have hD : va_D A [(mo, .inr (6, [.int z0, .ref q1, .int (nI g), .ref q3, .ref q4, .ref q5, .ref q6, .int pr, .int gr, .int kd, .long (w1 + 1), .ref q11, .int mk, .long w13, .long w14])), (q3, .inl (cI, 800, .inl m3)), (q5, .inl (cI, 800, .inl m5)), (q6, .inl (cI, 2, .inl (jl [nI n, nI n2]))), (q11, .inl (cI, 24, .inl (jl [nI e0, t1, t2, t3, t4, t5, t6, t7, t8, t9, t10, t11, t12, t13, t14, t15, t16, t17, t18, t19, t20, t21, t22, t23])))] := hD
          refine lv_goto (tgt := 23) hx hb dX6_goes_61 (by decide) ?_
          exact ih_1 (i + 1) (w1 + 1) (by rw [nI_leI (by omega) (by omega)] at cge; omega) (by rw [nI_leI (by omega) (by omega)] at cge; omega) (by omega) _ _ hP hD hS ls (lv_sub hl [1, 2, 3, 0] rfl)
  exact hloop_1 (n - (e0 + 1) + 1) (e0 + 1) (w10 + 1) (Nat.lt_succ_self _) (by omega) (by omega) _ _ hP hD hS ls (lv_sub hl [2, 3, 1, 0] rfl)
set_option maxHeartbeats 1000000 in
set_option maxRecDepth 100000 in
theorem gM_goes_1 (l : Launch) (D : va_G) (cI cL cQ : ClassId) (mo : Nat) (g : Nat) (n : Nat) (n2 : Nat) (q1 : Nat) (q3 : Nat) (q4 : Nat) (q5 : Nat) (q6 : Nat) (q11 : Nat) (z0 : Int32) (pr : Int32) (gr : Int32) (kd : Int32) (mk : Int32) (w10 : Int64) (w13 : Int64) (w14 : Int64) (m3 : Nat → Int32) (m5 : Nat → Int32) (t0 : Int32) (t2 : Int32) (t3 : Int32) (t4 : Int32) (t5 : Int32) (t6 : Int32) (t7 : Int32) (t8 : Int32) (t9 : Int32) (t10 : Int32) (t11 : Int32) (t12 : Int32) (t13 : Int32) (t14 : Int32) (t15 : Int32) (t16 : Int32) (t17 : Int32) (t18 : Int32) (t19 : Int32) (t20 : Int32) (t21 : Int32) (t22 : Int32) (t23 : Int32) (e1 : Nat) (sz : Nat) (hn2 : n2 ≤ 400) (h5 : jo5 m5) (he : e1 < n2) : Met l yX6_goes wsX6_goes ({ frames := 1, cells := 0, slots := 0, locals := 22 }) (jw_P D vwCl (jT cI cL cQ) cL cQ [.ref mo, .int 1] [(mo, .inr (6, [.int z0, .ref q1, .int (nI g), .ref q3, .ref q4, .ref q5, .ref q6, .int pr, .int gr, .int kd, .long w10, .ref q11, .int mk, .long w13, .long w14])), (q3, .inl (cI, 800, .inl m3)), (q5, .inl (cI, 800, .inl m5)), (q6, .inl (cI, 2, .inl (jl [nI n, nI n2]))), (q11, .inl (cI, 24, .inl (jl [t0, nI e1, t2, t3, t4, t5, t6, t7, t8, t9, t10, t11, t12, t13, t14, t15, t16, t17, t18, t19, t20, t21, t22, t23])))] sz) (va_Qv (fun u : va_W => ∃ (to9 : Nat) (w9 : Int64), u = [(mo, .inr (6, [.int z0, .ref q1, .int (nI g), .ref q3, .ref q4, .ref q5, .ref q6, .int pr, .int gr, .int kd, .long w9, .ref q11, .int mk, .long w13, .long w14])), (q3, .inl (cI, 800, .inl m3)), (q5, .inl (cI, 800, .inl m5)), (q6, .inl (cI, 2, .inl (jl [nI n, nI n2]))), (q11, .inl (cI, 24, .inl (jl [t0, nI to9, t2, nI e1, t4, nI to9, t6, nI e1, t8, t9, t10, t11, t12, t13, t14, t15, t16, t17, t18, t19, t20, t21, t22, t23])))] ∧ (e1 < to9) ∧ (to9 ≤ n2)) (jw_B D vwCl (va_A [(mo, .inr (6, [.int z0, .ref q1, .int (nI g), .ref q3, .ref q4, .ref q5, .ref q6, .int pr, .int gr, .int kd, .long w10, .ref q11, .int mk, .long w13, .long w14])), (q3, .inl (cI, 800, .inl m3)), (q5, .inl (cI, 800, .inl m5)), (q6, .inl (cI, 2, .inl (jl [nI n, nI n2]))), (q11, .inl (cI, 24, .inl (jl [t0, nI e1, t2, t3, t4, t5, t6, t7, t8, t9, t10, t11, t12, t13, t14, t15, t16, t17, t18, t19, t20, t21, t22, t23])))] sz) (fun u : va_W => u)) (va_A [(mo, .inr (6, [.int z0, .ref q1, .int (nI g), .ref q3, .ref q4, .ref q5, .ref q6, .int pr, .int gr, .int kd, .long w10, .ref q11, .int mk, .long w13, .long w14])), (q3, .inl (cI, 800, .inl m3)), (q5, .inl (cI, 800, .inl m5)), (q6, .inl (cI, 2, .inl (jl [nI n, nI n2]))), (q11, .inl (cI, 24, .inl (jl [t0, nI e1, t2, t3, t4, t5, t6, t7, t8, t9, t10, t11, t12, t13, t14, t15, t16, t17, t18, t19, t20, t21, t22, t23])))] sz)) 0 0 (va_A [(mo, .inr (6, [.int z0, .ref q1, .int (nI g), .ref q3, .ref q4, .ref q5, .ref q6, .int pr, .int gr, .int kd, .long w10, .ref q11, .int mk, .long w13, .long w14])), (q3, .inl (cI, 800, .inl m3)), (q5, .inl (cI, 800, .inl m5)), (q6, .inl (cI, 2, .inl (jl [nI n, nI n2]))), (q11, .inl (cI, 24, .inl (jl [t0, nI e1, t2, t3, t4, t5, t6, t7, t8, t9, t10, t11, t12, t13, t14, t15, t16, t17, t18, t19, t20, t21, t22, t23])))] sz) := by
  refine Met.ofW (cc := cX6_goes) (maxL := 4) (ret := none) (by decide) rfl ?_
  intro p e s m args below meth c s₁ B hml hv
  obtain ⟨rfl, hsz, hP, hK, hN, hD0⟩ := hv
  have hx := B.exec
  have hb := B.bytes
  have hr := B.returns
  have hts := atoms_spec (ws := wsX6_goes) B.pre
  have hown : s.vm.findClass RX6 = some m.cls := findClass_of_methodNamed B.named
  have hlocks := B.notSynchronized
  subst hsz
  have hD := hD0.self (sz := s.heap.size)
  generalize hAe : va_A [(mo, .inr (6, [.int z0, .ref q1, .int (nI g), .ref q3, .ref q4, .ref q5, .ref q6, .int pr, .int gr, .int kd, .long w10, .ref q11, .int mk, .long w13, .long w14])), (q3, .inl (cI, 800, .inl m3)), (q5, .inl (cI, 800, .inl m5)), (q6, .inl (cI, 2, .inl (jl [nI n, nI n2]))), (q11, .inl (cI, 24, .inl (jl [t0, nI e1, t2, t3, t4, t5, t6, t7, t8, t9, t10, t11, t12, t13, t14, t15, t16, t17, t18, t19, t20, t21, t22, t23])))] s.heap.size = A at hD ⊢
  have hA : ∀ q : Nat, s.heap.size ≤ q → A q := fun q h => by rw [← hAe]; exact Or.inr h
  have hS : va_S A s.heap s.heap [] := va_S.rf
  have hl := lv_entry ([.ref mo, .int 1]) (n := 4) (Nat.le_of_ble_eq_true rfl)
  rw [lg_entry_eq]
  generalize (lg_sl ([.ref mo, .int 1]) ++ List.replicate (4 - (lg_sl ([.ref mo, .int 1])).length) Slot.unset).toArray = ls at hl ⊢
  have hl : lv_has ls 4 [(0, .ref mo), (1, .int 1)] := hl
  refine lv_aload_n hx hb dX6_goes_0 rfl (lv_at hl 0 rfl) ?_
  refine va_get (D := D) (ci := 6) (v := .ref q11) (C := RX6) (T := TX6) (N := 15) hx hb hts (by decide +kernel) hown hK hP 0 rfl rfl 11 (by decide) (hts (.fieldLink RX6 25 "JoinDeskModel" "at" "[I") (by decide +kernel)) (fun _ h9 => h9) rfl dX6_goes_1 ?_
  refine lv_iconst (v := 0) hx hb dX6_goes_4 (by decide) ?_
  refine lv_iload_n hx hb dX6_goes_5 rfl (lv_at hl 1 rfl) ?_
  refine lv_iadd hx hb dX6_goes_6 ?_
  refine lv_topi (fun z_1 e_z_1 => ?_)
  obtain rfl : z_1 = 1 := e_z_1.trans (by decide)
  refine va_iald hx hb hK hP 4 0 rfl rfl (by unfold vp_in; decide) dX6_goes_7 ?_
  refine W.eq (g2 := F0 m 8 ls [.int (nI e1)]) rfl ?_
  refine lv_istore_n (lv' := [(2, .int (nI e1)), (0, .ref mo), (1, .int 1)]) hx hb dX6_goes_8 rfl hl (by decide) rfl (fun ls hl => ?_)
  refine lv_iload_n hx hb dX6_goes_9 rfl (lv_at hl 0 rfl) ?_
  refine lv_iconst (v := 1) hx hb dX6_goes_10 (by decide) ?_
  refine lv_iadd hx hb dX6_goes_11 ?_
  refine lv_topi (fun z_2 e_z_2 => ?_)
  obtain rfl : z_2 = nI (e1 + 1) := e_z_2.trans (nI_add e1 1)
  refine lv_istore_n (lv' := [(3, .int (nI (e1 + 1))), (2, .int (nI e1)), (0, .ref mo), (1, .int 1)]) hx hb dX6_goes_12 rfl hl (by decide) rfl (fun ls hl => ?_)
  refine lv_aload_n hx hb dX6_goes_13 rfl (lv_at hl 2 rfl) ?_
  refine lv_dup hx hb dX6_goes_14 rfl ?_
  refine va_get (D := D) (ci := 6) (v := .long w10) (C := RX6) (T := TX6) (N := 15) hx hb hts (by decide +kernel) hown hK hP 0 rfl rfl 10 (by decide) (hts (.fieldLink RX6 53 "JoinDeskModel" "cells" "J") (by decide +kernel)) (fun _ h9 => h9) rfl dX6_goes_15 ?_
  refine lv_lconst (v := 1) hx hb dX6_goes_18 (by decide) ?_
  refine lv_ladd hx hb dX6_goes_19 ?_
  refine va_put (D := D) (ci := 6) (v := .long (w10 + 1)) (ty := .long) (C := RX6) (T := TX6) (N := 15) hx hb hts (by decide +kernel) tyX6 tyX6_ok nmX6 hown hK hP hD hS 0 rfl rfl 10 (by decide) (hts (.fieldLink RX6 53 "JoinDeskModel" "cells" "J") (by decide +kernel)) (fun _ h9 => h9) rfl (by decide +kernel) rfl rfl (Nat.le_of_ble_eq_true rfl) dX6_goes_20 (fun H locs hP hD hS => ?_)
  have hP : va_P D vwCl [(mo, .inr (6, [.int z0, .ref q1, .int (nI g), .ref q3, .ref q4, .ref q5, .ref q6, .int pr, .int gr, .int kd, .long (w10 + 1), .ref q11, .int mk, .long w13, .long w14])), (q3, .inl (cI, 800, .inl m3)), (q5, .inl (cI, 800, .inl m5)), (q6, .inl (cI, 2, .inl (jl [nI n, nI n2]))), (q11, .inl (cI, 24, .inl (jl [t0, nI e1, t2, t3, t4, t5, t6, t7, t8, t9, t10, t11, t12, t13, t14, t15, t16, t17, t18, t19, t20, t21, t22, t23])))] H := hP
  have hD : va_D A [(mo, .inr (6, [.int z0, .ref q1, .int (nI g), .ref q3, .ref q4, .ref q5, .ref q6, .int pr, .int gr, .int kd, .long (w10 + 1), .ref q11, .int mk, .long w13, .long w14])), (q3, .inl (cI, 800, .inl m3)), (q5, .inl (cI, 800, .inl m5)), (q6, .inl (cI, 2, .inl (jl [nI n, nI n2]))), (q11, .inl (cI, 24, .inl (jl [t0, nI e1, t2, t3, t4, t5, t6, t7, t8, t9, t10, t11, t12, t13, t14, t15, t16, t17, t18, t19, t20, t21, t22, t23])))] := hD
  have hloop_1 : ∀ (k_1 : Nat) (i : Nat) (w1 : Int64), n2 - i < k_1 → (i ≤ n2) → (e1 < i) → ∀ (H : Heap) (locs : List Loc), va_P D vwCl [(mo, .inr (6, [.int z0, .ref q1, .int (nI g), .ref q3, .ref q4, .ref q5, .ref q6, .int pr, .int gr, .int kd, .long w1, .ref q11, .int mk, .long w13, .long w14])), (q3, .inl (cI, 800, .inl m3)), (q5, .inl (cI, 800, .inl m5)), (q6, .inl (cI, 2, .inl (jl [nI n, nI n2]))), (q11, .inl (cI, 24, .inl (jl [t0, nI e1, t2, t3, t4, t5, t6, t7, t8, t9, t10, t11, t12, t13, t14, t15, t16, t17, t18, t19, t20, t21, t22, t23])))] H → va_D A [(mo, .inr (6, [.int z0, .ref q1, .int (nI g), .ref q3, .ref q4, .ref q5, .ref q6, .int pr, .int gr, .int kd, .long w1, .ref q11, .int mk, .long w13, .long w14])), (q3, .inl (cI, 800, .inl m3)), (q5, .inl (cI, 800, .inl m5)), (q6, .inl (cI, 2, .inl (jl [nI n, nI n2]))), (q11, .inl (cI, 24, .inl (jl [t0, nI e1, t2, t3, t4, t5, t6, t7, t8, t9, t10, t11, t12, t13, t14, t15, t16, t17, t18, t19, t20, t21, t22, t23])))] → va_S A s.heap H locs → ∀ ls : Array Slot, lv_has ls 4 [(0, .ref mo), (1, .int 1), (2, .int (nI e1)), (3, .int (nI i))] → W p l e (headSpec wsX6_goes ({ frames := 1, cells := 0, slots := 0, locals := 22 })).room s m #[.ref mo, .int 1] below meth c H locs 0 0 (MQ below (va_Qv (fun u : va_W => ∃ (to9 : Nat) (w9 : Int64), u = [(mo, .inr (6, [.int z0, .ref q1, .int (nI g), .ref q3, .ref q4, .ref q5, .ref q6, .int pr, .int gr, .int kd, .long w9, .ref q11, .int mk, .long w13, .long w14])), (q3, .inl (cI, 800, .inl m3)), (q5, .inl (cI, 800, .inl m5)), (q6, .inl (cI, 2, .inl (jl [nI n, nI n2]))), (q11, .inl (cI, 24, .inl (jl [t0, nI to9, t2, nI e1, t4, nI to9, t6, nI e1, t8, t9, t10, t11, t12, t13, t14, t15, t16, t17, t18, t19, t20, t21, t22, t23])))] ∧ (e1 < to9) ∧ (to9 ≤ n2)) (jw_B D vwCl A (fun u : va_W => u)) A) #[.ref mo, .int 1] s 0 0 A) (F0 m 23 ls []) := by
    intro k_1
    induction k_1 with
    | zero => exact fun _ _ hm => absurd hm (Nat.not_lt_zero _)
    | succ k_1 ih_1 =>
      intro i w1 hm1 hi hi2 H locs hP hD hS ls hl
      refine lv_iload_n hx hb dX6_goes_23 rfl (lv_at hl 3 rfl) ?_
      refine lv_aload_n hx hb dX6_goes_24 rfl (lv_at hl 0 rfl) ?_
      refine va_get (D := D) (ci := 6) (v := .ref q6) (C := RX6) (T := TX6) (N := 15) hx hb hts (by decide +kernel) hown hK hP 0 rfl rfl 6 (by decide) (hts (.fieldLink RX6 22 "JoinDeskModel" "many" "[I") (by decide +kernel)) (fun _ h9 => h9) rfl dX6_goes_25 ?_
      refine lv_iload_n hx hb dX6_goes_28 rfl (lv_at hl 1 rfl) ?_
      refine va_iald hx hb hK hP 3 0 rfl rfl (by unfold vp_in; decide) dX6_goes_29 ?_
      refine W.eq (g2 := F0 m 30 ls [.int (nI n2), .int (nI i)]) rfl ?_
      refine lv_icmp_ge (tgt := 64) hx hb dX6_goes_30 (by decide) (fun cge => ?_) (fun cge => ?_)
      · refine lv_aload_n hx hb dX6_goes_64 rfl (lv_at hl 0 rfl) ?_
        refine lv_dup hx hb dX6_goes_65 rfl ?_
        refine va_get (D := D) (ci := 6) (v := .long w1) (C := RX6) (T := TX6) (N := 15) hx hb hts (by decide +kernel) hown hK hP 0 rfl rfl 10 (by decide) (hts (.fieldLink RX6 53 "JoinDeskModel" "cells" "J") (by decide +kernel)) (fun _ h9 => h9) rfl dX6_goes_66 ?_
        refine lv_iload_n hx hb dX6_goes_69 rfl (lv_at hl 3 rfl) ?_
        refine lv_aload_n hx hb dX6_goes_70 rfl (lv_at hl 0 rfl) ?_
        refine va_get (D := D) (ci := 6) (v := .ref q6) (C := RX6) (T := TX6) (N := 15) hx hb hts (by decide +kernel) hown hK hP 0 rfl rfl 6 (by decide) (hts (.fieldLink RX6 22 "JoinDeskModel" "many" "[I") (by decide +kernel)) (fun _ h9 => h9) rfl dX6_goes_71 ?_
        refine lv_iload_n hx hb dX6_goes_74 rfl (lv_at hl 1 rfl) ?_
        refine va_iald hx hb hK hP 3 0 rfl rfl (by unfold vp_in; decide) dX6_goes_75 ?_
        refine W.eq (g2 := F0 m 76 ls [.int (nI n2), .int (nI i), .long w1, .ref mo]) rfl ?_
        refine lv_icmp_ge (tgt := 83) hx hb dX6_goes_76 (by decide) (fun c_3 => ?_) (fun c_3 => ?_)
        · refine lv_lconst (v := 0) hx hb dX6_goes_83 (by decide) ?_
          refine lv_ladd hx hb dX6_goes_84 ?_
          refine va_put (D := D) (ci := 6) (v := .long (w1 + 0)) (ty := .long) (C := RX6) (T := TX6) (N := 15) hx hb hts (by decide +kernel) tyX6 tyX6_ok nmX6 hown hK hP hD hS 0 rfl rfl 10 (by decide) (hts (.fieldLink RX6 53 "JoinDeskModel" "cells" "J") (by decide +kernel)) (fun _ h9 => h9) rfl (by decide +kernel) rfl rfl (Nat.le_of_ble_eq_true rfl) dX6_goes_85 (fun H locs hP hD hS => ?_)
          have hP : va_P D vwCl [(mo, .inr (6, [.int z0, .ref q1, .int (nI g), .ref q3, .ref q4, .ref q5, .ref q6, .int pr, .int gr, .int kd, .long (w1 + 0), .ref q11, .int mk, .long w13, .long w14])), (q3, .inl (cI, 800, .inl m3)), (q5, .inl (cI, 800, .inl m5)), (q6, .inl (cI, 2, .inl (jl [nI n, nI n2]))), (q11, .inl (cI, 24, .inl (jl [t0, nI e1, t2, t3, t4, t5, t6, t7, t8, t9, t10, t11, t12, t13, t14, t15, t16, t17, t18, t19, t20, t21, t22, t23])))] H := hP
          have hD : va_D A [(mo, .inr (6, [.int z0, .ref q1, .int (nI g), .ref q3, .ref q4, .ref q5, .ref q6, .int pr, .int gr, .int kd, .long (w1 + 0), .ref q11, .int mk, .long w13, .long w14])), (q3, .inl (cI, 800, .inl m3)), (q5, .inl (cI, 800, .inl m5)), (q6, .inl (cI, 2, .inl (jl [nI n, nI n2]))), (q11, .inl (cI, 24, .inl (jl [t0, nI e1, t2, t3, t4, t5, t6, t7, t8, t9, t10, t11, t12, t13, t14, t15, t16, t17, t18, t19, t20, t21, t22, t23])))] := hD
          refine lv_aload_n hx hb dX6_goes_88 rfl (lv_at hl 0 rfl) ?_
          refine va_get (D := D) (ci := 6) (v := .ref q11) (C := RX6) (T := TX6) (N := 15) hx hb hts (by decide +kernel) hown hK hP 0 rfl rfl 11 (by decide) (hts (.fieldLink RX6 25 "JoinDeskModel" "at" "[I") (by decide +kernel)) (fun _ h9 => h9) rfl dX6_goes_89 ?_
          refine lv_iconst (v := 2) hx hb dX6_goes_92 (by decide) ?_
          refine lv_iload_n hx hb dX6_goes_93 rfl (lv_at hl 1 rfl) ?_
          refine lv_iadd hx hb dX6_goes_94 ?_
          refine lv_topi (fun z_4 e_z_4 => ?_)
          obtain rfl : z_4 = 3 := e_z_4.trans (by decide)
          refine lv_iload_n hx hb dX6_goes_95 rfl (lv_at hl 2 rfl) ?_
          refine va_iast hx hb hK hP hD hS 4 0 rfl rfl (by unfold vp_in; decide) dX6_goes_96 (fun H locs hP hD hS => ?_)
          rw [jl_upd (show (3 : Int32).toNatClampNeg = 3 by decide) (Nat.le_of_ble_eq_true rfl)] at hP hD
          have hP : va_P D vwCl [(mo, .inr (6, [.int z0, .ref q1, .int (nI g), .ref q3, .ref q4, .ref q5, .ref q6, .int pr, .int gr, .int kd, .long (w1 + 0), .ref q11, .int mk, .long w13, .long w14])), (q3, .inl (cI, 800, .inl m3)), (q5, .inl (cI, 800, .inl m5)), (q6, .inl (cI, 2, .inl (jl [nI n, nI n2]))), (q11, .inl (cI, 24, .inl (jl [t0, nI e1, t2, nI e1, t4, t5, t6, t7, t8, t9, t10, t11, t12, t13, t14, t15, t16, t17, t18, t19, t20, t21, t22, t23])))] H := hP
          have hD : va_D A [(mo, .inr (6, [.int z0, .ref q1, .int (nI g), .ref q3, .ref q4, .ref q5, .ref q6, .int pr, .int gr, .int kd, .long (w1 + 0), .ref q11, .int mk, .long w13, .long w14])), (q3, .inl (cI, 800, .inl m3)), (q5, .inl (cI, 800, .inl m5)), (q6, .inl (cI, 2, .inl (jl [nI n, nI n2]))), (q11, .inl (cI, 24, .inl (jl [t0, nI e1, t2, nI e1, t4, t5, t6, t7, t8, t9, t10, t11, t12, t13, t14, t15, t16, t17, t18, t19, t20, t21, t22, t23])))] := hD
          refine lv_aload_n hx hb dX6_goes_97 rfl (lv_at hl 0 rfl) ?_
          refine va_get (D := D) (ci := 6) (v := .ref q11) (C := RX6) (T := TX6) (N := 15) hx hb hts (by decide +kernel) hown hK hP 0 rfl rfl 11 (by decide) (hts (.fieldLink RX6 25 "JoinDeskModel" "at" "[I") (by decide +kernel)) (fun _ h9 => h9) rfl dX6_goes_98 ?_
          refine lv_iconst (v := 4) hx hb dX6_goes_101 (by decide) ?_
          refine lv_iload_n hx hb dX6_goes_102 rfl (lv_at hl 1 rfl) ?_
          refine lv_iadd hx hb dX6_goes_103 ?_
          refine lv_topi (fun z_5 e_z_5 => ?_)
          obtain rfl : z_5 = 5 := e_z_5.trans (by decide)
          refine lv_iload_n hx hb dX6_goes_104 rfl (lv_at hl 3 rfl) ?_
          refine va_iast hx hb hK hP hD hS 4 0 rfl rfl (by unfold vp_in; decide) dX6_goes_105 (fun H locs hP hD hS => ?_)
          rw [jl_upd (show (5 : Int32).toNatClampNeg = 5 by decide) (Nat.le_of_ble_eq_true rfl)] at hP hD
          have hP : va_P D vwCl [(mo, .inr (6, [.int z0, .ref q1, .int (nI g), .ref q3, .ref q4, .ref q5, .ref q6, .int pr, .int gr, .int kd, .long (w1 + 0), .ref q11, .int mk, .long w13, .long w14])), (q3, .inl (cI, 800, .inl m3)), (q5, .inl (cI, 800, .inl m5)), (q6, .inl (cI, 2, .inl (jl [nI n, nI n2]))), (q11, .inl (cI, 24, .inl (jl [t0, nI e1, t2, nI e1, t4, nI i, t6, t7, t8, t9, t10, t11, t12, t13, t14, t15, t16, t17, t18, t19, t20, t21, t22, t23])))] H := hP
          have hD : va_D A [(mo, .inr (6, [.int z0, .ref q1, .int (nI g), .ref q3, .ref q4, .ref q5, .ref q6, .int pr, .int gr, .int kd, .long (w1 + 0), .ref q11, .int mk, .long w13, .long w14])), (q3, .inl (cI, 800, .inl m3)), (q5, .inl (cI, 800, .inl m5)), (q6, .inl (cI, 2, .inl (jl [nI n, nI n2]))), (q11, .inl (cI, 24, .inl (jl [t0, nI e1, t2, nI e1, t4, nI i, t6, t7, t8, t9, t10, t11, t12, t13, t14, t15, t16, t17, t18, t19, t20, t21, t22, t23])))] := hD
          refine lv_aload_n hx hb dX6_goes_106 rfl (lv_at hl 0 rfl) ?_
          refine va_get (D := D) (ci := 6) (v := .ref q11) (C := RX6) (T := TX6) (N := 15) hx hb hts (by decide +kernel) hown hK hP 0 rfl rfl 11 (by decide) (hts (.fieldLink RX6 25 "JoinDeskModel" "at" "[I") (by decide +kernel)) (fun _ h9 => h9) rfl dX6_goes_107 ?_
          refine lv_bipush (v := 6) hx hb dX6_goes_110 (by decide) ?_
          refine lv_iload_n hx hb dX6_goes_112 rfl (lv_at hl 1 rfl) ?_
          refine lv_iadd hx hb dX6_goes_113 ?_
          refine lv_topi (fun z_6 e_z_6 => ?_)
          obtain rfl : z_6 = 7 := e_z_6.trans (by decide)
          refine lv_iload_n hx hb dX6_goes_114 rfl (lv_at hl 2 rfl) ?_
          refine va_iast hx hb hK hP hD hS 4 0 rfl rfl (by unfold vp_in; decide) dX6_goes_115 (fun H locs hP hD hS => ?_)
          rw [jl_upd (show (7 : Int32).toNatClampNeg = 7 by decide) (Nat.le_of_ble_eq_true rfl)] at hP hD
          have hP : va_P D vwCl [(mo, .inr (6, [.int z0, .ref q1, .int (nI g), .ref q3, .ref q4, .ref q5, .ref q6, .int pr, .int gr, .int kd, .long (w1 + 0), .ref q11, .int mk, .long w13, .long w14])), (q3, .inl (cI, 800, .inl m3)), (q5, .inl (cI, 800, .inl m5)), (q6, .inl (cI, 2, .inl (jl [nI n, nI n2]))), (q11, .inl (cI, 24, .inl (jl [t0, nI e1, t2, nI e1, t4, nI i, t6, nI e1, t8, t9, t10, t11, t12, t13, t14, t15, t16, t17, t18, t19, t20, t21, t22, t23])))] H := hP
          have hD : va_D A [(mo, .inr (6, [.int z0, .ref q1, .int (nI g), .ref q3, .ref q4, .ref q5, .ref q6, .int pr, .int gr, .int kd, .long (w1 + 0), .ref q11, .int mk, .long w13, .long w14])), (q3, .inl (cI, 800, .inl m3)), (q5, .inl (cI, 800, .inl m5)), (q6, .inl (cI, 2, .inl (jl [nI n, nI n2]))), (q11, .inl (cI, 24, .inl (jl [t0, nI e1, t2, nI e1, t4, nI i, t6, nI e1, t8, t9, t10, t11, t12, t13, t14, t15, t16, t17, t18, t19, t20, t21, t22, t23])))] := hD
          refine lv_aload_n hx hb dX6_goes_116 rfl (lv_at hl 0 rfl) ?_
          refine va_get (D := D) (ci := 6) (v := .ref q11) (C := RX6) (T := TX6) (N := 15) hx hb hts (by decide +kernel) hown hK hP 0 rfl rfl 11 (by decide) (hts (.fieldLink RX6 25 "JoinDeskModel" "at" "[I") (by decide +kernel)) (fun _ h9 => h9) rfl dX6_goes_117 ?_
          refine lv_iconst (v := 0) hx hb dX6_goes_120 (by decide) ?_
          refine lv_iload_n hx hb dX6_goes_121 rfl (lv_at hl 1 rfl) ?_
          refine lv_iadd hx hb dX6_goes_122 ?_
          refine lv_topi (fun z_7 e_z_7 => ?_)
          obtain rfl : z_7 = 1 := e_z_7.trans (by decide)
          refine lv_iload_n hx hb dX6_goes_123 rfl (lv_at hl 3 rfl) ?_
          refine va_iast hx hb hK hP hD hS 4 0 rfl rfl (by unfold vp_in; decide) dX6_goes_124 (fun H locs hP hD hS => ?_)
          rw [jl_upd (show (1 : Int32).toNatClampNeg = 1 by decide) (Nat.le_of_ble_eq_true rfl)] at hP hD
          have hP : va_P D vwCl [(mo, .inr (6, [.int z0, .ref q1, .int (nI g), .ref q3, .ref q4, .ref q5, .ref q6, .int pr, .int gr, .int kd, .long (w1 + 0), .ref q11, .int mk, .long w13, .long w14])), (q3, .inl (cI, 800, .inl m3)), (q5, .inl (cI, 800, .inl m5)), (q6, .inl (cI, 2, .inl (jl [nI n, nI n2]))), (q11, .inl (cI, 24, .inl (jl [t0, nI i, t2, nI e1, t4, nI i, t6, nI e1, t8, t9, t10, t11, t12, t13, t14, t15, t16, t17, t18, t19, t20, t21, t22, t23])))] H := hP
          have hD : va_D A [(mo, .inr (6, [.int z0, .ref q1, .int (nI g), .ref q3, .ref q4, .ref q5, .ref q6, .int pr, .int gr, .int kd, .long (w1 + 0), .ref q11, .int mk, .long w13, .long w14])), (q3, .inl (cI, 800, .inl m3)), (q5, .inl (cI, 800, .inl m5)), (q6, .inl (cI, 2, .inl (jl [nI n, nI n2]))), (q11, .inl (cI, 24, .inl (jl [t0, nI i, t2, nI e1, t4, nI i, t6, nI e1, t8, t9, t10, t11, t12, t13, t14, t15, t16, t17, t18, t19, t20, t21, t22, t23])))] := hD
          refine W.widen (k := 0) (n := 0) (by omega) (by omega) ?_
          exact W.vret hx hb hr (fun t ht hW => ⟨⟨[(mo, .inr (6, [.int z0, .ref q1, .int (nI g), .ref q3, .ref q4, .ref q5, .ref q6, .int pr, .int gr, .int kd, .long (w1 + 0), .ref q11, .int mk, .long w13, .long w14])), (q3, .inl (cI, 800, .inl m3)), (q5, .inl (cI, 800, .inl m5)), (q6, .inl (cI, 2, .inl (jl [nI n, nI n2]))), (q11, .inl (cI, 24, .inl (jl [t0, nI i, t2, nI e1, t4, nI i, t6, nI e1, t8, t9, t10, t11, t12, t13, t14, t15, t16, t17, t18, t19, t20, t21, t22, t23])))], rfl, (⟨_, _, rfl, by assumption, by assumption⟩), by rw [ht]; exact hP, hD⟩, hS.F ht⟩) hS.2.2 dX6_goes_125
        · refine lv_lconst (v := 1) hx hb dX6_goes_79 (by decide) ?_
          refine lv_goto (tgt := 84) hx hb dX6_goes_80 (by decide) ?_
          refine lv_ladd hx hb dX6_goes_84 ?_
          refine va_put (D := D) (ci := 6) (v := .long (w1 + 1)) (ty := .long) (C := RX6) (T := TX6) (N := 15) hx hb hts (by decide +kernel) tyX6 tyX6_ok nmX6 hown hK hP hD hS 0 rfl rfl 10 (by decide) (hts (.fieldLink RX6 53 "JoinDeskModel" "cells" "J") (by decide +kernel)) (fun _ h9 => h9) rfl (by decide +kernel) rfl rfl (Nat.le_of_ble_eq_true rfl) dX6_goes_85 (fun H locs hP hD hS => ?_)
          have hP : va_P D vwCl [(mo, .inr (6, [.int z0, .ref q1, .int (nI g), .ref q3, .ref q4, .ref q5, .ref q6, .int pr, .int gr, .int kd, .long (w1 + 1), .ref q11, .int mk, .long w13, .long w14])), (q3, .inl (cI, 800, .inl m3)), (q5, .inl (cI, 800, .inl m5)), (q6, .inl (cI, 2, .inl (jl [nI n, nI n2]))), (q11, .inl (cI, 24, .inl (jl [t0, nI e1, t2, t3, t4, t5, t6, t7, t8, t9, t10, t11, t12, t13, t14, t15, t16, t17, t18, t19, t20, t21, t22, t23])))] H := hP
          have hD : va_D A [(mo, .inr (6, [.int z0, .ref q1, .int (nI g), .ref q3, .ref q4, .ref q5, .ref q6, .int pr, .int gr, .int kd, .long (w1 + 1), .ref q11, .int mk, .long w13, .long w14])), (q3, .inl (cI, 800, .inl m3)), (q5, .inl (cI, 800, .inl m5)), (q6, .inl (cI, 2, .inl (jl [nI n, nI n2]))), (q11, .inl (cI, 24, .inl (jl [t0, nI e1, t2, t3, t4, t5, t6, t7, t8, t9, t10, t11, t12, t13, t14, t15, t16, t17, t18, t19, t20, t21, t22, t23])))] := hD
          refine lv_aload_n hx hb dX6_goes_88 rfl (lv_at hl 0 rfl) ?_
          refine va_get (D := D) (ci := 6) (v := .ref q11) (C := RX6) (T := TX6) (N := 15) hx hb hts (by decide +kernel) hown hK hP 0 rfl rfl 11 (by decide) (hts (.fieldLink RX6 25 "JoinDeskModel" "at" "[I") (by decide +kernel)) (fun _ h9 => h9) rfl dX6_goes_89 ?_
          refine lv_iconst (v := 2) hx hb dX6_goes_92 (by decide) ?_
          refine lv_iload_n hx hb dX6_goes_93 rfl (lv_at hl 1 rfl) ?_
          refine lv_iadd hx hb dX6_goes_94 ?_
          refine lv_topi (fun z_8 e_z_8 => ?_)
          obtain rfl : z_8 = 3 := e_z_8.trans (by decide)
          refine lv_iload_n hx hb dX6_goes_95 rfl (lv_at hl 2 rfl) ?_
          refine va_iast hx hb hK hP hD hS 4 0 rfl rfl (by unfold vp_in; decide) dX6_goes_96 (fun H locs hP hD hS => ?_)
          rw [jl_upd (show (3 : Int32).toNatClampNeg = 3 by decide) (Nat.le_of_ble_eq_true rfl)] at hP hD
          have hP : va_P D vwCl [(mo, .inr (6, [.int z0, .ref q1, .int (nI g), .ref q3, .ref q4, .ref q5, .ref q6, .int pr, .int gr, .int kd, .long (w1 + 1), .ref q11, .int mk, .long w13, .long w14])), (q3, .inl (cI, 800, .inl m3)), (q5, .inl (cI, 800, .inl m5)), (q6, .inl (cI, 2, .inl (jl [nI n, nI n2]))), (q11, .inl (cI, 24, .inl (jl [t0, nI e1, t2, nI e1, t4, t5, t6, t7, t8, t9, t10, t11, t12, t13, t14, t15, t16, t17, t18, t19, t20, t21, t22, t23])))] H := hP
          have hD : va_D A [(mo, .inr (6, [.int z0, .ref q1, .int (nI g), .ref q3, .ref q4, .ref q5, .ref q6, .int pr, .int gr, .int kd, .long (w1 + 1), .ref q11, .int mk, .long w13, .long w14])), (q3, .inl (cI, 800, .inl m3)), (q5, .inl (cI, 800, .inl m5)), (q6, .inl (cI, 2, .inl (jl [nI n, nI n2]))), (q11, .inl (cI, 24, .inl (jl [t0, nI e1, t2, nI e1, t4, t5, t6, t7, t8, t9, t10, t11, t12, t13, t14, t15, t16, t17, t18, t19, t20, t21, t22, t23])))] := hD
          refine lv_aload_n hx hb dX6_goes_97 rfl (lv_at hl 0 rfl) ?_
          refine va_get (D := D) (ci := 6) (v := .ref q11) (C := RX6) (T := TX6) (N := 15) hx hb hts (by decide +kernel) hown hK hP 0 rfl rfl 11 (by decide) (hts (.fieldLink RX6 25 "JoinDeskModel" "at" "[I") (by decide +kernel)) (fun _ h9 => h9) rfl dX6_goes_98 ?_
          refine lv_iconst (v := 4) hx hb dX6_goes_101 (by decide) ?_
          refine lv_iload_n hx hb dX6_goes_102 rfl (lv_at hl 1 rfl) ?_
          refine lv_iadd hx hb dX6_goes_103 ?_
          refine lv_topi (fun z_9 e_z_9 => ?_)
          obtain rfl : z_9 = 5 := e_z_9.trans (by decide)
          refine lv_iload_n hx hb dX6_goes_104 rfl (lv_at hl 3 rfl) ?_
          refine va_iast hx hb hK hP hD hS 4 0 rfl rfl (by unfold vp_in; decide) dX6_goes_105 (fun H locs hP hD hS => ?_)
          rw [jl_upd (show (5 : Int32).toNatClampNeg = 5 by decide) (Nat.le_of_ble_eq_true rfl)] at hP hD
          have hP : va_P D vwCl [(mo, .inr (6, [.int z0, .ref q1, .int (nI g), .ref q3, .ref q4, .ref q5, .ref q6, .int pr, .int gr, .int kd, .long (w1 + 1), .ref q11, .int mk, .long w13, .long w14])), (q3, .inl (cI, 800, .inl m3)), (q5, .inl (cI, 800, .inl m5)), (q6, .inl (cI, 2, .inl (jl [nI n, nI n2]))), (q11, .inl (cI, 24, .inl (jl [t0, nI e1, t2, nI e1, t4, nI i, t6, t7, t8, t9, t10, t11, t12, t13, t14, t15, t16, t17, t18, t19, t20, t21, t22, t23])))] H := hP
          have hD : va_D A [(mo, .inr (6, [.int z0, .ref q1, .int (nI g), .ref q3, .ref q4, .ref q5, .ref q6, .int pr, .int gr, .int kd, .long (w1 + 1), .ref q11, .int mk, .long w13, .long w14])), (q3, .inl (cI, 800, .inl m3)), (q5, .inl (cI, 800, .inl m5)), (q6, .inl (cI, 2, .inl (jl [nI n, nI n2]))), (q11, .inl (cI, 24, .inl (jl [t0, nI e1, t2, nI e1, t4, nI i, t6, t7, t8, t9, t10, t11, t12, t13, t14, t15, t16, t17, t18, t19, t20, t21, t22, t23])))] := hD
          refine lv_aload_n hx hb dX6_goes_106 rfl (lv_at hl 0 rfl) ?_
          refine va_get (D := D) (ci := 6) (v := .ref q11) (C := RX6) (T := TX6) (N := 15) hx hb hts (by decide +kernel) hown hK hP 0 rfl rfl 11 (by decide) (hts (.fieldLink RX6 25 "JoinDeskModel" "at" "[I") (by decide +kernel)) (fun _ h9 => h9) rfl dX6_goes_107 ?_
          refine lv_bipush (v := 6) hx hb dX6_goes_110 (by decide) ?_
          refine lv_iload_n hx hb dX6_goes_112 rfl (lv_at hl 1 rfl) ?_
          refine lv_iadd hx hb dX6_goes_113 ?_
          refine lv_topi (fun z_10 e_z_10 => ?_)
          obtain rfl : z_10 = 7 := e_z_10.trans (by decide)
          refine lv_iload_n hx hb dX6_goes_114 rfl (lv_at hl 2 rfl) ?_
          refine va_iast hx hb hK hP hD hS 4 0 rfl rfl (by unfold vp_in; decide) dX6_goes_115 (fun H locs hP hD hS => ?_)
          rw [jl_upd (show (7 : Int32).toNatClampNeg = 7 by decide) (Nat.le_of_ble_eq_true rfl)] at hP hD
          have hP : va_P D vwCl [(mo, .inr (6, [.int z0, .ref q1, .int (nI g), .ref q3, .ref q4, .ref q5, .ref q6, .int pr, .int gr, .int kd, .long (w1 + 1), .ref q11, .int mk, .long w13, .long w14])), (q3, .inl (cI, 800, .inl m3)), (q5, .inl (cI, 800, .inl m5)), (q6, .inl (cI, 2, .inl (jl [nI n, nI n2]))), (q11, .inl (cI, 24, .inl (jl [t0, nI e1, t2, nI e1, t4, nI i, t6, nI e1, t8, t9, t10, t11, t12, t13, t14, t15, t16, t17, t18, t19, t20, t21, t22, t23])))] H := hP
          have hD : va_D A [(mo, .inr (6, [.int z0, .ref q1, .int (nI g), .ref q3, .ref q4, .ref q5, .ref q6, .int pr, .int gr, .int kd, .long (w1 + 1), .ref q11, .int mk, .long w13, .long w14])), (q3, .inl (cI, 800, .inl m3)), (q5, .inl (cI, 800, .inl m5)), (q6, .inl (cI, 2, .inl (jl [nI n, nI n2]))), (q11, .inl (cI, 24, .inl (jl [t0, nI e1, t2, nI e1, t4, nI i, t6, nI e1, t8, t9, t10, t11, t12, t13, t14, t15, t16, t17, t18, t19, t20, t21, t22, t23])))] := hD
          refine lv_aload_n hx hb dX6_goes_116 rfl (lv_at hl 0 rfl) ?_
          refine va_get (D := D) (ci := 6) (v := .ref q11) (C := RX6) (T := TX6) (N := 15) hx hb hts (by decide +kernel) hown hK hP 0 rfl rfl 11 (by decide) (hts (.fieldLink RX6 25 "JoinDeskModel" "at" "[I") (by decide +kernel)) (fun _ h9 => h9) rfl dX6_goes_117 ?_
          refine lv_iconst (v := 0) hx hb dX6_goes_120 (by decide) ?_
          refine lv_iload_n hx hb dX6_goes_121 rfl (lv_at hl 1 rfl) ?_
          refine lv_iadd hx hb dX6_goes_122 ?_
          refine lv_topi (fun z_11 e_z_11 => ?_)
          obtain rfl : z_11 = 1 := e_z_11.trans (by decide)
          refine lv_iload_n hx hb dX6_goes_123 rfl (lv_at hl 3 rfl) ?_
          refine va_iast hx hb hK hP hD hS 4 0 rfl rfl (by unfold vp_in; decide) dX6_goes_124 (fun H locs hP hD hS => ?_)
          rw [jl_upd (show (1 : Int32).toNatClampNeg = 1 by decide) (Nat.le_of_ble_eq_true rfl)] at hP hD
          have hP : va_P D vwCl [(mo, .inr (6, [.int z0, .ref q1, .int (nI g), .ref q3, .ref q4, .ref q5, .ref q6, .int pr, .int gr, .int kd, .long (w1 + 1), .ref q11, .int mk, .long w13, .long w14])), (q3, .inl (cI, 800, .inl m3)), (q5, .inl (cI, 800, .inl m5)), (q6, .inl (cI, 2, .inl (jl [nI n, nI n2]))), (q11, .inl (cI, 24, .inl (jl [t0, nI i, t2, nI e1, t4, nI i, t6, nI e1, t8, t9, t10, t11, t12, t13, t14, t15, t16, t17, t18, t19, t20, t21, t22, t23])))] H := hP
          have hD : va_D A [(mo, .inr (6, [.int z0, .ref q1, .int (nI g), .ref q3, .ref q4, .ref q5, .ref q6, .int pr, .int gr, .int kd, .long (w1 + 1), .ref q11, .int mk, .long w13, .long w14])), (q3, .inl (cI, 800, .inl m3)), (q5, .inl (cI, 800, .inl m5)), (q6, .inl (cI, 2, .inl (jl [nI n, nI n2]))), (q11, .inl (cI, 24, .inl (jl [t0, nI i, t2, nI e1, t4, nI i, t6, nI e1, t8, t9, t10, t11, t12, t13, t14, t15, t16, t17, t18, t19, t20, t21, t22, t23])))] := hD
          refine W.widen (k := 0) (n := 0) (by omega) (by omega) ?_
          exact W.vret hx hb hr (fun t ht hW => ⟨⟨[(mo, .inr (6, [.int z0, .ref q1, .int (nI g), .ref q3, .ref q4, .ref q5, .ref q6, .int pr, .int gr, .int kd, .long (w1 + 1), .ref q11, .int mk, .long w13, .long w14])), (q3, .inl (cI, 800, .inl m3)), (q5, .inl (cI, 800, .inl m5)), (q6, .inl (cI, 2, .inl (jl [nI n, nI n2]))), (q11, .inl (cI, 24, .inl (jl [t0, nI i, t2, nI e1, t4, nI i, t6, nI e1, t8, t9, t10, t11, t12, t13, t14, t15, t16, t17, t18, t19, t20, t21, t22, t23])))], rfl, (⟨_, _, rfl, by assumption, by assumption⟩), by rw [ht]; exact hP, hD⟩, hS.F ht⟩) hS.2.2 dX6_goes_125
      · refine lv_aload_n hx hb dX6_goes_33 rfl (lv_at hl 0 rfl) ?_
        refine lv_iload_n hx hb dX6_goes_34 rfl (lv_at hl 1 rfl) ?_
        refine lv_iload_n hx hb dX6_goes_35 rfl (lv_at hl 3 rfl) ?_
        refine vp_callSi (va_Run.run (va_runV (As := [.int 1, .int (nI i)]) (rest := []) ⟨hx, hb, hml, hown, hts⟩ (gM_key_1 l D cI cL cQ mo g q1 q3 q4 q5 q6 q11 z0 pr gr kd mk w1 w13 w14 m3 m5 i (by first | assumption | decide | omega) (by rw [nI_leI (by omega) (by omega)] at cge; omega)) (cwV 2 hts gX6_goes_X6_key rfl rfl rfl (by decide +kernel) ⟨Nat.le_of_ble_eq_true rfl, Nat.le_of_ble_eq_true rfl⟩) (jr_V hK hN hP [0, 1, 2] rfl 6 0 rfl rfl rfl) rfl rfl hl.1 rfl (lv_room (Nat.le_of_ble_eq_true rfl)) dX6_goes_36 ⟨Nat.le_of_ble_eq_true rfl, Nat.le_of_ble_eq_true rfl⟩)) (fun r f_12 => ?_)
        obtain rfl := f_12
        refine lv_aload_n hx hb dX6_goes_39 rfl (lv_at hl 0 rfl) ?_
        refine lv_iload_n hx hb dX6_goes_40 rfl (lv_at hl 1 rfl) ?_
        refine lv_iload_n hx hb dX6_goes_41 rfl (lv_at hl 2 rfl) ?_
        refine vp_callSi (va_Run.run (va_runV (As := [.int 1, .int (nI e1)]) (rest := [.int (jmk 400 m3 m5 i)]) ⟨hx, hb, hml, hown, hts⟩ (gM_key_1 l D cI cL cQ mo g q1 q3 q4 q5 q6 q11 z0 pr gr kd mk w1 w13 w14 m3 m5 e1 (by first | assumption | decide | omega) (by omega)) (cwV 2 hts gX6_goes_X6_key rfl rfl rfl (by decide +kernel) ⟨Nat.le_of_ble_eq_true rfl, Nat.le_of_ble_eq_true rfl⟩) (jr_V hK hN hP [0, 1, 2] rfl 6 0 rfl rfl rfl) rfl rfl hl.1 rfl (lv_room (Nat.le_of_ble_eq_true rfl)) dX6_goes_42 ⟨Nat.le_of_ble_eq_true rfl, Nat.le_of_ble_eq_true rfl⟩)) (fun r f_13 => ?_)
        obtain rfl := f_13
        refine lv_icmp_ne (tgt := 64) hx hb dX6_goes_45 (by decide) (fun c_14 => ?_) (fun c_14 => ?_)
        · refine lv_aload_n hx hb dX6_goes_64 rfl (lv_at hl 0 rfl) ?_
          refine lv_dup hx hb dX6_goes_65 rfl ?_
          refine va_get (D := D) (ci := 6) (v := .long w1) (C := RX6) (T := TX6) (N := 15) hx hb hts (by decide +kernel) hown hK hP 0 rfl rfl 10 (by decide) (hts (.fieldLink RX6 53 "JoinDeskModel" "cells" "J") (by decide +kernel)) (fun _ h9 => h9) rfl dX6_goes_66 ?_
          refine lv_iload_n hx hb dX6_goes_69 rfl (lv_at hl 3 rfl) ?_
          refine lv_aload_n hx hb dX6_goes_70 rfl (lv_at hl 0 rfl) ?_
          refine va_get (D := D) (ci := 6) (v := .ref q6) (C := RX6) (T := TX6) (N := 15) hx hb hts (by decide +kernel) hown hK hP 0 rfl rfl 6 (by decide) (hts (.fieldLink RX6 22 "JoinDeskModel" "many" "[I") (by decide +kernel)) (fun _ h9 => h9) rfl dX6_goes_71 ?_
          refine lv_iload_n hx hb dX6_goes_74 rfl (lv_at hl 1 rfl) ?_
          refine va_iald hx hb hK hP 3 0 rfl rfl (by unfold vp_in; decide) dX6_goes_75 ?_
          refine W.eq (g2 := F0 m 76 ls [.int (nI n2), .int (nI i), .long w1, .ref mo]) rfl ?_
          refine lv_icmp_ge (tgt := 83) hx hb dX6_goes_76 (by decide) (fun c_15 => ?_) (fun c_15 => ?_)
          · refine lv_lconst (v := 0) hx hb dX6_goes_83 (by decide) ?_
            refine lv_ladd hx hb dX6_goes_84 ?_
            refine va_put (D := D) (ci := 6) (v := .long (w1 + 0)) (ty := .long) (C := RX6) (T := TX6) (N := 15) hx hb hts (by decide +kernel) tyX6 tyX6_ok nmX6 hown hK hP hD hS 0 rfl rfl 10 (by decide) (hts (.fieldLink RX6 53 "JoinDeskModel" "cells" "J") (by decide +kernel)) (fun _ h9 => h9) rfl (by decide +kernel) rfl rfl (Nat.le_of_ble_eq_true rfl) dX6_goes_85 (fun H locs hP hD hS => ?_)
            have hP : va_P D vwCl [(mo, .inr (6, [.int z0, .ref q1, .int (nI g), .ref q3, .ref q4, .ref q5, .ref q6, .int pr, .int gr, .int kd, .long (w1 + 0), .ref q11, .int mk, .long w13, .long w14])), (q3, .inl (cI, 800, .inl m3)), (q5, .inl (cI, 800, .inl m5)), (q6, .inl (cI, 2, .inl (jl [nI n, nI n2]))), (q11, .inl (cI, 24, .inl (jl [t0, nI e1, t2, t3, t4, t5, t6, t7, t8, t9, t10, t11, t12, t13, t14, t15, t16, t17, t18, t19, t20, t21, t22, t23])))] H := hP
            have hD : va_D A [(mo, .inr (6, [.int z0, .ref q1, .int (nI g), .ref q3, .ref q4, .ref q5, .ref q6, .int pr, .int gr, .int kd, .long (w1 + 0), .ref q11, .int mk, .long w13, .long w14])), (q3, .inl (cI, 800, .inl m3)), (q5, .inl (cI, 800, .inl m5)), (q6, .inl (cI, 2, .inl (jl [nI n, nI n2]))), (q11, .inl (cI, 24, .inl (jl [t0, nI e1, t2, t3, t4, t5, t6, t7, t8, t9, t10, t11, t12, t13, t14, t15, t16, t17, t18, t19, t20, t21, t22, t23])))] := hD
            refine lv_aload_n hx hb dX6_goes_88 rfl (lv_at hl 0 rfl) ?_
            refine va_get (D := D) (ci := 6) (v := .ref q11) (C := RX6) (T := TX6) (N := 15) hx hb hts (by decide +kernel) hown hK hP 0 rfl rfl 11 (by decide) (hts (.fieldLink RX6 25 "JoinDeskModel" "at" "[I") (by decide +kernel)) (fun _ h9 => h9) rfl dX6_goes_89 ?_
            refine lv_iconst (v := 2) hx hb dX6_goes_92 (by decide) ?_
            refine lv_iload_n hx hb dX6_goes_93 rfl (lv_at hl 1 rfl) ?_
            refine lv_iadd hx hb dX6_goes_94 ?_
            refine lv_topi (fun z_16 e_z_16 => ?_)
            obtain rfl : z_16 = 3 := e_z_16.trans (by decide)
            refine lv_iload_n hx hb dX6_goes_95 rfl (lv_at hl 2 rfl) ?_
            refine va_iast hx hb hK hP hD hS 4 0 rfl rfl (by unfold vp_in; decide) dX6_goes_96 (fun H locs hP hD hS => ?_)
            rw [jl_upd (show (3 : Int32).toNatClampNeg = 3 by decide) (Nat.le_of_ble_eq_true rfl)] at hP hD
            have hP : va_P D vwCl [(mo, .inr (6, [.int z0, .ref q1, .int (nI g), .ref q3, .ref q4, .ref q5, .ref q6, .int pr, .int gr, .int kd, .long (w1 + 0), .ref q11, .int mk, .long w13, .long w14])), (q3, .inl (cI, 800, .inl m3)), (q5, .inl (cI, 800, .inl m5)), (q6, .inl (cI, 2, .inl (jl [nI n, nI n2]))), (q11, .inl (cI, 24, .inl (jl [t0, nI e1, t2, nI e1, t4, t5, t6, t7, t8, t9, t10, t11, t12, t13, t14, t15, t16, t17, t18, t19, t20, t21, t22, t23])))] H := hP
            have hD : va_D A [(mo, .inr (6, [.int z0, .ref q1, .int (nI g), .ref q3, .ref q4, .ref q5, .ref q6, .int pr, .int gr, .int kd, .long (w1 + 0), .ref q11, .int mk, .long w13, .long w14])), (q3, .inl (cI, 800, .inl m3)), (q5, .inl (cI, 800, .inl m5)), (q6, .inl (cI, 2, .inl (jl [nI n, nI n2]))), (q11, .inl (cI, 24, .inl (jl [t0, nI e1, t2, nI e1, t4, t5, t6, t7, t8, t9, t10, t11, t12, t13, t14, t15, t16, t17, t18, t19, t20, t21, t22, t23])))] := hD
            refine lv_aload_n hx hb dX6_goes_97 rfl (lv_at hl 0 rfl) ?_
            refine va_get (D := D) (ci := 6) (v := .ref q11) (C := RX6) (T := TX6) (N := 15) hx hb hts (by decide +kernel) hown hK hP 0 rfl rfl 11 (by decide) (hts (.fieldLink RX6 25 "JoinDeskModel" "at" "[I") (by decide +kernel)) (fun _ h9 => h9) rfl dX6_goes_98 ?_
            refine lv_iconst (v := 4) hx hb dX6_goes_101 (by decide) ?_
            refine lv_iload_n hx hb dX6_goes_102 rfl (lv_at hl 1 rfl) ?_
            refine lv_iadd hx hb dX6_goes_103 ?_
            refine lv_topi (fun z_17 e_z_17 => ?_)
            obtain rfl : z_17 = 5 := e_z_17.trans (by decide)
            refine lv_iload_n hx hb dX6_goes_104 rfl (lv_at hl 3 rfl) ?_
            refine va_iast hx hb hK hP hD hS 4 0 rfl rfl (by unfold vp_in; decide) dX6_goes_105 (fun H locs hP hD hS => ?_)
            rw [jl_upd (show (5 : Int32).toNatClampNeg = 5 by decide) (Nat.le_of_ble_eq_true rfl)] at hP hD
            have hP : va_P D vwCl [(mo, .inr (6, [.int z0, .ref q1, .int (nI g), .ref q3, .ref q4, .ref q5, .ref q6, .int pr, .int gr, .int kd, .long (w1 + 0), .ref q11, .int mk, .long w13, .long w14])), (q3, .inl (cI, 800, .inl m3)), (q5, .inl (cI, 800, .inl m5)), (q6, .inl (cI, 2, .inl (jl [nI n, nI n2]))), (q11, .inl (cI, 24, .inl (jl [t0, nI e1, t2, nI e1, t4, nI i, t6, t7, t8, t9, t10, t11, t12, t13, t14, t15, t16, t17, t18, t19, t20, t21, t22, t23])))] H := hP
            have hD : va_D A [(mo, .inr (6, [.int z0, .ref q1, .int (nI g), .ref q3, .ref q4, .ref q5, .ref q6, .int pr, .int gr, .int kd, .long (w1 + 0), .ref q11, .int mk, .long w13, .long w14])), (q3, .inl (cI, 800, .inl m3)), (q5, .inl (cI, 800, .inl m5)), (q6, .inl (cI, 2, .inl (jl [nI n, nI n2]))), (q11, .inl (cI, 24, .inl (jl [t0, nI e1, t2, nI e1, t4, nI i, t6, t7, t8, t9, t10, t11, t12, t13, t14, t15, t16, t17, t18, t19, t20, t21, t22, t23])))] := hD
            refine lv_aload_n hx hb dX6_goes_106 rfl (lv_at hl 0 rfl) ?_
            refine va_get (D := D) (ci := 6) (v := .ref q11) (C := RX6) (T := TX6) (N := 15) hx hb hts (by decide +kernel) hown hK hP 0 rfl rfl 11 (by decide) (hts (.fieldLink RX6 25 "JoinDeskModel" "at" "[I") (by decide +kernel)) (fun _ h9 => h9) rfl dX6_goes_107 ?_
            refine lv_bipush (v := 6) hx hb dX6_goes_110 (by decide) ?_
            refine lv_iload_n hx hb dX6_goes_112 rfl (lv_at hl 1 rfl) ?_
            refine lv_iadd hx hb dX6_goes_113 ?_
            refine lv_topi (fun z_18 e_z_18 => ?_)
            obtain rfl : z_18 = 7 := e_z_18.trans (by decide)
            refine lv_iload_n hx hb dX6_goes_114 rfl (lv_at hl 2 rfl) ?_
            refine va_iast hx hb hK hP hD hS 4 0 rfl rfl (by unfold vp_in; decide) dX6_goes_115 (fun H locs hP hD hS => ?_)
            rw [jl_upd (show (7 : Int32).toNatClampNeg = 7 by decide) (Nat.le_of_ble_eq_true rfl)] at hP hD
            have hP : va_P D vwCl [(mo, .inr (6, [.int z0, .ref q1, .int (nI g), .ref q3, .ref q4, .ref q5, .ref q6, .int pr, .int gr, .int kd, .long (w1 + 0), .ref q11, .int mk, .long w13, .long w14])), (q3, .inl (cI, 800, .inl m3)), (q5, .inl (cI, 800, .inl m5)), (q6, .inl (cI, 2, .inl (jl [nI n, nI n2]))), (q11, .inl (cI, 24, .inl (jl [t0, nI e1, t2, nI e1, t4, nI i, t6, nI e1, t8, t9, t10, t11, t12, t13, t14, t15, t16, t17, t18, t19, t20, t21, t22, t23])))] H := hP
            have hD : va_D A [(mo, .inr (6, [.int z0, .ref q1, .int (nI g), .ref q3, .ref q4, .ref q5, .ref q6, .int pr, .int gr, .int kd, .long (w1 + 0), .ref q11, .int mk, .long w13, .long w14])), (q3, .inl (cI, 800, .inl m3)), (q5, .inl (cI, 800, .inl m5)), (q6, .inl (cI, 2, .inl (jl [nI n, nI n2]))), (q11, .inl (cI, 24, .inl (jl [t0, nI e1, t2, nI e1, t4, nI i, t6, nI e1, t8, t9, t10, t11, t12, t13, t14, t15, t16, t17, t18, t19, t20, t21, t22, t23])))] := hD
            refine lv_aload_n hx hb dX6_goes_116 rfl (lv_at hl 0 rfl) ?_
            refine va_get (D := D) (ci := 6) (v := .ref q11) (C := RX6) (T := TX6) (N := 15) hx hb hts (by decide +kernel) hown hK hP 0 rfl rfl 11 (by decide) (hts (.fieldLink RX6 25 "JoinDeskModel" "at" "[I") (by decide +kernel)) (fun _ h9 => h9) rfl dX6_goes_117 ?_
            refine lv_iconst (v := 0) hx hb dX6_goes_120 (by decide) ?_
            refine lv_iload_n hx hb dX6_goes_121 rfl (lv_at hl 1 rfl) ?_
            refine lv_iadd hx hb dX6_goes_122 ?_
            refine lv_topi (fun z_19 e_z_19 => ?_)
            obtain rfl : z_19 = 1 := e_z_19.trans (by decide)
            refine lv_iload_n hx hb dX6_goes_123 rfl (lv_at hl 3 rfl) ?_
            refine va_iast hx hb hK hP hD hS 4 0 rfl rfl (by unfold vp_in; decide) dX6_goes_124 (fun H locs hP hD hS => ?_)
            rw [jl_upd (show (1 : Int32).toNatClampNeg = 1 by decide) (Nat.le_of_ble_eq_true rfl)] at hP hD
            have hP : va_P D vwCl [(mo, .inr (6, [.int z0, .ref q1, .int (nI g), .ref q3, .ref q4, .ref q5, .ref q6, .int pr, .int gr, .int kd, .long (w1 + 0), .ref q11, .int mk, .long w13, .long w14])), (q3, .inl (cI, 800, .inl m3)), (q5, .inl (cI, 800, .inl m5)), (q6, .inl (cI, 2, .inl (jl [nI n, nI n2]))), (q11, .inl (cI, 24, .inl (jl [t0, nI i, t2, nI e1, t4, nI i, t6, nI e1, t8, t9, t10, t11, t12, t13, t14, t15, t16, t17, t18, t19, t20, t21, t22, t23])))] H := hP
            have hD : va_D A [(mo, .inr (6, [.int z0, .ref q1, .int (nI g), .ref q3, .ref q4, .ref q5, .ref q6, .int pr, .int gr, .int kd, .long (w1 + 0), .ref q11, .int mk, .long w13, .long w14])), (q3, .inl (cI, 800, .inl m3)), (q5, .inl (cI, 800, .inl m5)), (q6, .inl (cI, 2, .inl (jl [nI n, nI n2]))), (q11, .inl (cI, 24, .inl (jl [t0, nI i, t2, nI e1, t4, nI i, t6, nI e1, t8, t9, t10, t11, t12, t13, t14, t15, t16, t17, t18, t19, t20, t21, t22, t23])))] := hD
            refine W.widen (k := 0) (n := 0) (by omega) (by omega) ?_
            exact W.vret hx hb hr (fun t ht hW => ⟨⟨[(mo, .inr (6, [.int z0, .ref q1, .int (nI g), .ref q3, .ref q4, .ref q5, .ref q6, .int pr, .int gr, .int kd, .long (w1 + 0), .ref q11, .int mk, .long w13, .long w14])), (q3, .inl (cI, 800, .inl m3)), (q5, .inl (cI, 800, .inl m5)), (q6, .inl (cI, 2, .inl (jl [nI n, nI n2]))), (q11, .inl (cI, 24, .inl (jl [t0, nI i, t2, nI e1, t4, nI i, t6, nI e1, t8, t9, t10, t11, t12, t13, t14, t15, t16, t17, t18, t19, t20, t21, t22, t23])))], rfl, (⟨_, _, rfl, by assumption, by assumption⟩), by rw [ht]; exact hP, hD⟩, hS.F ht⟩) hS.2.2 dX6_goes_125
          · refine lv_lconst (v := 1) hx hb dX6_goes_79 (by decide) ?_
            refine lv_goto (tgt := 84) hx hb dX6_goes_80 (by decide) ?_
            refine lv_ladd hx hb dX6_goes_84 ?_
            refine va_put (D := D) (ci := 6) (v := .long (w1 + 1)) (ty := .long) (C := RX6) (T := TX6) (N := 15) hx hb hts (by decide +kernel) tyX6 tyX6_ok nmX6 hown hK hP hD hS 0 rfl rfl 10 (by decide) (hts (.fieldLink RX6 53 "JoinDeskModel" "cells" "J") (by decide +kernel)) (fun _ h9 => h9) rfl (by decide +kernel) rfl rfl (Nat.le_of_ble_eq_true rfl) dX6_goes_85 (fun H locs hP hD hS => ?_)
            have hP : va_P D vwCl [(mo, .inr (6, [.int z0, .ref q1, .int (nI g), .ref q3, .ref q4, .ref q5, .ref q6, .int pr, .int gr, .int kd, .long (w1 + 1), .ref q11, .int mk, .long w13, .long w14])), (q3, .inl (cI, 800, .inl m3)), (q5, .inl (cI, 800, .inl m5)), (q6, .inl (cI, 2, .inl (jl [nI n, nI n2]))), (q11, .inl (cI, 24, .inl (jl [t0, nI e1, t2, t3, t4, t5, t6, t7, t8, t9, t10, t11, t12, t13, t14, t15, t16, t17, t18, t19, t20, t21, t22, t23])))] H := hP
            have hD : va_D A [(mo, .inr (6, [.int z0, .ref q1, .int (nI g), .ref q3, .ref q4, .ref q5, .ref q6, .int pr, .int gr, .int kd, .long (w1 + 1), .ref q11, .int mk, .long w13, .long w14])), (q3, .inl (cI, 800, .inl m3)), (q5, .inl (cI, 800, .inl m5)), (q6, .inl (cI, 2, .inl (jl [nI n, nI n2]))), (q11, .inl (cI, 24, .inl (jl [t0, nI e1, t2, t3, t4, t5, t6, t7, t8, t9, t10, t11, t12, t13, t14, t15, t16, t17, t18, t19, t20, t21, t22, t23])))] := hD
            refine lv_aload_n hx hb dX6_goes_88 rfl (lv_at hl 0 rfl) ?_
            refine va_get (D := D) (ci := 6) (v := .ref q11) (C := RX6) (T := TX6) (N := 15) hx hb hts (by decide +kernel) hown hK hP 0 rfl rfl 11 (by decide) (hts (.fieldLink RX6 25 "JoinDeskModel" "at" "[I") (by decide +kernel)) (fun _ h9 => h9) rfl dX6_goes_89 ?_
            refine lv_iconst (v := 2) hx hb dX6_goes_92 (by decide) ?_
            refine lv_iload_n hx hb dX6_goes_93 rfl (lv_at hl 1 rfl) ?_
            refine lv_iadd hx hb dX6_goes_94 ?_
            refine lv_topi (fun z_20 e_z_20 => ?_)
            obtain rfl : z_20 = 3 := e_z_20.trans (by decide)
            refine lv_iload_n hx hb dX6_goes_95 rfl (lv_at hl 2 rfl) ?_
            refine va_iast hx hb hK hP hD hS 4 0 rfl rfl (by unfold vp_in; decide) dX6_goes_96 (fun H locs hP hD hS => ?_)
            rw [jl_upd (show (3 : Int32).toNatClampNeg = 3 by decide) (Nat.le_of_ble_eq_true rfl)] at hP hD
            have hP : va_P D vwCl [(mo, .inr (6, [.int z0, .ref q1, .int (nI g), .ref q3, .ref q4, .ref q5, .ref q6, .int pr, .int gr, .int kd, .long (w1 + 1), .ref q11, .int mk, .long w13, .long w14])), (q3, .inl (cI, 800, .inl m3)), (q5, .inl (cI, 800, .inl m5)), (q6, .inl (cI, 2, .inl (jl [nI n, nI n2]))), (q11, .inl (cI, 24, .inl (jl [t0, nI e1, t2, nI e1, t4, t5, t6, t7, t8, t9, t10, t11, t12, t13, t14, t15, t16, t17, t18, t19, t20, t21, t22, t23])))] H := hP
            have hD : va_D A [(mo, .inr (6, [.int z0, .ref q1, .int (nI g), .ref q3, .ref q4, .ref q5, .ref q6, .int pr, .int gr, .int kd, .long (w1 + 1), .ref q11, .int mk, .long w13, .long w14])), (q3, .inl (cI, 800, .inl m3)), (q5, .inl (cI, 800, .inl m5)), (q6, .inl (cI, 2, .inl (jl [nI n, nI n2]))), (q11, .inl (cI, 24, .inl (jl [t0, nI e1, t2, nI e1, t4, t5, t6, t7, t8, t9, t10, t11, t12, t13, t14, t15, t16, t17, t18, t19, t20, t21, t22, t23])))] := hD
            refine lv_aload_n hx hb dX6_goes_97 rfl (lv_at hl 0 rfl) ?_
            refine va_get (D := D) (ci := 6) (v := .ref q11) (C := RX6) (T := TX6) (N := 15) hx hb hts (by decide +kernel) hown hK hP 0 rfl rfl 11 (by decide) (hts (.fieldLink RX6 25 "JoinDeskModel" "at" "[I") (by decide +kernel)) (fun _ h9 => h9) rfl dX6_goes_98 ?_
            refine lv_iconst (v := 4) hx hb dX6_goes_101 (by decide) ?_
            refine lv_iload_n hx hb dX6_goes_102 rfl (lv_at hl 1 rfl) ?_
            refine lv_iadd hx hb dX6_goes_103 ?_
            refine lv_topi (fun z_21 e_z_21 => ?_)
            obtain rfl : z_21 = 5 := e_z_21.trans (by decide)
            refine lv_iload_n hx hb dX6_goes_104 rfl (lv_at hl 3 rfl) ?_
            refine va_iast hx hb hK hP hD hS 4 0 rfl rfl (by unfold vp_in; decide) dX6_goes_105 (fun H locs hP hD hS => ?_)
            rw [jl_upd (show (5 : Int32).toNatClampNeg = 5 by decide) (Nat.le_of_ble_eq_true rfl)] at hP hD
            have hP : va_P D vwCl [(mo, .inr (6, [.int z0, .ref q1, .int (nI g), .ref q3, .ref q4, .ref q5, .ref q6, .int pr, .int gr, .int kd, .long (w1 + 1), .ref q11, .int mk, .long w13, .long w14])), (q3, .inl (cI, 800, .inl m3)), (q5, .inl (cI, 800, .inl m5)), (q6, .inl (cI, 2, .inl (jl [nI n, nI n2]))), (q11, .inl (cI, 24, .inl (jl [t0, nI e1, t2, nI e1, t4, nI i, t6, t7, t8, t9, t10, t11, t12, t13, t14, t15, t16, t17, t18, t19, t20, t21, t22, t23])))] H := hP
            have hD : va_D A [(mo, .inr (6, [.int z0, .ref q1, .int (nI g), .ref q3, .ref q4, .ref q5, .ref q6, .int pr, .int gr, .int kd, .long (w1 + 1), .ref q11, .int mk, .long w13, .long w14])), (q3, .inl (cI, 800, .inl m3)), (q5, .inl (cI, 800, .inl m5)), (q6, .inl (cI, 2, .inl (jl [nI n, nI n2]))), (q11, .inl (cI, 24, .inl (jl [t0, nI e1, t2, nI e1, t4, nI i, t6, t7, t8, t9, t10, t11, t12, t13, t14, t15, t16, t17, t18, t19, t20, t21, t22, t23])))] := hD
            refine lv_aload_n hx hb dX6_goes_106 rfl (lv_at hl 0 rfl) ?_
            refine va_get (D := D) (ci := 6) (v := .ref q11) (C := RX6) (T := TX6) (N := 15) hx hb hts (by decide +kernel) hown hK hP 0 rfl rfl 11 (by decide) (hts (.fieldLink RX6 25 "JoinDeskModel" "at" "[I") (by decide +kernel)) (fun _ h9 => h9) rfl dX6_goes_107 ?_
            refine lv_bipush (v := 6) hx hb dX6_goes_110 (by decide) ?_
            refine lv_iload_n hx hb dX6_goes_112 rfl (lv_at hl 1 rfl) ?_
            refine lv_iadd hx hb dX6_goes_113 ?_
            refine lv_topi (fun z_22 e_z_22 => ?_)
            obtain rfl : z_22 = 7 := e_z_22.trans (by decide)
            refine lv_iload_n hx hb dX6_goes_114 rfl (lv_at hl 2 rfl) ?_
            refine va_iast hx hb hK hP hD hS 4 0 rfl rfl (by unfold vp_in; decide) dX6_goes_115 (fun H locs hP hD hS => ?_)
            rw [jl_upd (show (7 : Int32).toNatClampNeg = 7 by decide) (Nat.le_of_ble_eq_true rfl)] at hP hD
            have hP : va_P D vwCl [(mo, .inr (6, [.int z0, .ref q1, .int (nI g), .ref q3, .ref q4, .ref q5, .ref q6, .int pr, .int gr, .int kd, .long (w1 + 1), .ref q11, .int mk, .long w13, .long w14])), (q3, .inl (cI, 800, .inl m3)), (q5, .inl (cI, 800, .inl m5)), (q6, .inl (cI, 2, .inl (jl [nI n, nI n2]))), (q11, .inl (cI, 24, .inl (jl [t0, nI e1, t2, nI e1, t4, nI i, t6, nI e1, t8, t9, t10, t11, t12, t13, t14, t15, t16, t17, t18, t19, t20, t21, t22, t23])))] H := hP
            have hD : va_D A [(mo, .inr (6, [.int z0, .ref q1, .int (nI g), .ref q3, .ref q4, .ref q5, .ref q6, .int pr, .int gr, .int kd, .long (w1 + 1), .ref q11, .int mk, .long w13, .long w14])), (q3, .inl (cI, 800, .inl m3)), (q5, .inl (cI, 800, .inl m5)), (q6, .inl (cI, 2, .inl (jl [nI n, nI n2]))), (q11, .inl (cI, 24, .inl (jl [t0, nI e1, t2, nI e1, t4, nI i, t6, nI e1, t8, t9, t10, t11, t12, t13, t14, t15, t16, t17, t18, t19, t20, t21, t22, t23])))] := hD
            refine lv_aload_n hx hb dX6_goes_116 rfl (lv_at hl 0 rfl) ?_
            refine va_get (D := D) (ci := 6) (v := .ref q11) (C := RX6) (T := TX6) (N := 15) hx hb hts (by decide +kernel) hown hK hP 0 rfl rfl 11 (by decide) (hts (.fieldLink RX6 25 "JoinDeskModel" "at" "[I") (by decide +kernel)) (fun _ h9 => h9) rfl dX6_goes_117 ?_
            refine lv_iconst (v := 0) hx hb dX6_goes_120 (by decide) ?_
            refine lv_iload_n hx hb dX6_goes_121 rfl (lv_at hl 1 rfl) ?_
            refine lv_iadd hx hb dX6_goes_122 ?_
            refine lv_topi (fun z_23 e_z_23 => ?_)
            obtain rfl : z_23 = 1 := e_z_23.trans (by decide)
            refine lv_iload_n hx hb dX6_goes_123 rfl (lv_at hl 3 rfl) ?_
            refine va_iast hx hb hK hP hD hS 4 0 rfl rfl (by unfold vp_in; decide) dX6_goes_124 (fun H locs hP hD hS => ?_)
            rw [jl_upd (show (1 : Int32).toNatClampNeg = 1 by decide) (Nat.le_of_ble_eq_true rfl)] at hP hD
            have hP : va_P D vwCl [(mo, .inr (6, [.int z0, .ref q1, .int (nI g), .ref q3, .ref q4, .ref q5, .ref q6, .int pr, .int gr, .int kd, .long (w1 + 1), .ref q11, .int mk, .long w13, .long w14])), (q3, .inl (cI, 800, .inl m3)), (q5, .inl (cI, 800, .inl m5)), (q6, .inl (cI, 2, .inl (jl [nI n, nI n2]))), (q11, .inl (cI, 24, .inl (jl [t0, nI i, t2, nI e1, t4, nI i, t6, nI e1, t8, t9, t10, t11, t12, t13, t14, t15, t16, t17, t18, t19, t20, t21, t22, t23])))] H := hP
            have hD : va_D A [(mo, .inr (6, [.int z0, .ref q1, .int (nI g), .ref q3, .ref q4, .ref q5, .ref q6, .int pr, .int gr, .int kd, .long (w1 + 1), .ref q11, .int mk, .long w13, .long w14])), (q3, .inl (cI, 800, .inl m3)), (q5, .inl (cI, 800, .inl m5)), (q6, .inl (cI, 2, .inl (jl [nI n, nI n2]))), (q11, .inl (cI, 24, .inl (jl [t0, nI i, t2, nI e1, t4, nI i, t6, nI e1, t8, t9, t10, t11, t12, t13, t14, t15, t16, t17, t18, t19, t20, t21, t22, t23])))] := hD
            refine W.widen (k := 0) (n := 0) (by omega) (by omega) ?_
            exact W.vret hx hb hr (fun t ht hW => ⟨⟨[(mo, .inr (6, [.int z0, .ref q1, .int (nI g), .ref q3, .ref q4, .ref q5, .ref q6, .int pr, .int gr, .int kd, .long (w1 + 1), .ref q11, .int mk, .long w13, .long w14])), (q3, .inl (cI, 800, .inl m3)), (q5, .inl (cI, 800, .inl m5)), (q6, .inl (cI, 2, .inl (jl [nI n, nI n2]))), (q11, .inl (cI, 24, .inl (jl [t0, nI i, t2, nI e1, t4, nI i, t6, nI e1, t8, t9, t10, t11, t12, t13, t14, t15, t16, t17, t18, t19, t20, t21, t22, t23])))], rfl, (⟨_, _, rfl, by assumption, by assumption⟩), by rw [ht]; exact hP, hD⟩, hS.F ht⟩) hS.2.2 dX6_goes_125
        · refine lv_iinc (v := nI (i + 1)) (lv' := [(3, .int (nI (i + 1))), (0, .ref mo), (1, .int 1), (2, .int (nI e1))]) hx hb dX6_goes_48 hl (k := 3) rfl (nI_1 _) (by decide) rfl (fun ls hl => ?_)
          refine lv_aload_n hx hb dX6_goes_51 rfl (lv_at hl 1 rfl) ?_
          refine lv_dup hx hb dX6_goes_52 rfl ?_
          refine va_get (D := D) (ci := 6) (v := .long w1) (C := RX6) (T := TX6) (N := 15) hx hb hts (by decide +kernel) hown hK hP 0 rfl rfl 10 (by decide) (hts (.fieldLink RX6 53 "JoinDeskModel" "cells" "J") (by decide +kernel)) (fun _ h9 => h9) rfl dX6_goes_53 ?_
          refine lv_lconst (v := 1) hx hb dX6_goes_56 (by decide) ?_
          refine lv_ladd hx hb dX6_goes_57 ?_
          refine va_put (D := D) (ci := 6) (v := .long (w1 + 1)) (ty := .long) (C := RX6) (T := TX6) (N := 15) hx hb hts (by decide +kernel) tyX6 tyX6_ok nmX6 hown hK hP hD hS 0 rfl rfl 10 (by decide) (hts (.fieldLink RX6 53 "JoinDeskModel" "cells" "J") (by decide +kernel)) (fun _ h9 => h9) rfl (by decide +kernel) rfl rfl (Nat.le_of_ble_eq_true rfl) dX6_goes_58 (fun H locs hP hD hS => ?_)
          have hP : va_P D vwCl [(mo, .inr (6, [.int z0, .ref q1, .int (nI g), .ref q3, .ref q4, .ref q5, .ref q6, .int pr, .int gr, .int kd, .long (w1 + 1), .ref q11, .int mk, .long w13, .long w14])), (q3, .inl (cI, 800, .inl m3)), (q5, .inl (cI, 800, .inl m5)), (q6, .inl (cI, 2, .inl (jl [nI n, nI n2]))), (q11, .inl (cI, 24, .inl (jl [t0, nI e1, t2, t3, t4, t5, t6, t7, t8, t9, t10, t11, t12, t13, t14, t15, t16, t17, t18, t19, t20, t21, t22, t23])))] H := hP
          have hD : va_D A [(mo, .inr (6, [.int z0, .ref q1, .int (nI g), .ref q3, .ref q4, .ref q5, .ref q6, .int pr, .int gr, .int kd, .long (w1 + 1), .ref q11, .int mk, .long w13, .long w14])), (q3, .inl (cI, 800, .inl m3)), (q5, .inl (cI, 800, .inl m5)), (q6, .inl (cI, 2, .inl (jl [nI n, nI n2]))), (q11, .inl (cI, 24, .inl (jl [t0, nI e1, t2, t3, t4, t5, t6, t7, t8, t9, t10, t11, t12, t13, t14, t15, t16, t17, t18, t19, t20, t21, t22, t23])))] := hD
          refine lv_goto (tgt := 23) hx hb dX6_goes_61 (by decide) ?_
          exact ih_1 (i + 1) (w1 + 1) (by rw [nI_leI (by omega) (by omega)] at cge; omega) (by rw [nI_leI (by omega) (by omega)] at cge; omega) (by omega) _ _ hP hD hS ls (lv_sub hl [1, 2, 3, 0] rfl)
  exact hloop_1 (n2 - (e1 + 1) + 1) (e1 + 1) (w10 + 1) (Nat.lt_succ_self _) (by omega) (by omega) _ _ hP hD hS ls (lv_sub hl [2, 3, 1, 0] rfl)
set_option maxHeartbeats 1000000 in
set_option maxRecDepth 100000 in
theorem gM_steps_1 (l : Launch) (D : va_G) (cI cL cQ : ClassId) (mo : Nat) (g : Nat) (q1 : Nat) (q3 : Nat) (q4 : Nat) (q5 : Nat) (q6 : Nat) (q11 : Nat) (z0 : Int32) (pr : Int32) (gr : Int32) (kd : Int32) (mk : Int32) (w10 : Int64) (w13 : Int64) (w14 : Int64) (t2 : Int32) (t3 : Int32) (t5 : Int32) (t7 : Int32) (t10 : Int32) (t11 : Int32) (t12 : Int32) (t13 : Int32) (t14 : Int32) (t15 : Int32) (t16 : Int32) (t17 : Int32) (t18 : Int32) (t19 : Int32) (t20 : Int32) (t21 : Int32) (t22 : Int32) (t23 : Int32) (e0 : Nat) (e1 : Nat) (d0 : Nat) (r0 : Nat) (sz : Nat) (hr0 : r0 < d0) (hd0 : d0 ≤ 400) : Met l yX6_steps wsX6_steps ({ frames := 0, cells := 0, slots := 0, locals := 0 }) (jw_P D vwCl (jT cI cL cQ) cL cQ [.ref mo] [(mo, .inr (6, [.int z0, .ref q1, .int (nI g), .ref q3, .ref q4, .ref q5, .ref q6, .int pr, .int gr, .int kd, .long w10, .ref q11, .int mk, .long w13, .long w14])), (q11, .inl (cI, 24, .inl (jl [nI e0, nI e1, t2, t3, nI d0, t5, nI r0, t7, 1, 1, t10, t11, t12, t13, t14, t15, t16, t17, t18, t19, t20, t21, t22, t23])))] sz) (va_Qi (fun (r : Int32) (u : va_W) => (r = 1 ∧ u = [(mo, .inr (6, [.int z0, .ref q1, .int (nI g), .ref q3, .ref q4, .ref q5, .ref q6, .int pr, .int gr, .int kd, .long w10, .ref q11, .int mk, .long w13, .long w14])), (q11, .inl (cI, 24, .inl (jl [nI e0, nI e1, t2, t3, nI d0, t5, nI (r0 + 1), t7, 1, 1, t10, t11, t12, t13, t14, t15, t16, t17, t18, t19, t20, t21, t22, t23])))] ∧ (r0 + 1 < d0)) ∨ (r = 0 ∧ u = [(mo, .inr (6, [.int z0, .ref q1, .int (nI g), .ref q3, .ref q4, .ref q5, .ref q6, .int pr, .int gr, .int kd, .long w10, .ref q11, .int mk, .long w13, .long w14])), (q11, .inl (cI, 24, .inl (jl [nI e0, nI e1, t2, t3, nI d0, t5, nI (r0 + 1), t7, 1, 1, t10, t11, t12, t13, t14, t15, t16, t17, t18, t19, t20, t21, t22, t23])))])) (jw_B D vwCl (va_A [(mo, .inr (6, [.int z0, .ref q1, .int (nI g), .ref q3, .ref q4, .ref q5, .ref q6, .int pr, .int gr, .int kd, .long w10, .ref q11, .int mk, .long w13, .long w14])), (q11, .inl (cI, 24, .inl (jl [nI e0, nI e1, t2, t3, nI d0, t5, nI r0, t7, 1, 1, t10, t11, t12, t13, t14, t15, t16, t17, t18, t19, t20, t21, t22, t23])))] sz) (fun u : va_W => u)) (va_A [(mo, .inr (6, [.int z0, .ref q1, .int (nI g), .ref q3, .ref q4, .ref q5, .ref q6, .int pr, .int gr, .int kd, .long w10, .ref q11, .int mk, .long w13, .long w14])), (q11, .inl (cI, 24, .inl (jl [nI e0, nI e1, t2, t3, nI d0, t5, nI r0, t7, 1, 1, t10, t11, t12, t13, t14, t15, t16, t17, t18, t19, t20, t21, t22, t23])))] sz)) 0 0 (va_A [(mo, .inr (6, [.int z0, .ref q1, .int (nI g), .ref q3, .ref q4, .ref q5, .ref q6, .int pr, .int gr, .int kd, .long w10, .ref q11, .int mk, .long w13, .long w14])), (q11, .inl (cI, 24, .inl (jl [nI e0, nI e1, t2, t3, nI d0, t5, nI r0, t7, 1, 1, t10, t11, t12, t13, t14, t15, t16, t17, t18, t19, t20, t21, t22, t23])))] sz) := by
  refine Met.ofW (cc := cX6_steps) (maxL := 2) (ret := (some .boolean)) (by decide) rfl ?_
  intro p e s m args below meth c s₁ B hml hv
  obtain ⟨rfl, hsz, hP, hK, hN, hD0⟩ := hv
  have hx := B.exec
  have hb := B.bytes
  have hr := B.returns
  have hts := atoms_spec (ws := wsX6_steps) B.pre
  have hown : s.vm.findClass RX6 = some m.cls := findClass_of_methodNamed B.named
  have hlocks := B.notSynchronized
  subst hsz
  have hD := hD0.self (sz := s.heap.size)
  generalize hAe : va_A [(mo, .inr (6, [.int z0, .ref q1, .int (nI g), .ref q3, .ref q4, .ref q5, .ref q6, .int pr, .int gr, .int kd, .long w10, .ref q11, .int mk, .long w13, .long w14])), (q11, .inl (cI, 24, .inl (jl [nI e0, nI e1, t2, t3, nI d0, t5, nI r0, t7, 1, 1, t10, t11, t12, t13, t14, t15, t16, t17, t18, t19, t20, t21, t22, t23])))] s.heap.size = A at hD ⊢
  have hA : ∀ q : Nat, s.heap.size ≤ q → A q := fun q h => by rw [← hAe]; exact Or.inr h
  have hS : va_S A s.heap s.heap [] := va_S.rf
  have hl := lv_entry ([.ref mo]) (n := 2) (Nat.le_of_ble_eq_true rfl)
  rw [lg_entry_eq]
  generalize (lg_sl ([.ref mo]) ++ List.replicate (2 - (lg_sl ([.ref mo])).length) Slot.unset).toArray = ls at hl ⊢
  have hl : lv_has ls 2 [(0, .ref mo)] := hl
  refine lv_aload_n hx hb dX6_steps_0 rfl (lv_at hl 0 rfl) ?_
  refine va_get (D := D) (ci := 6) (v := .ref q11) (C := RX6) (T := TX6) (N := 15) hx hb hts (by decide +kernel) hown hK hP 0 rfl rfl 11 (by decide) (hts (.fieldLink RX6 25 "JoinDeskModel" "at" "[I") (by decide +kernel)) (fun _ h9 => h9) rfl dX6_steps_1 ?_
  refine lv_bipush (v := 8) hx hb dX6_steps_4 (by decide) ?_
  refine va_iald hx hb hK hP 1 0 rfl rfl (by unfold vp_in; decide) dX6_steps_6 ?_
  refine W.eq (g2 := F0 m 7 ls [.int 1]) rfl ?_
  refine lv_istore_n (lv' := [(1, .int 1), (0, .ref mo)]) hx hb dX6_steps_7 rfl hl (by decide) rfl (fun ls hl => ?_)
  refine lv_iload_n hx hb dX6_steps_8 rfl (lv_at hl 0 rfl) ?_
  refine lv_if_eq (tgt := 57) hx hb dX6_steps_9 (by decide) (fun c_1 => absurd c_1 (by decide)) (fun c_1 => ?_)
  refine lv_aload_n hx hb dX6_steps_12 rfl (lv_at hl 1 rfl) ?_
  refine va_get (D := D) (ci := 6) (v := .ref q11) (C := RX6) (T := TX6) (N := 15) hx hb hts (by decide +kernel) hown hK hP 0 rfl rfl 11 (by decide) (hts (.fieldLink RX6 25 "JoinDeskModel" "at" "[I") (by decide +kernel)) (fun _ h9 => h9) rfl dX6_steps_13 ?_
  refine lv_bipush (v := 6) hx hb dX6_steps_16 (by decide) ?_
  refine lv_iload_n hx hb dX6_steps_18 rfl (lv_at hl 0 rfl) ?_
  refine lv_iadd hx hb dX6_steps_19 ?_
  refine lv_topi (fun z_2 e_z_2 => ?_)
  obtain rfl : z_2 = 7 := e_z_2.trans (by decide)
  refine lv_iconst (v := 1) hx hb dX6_steps_20 (by decide) ?_
  refine lv_isub hx hb dX6_steps_21 ?_
  refine lv_topi (fun z_3 e_z_3 => ?_)
  obtain rfl : z_3 = 6 := e_z_3.trans (by decide)
  refine lv_dup2_11 hx hb dX6_steps_22 rfl rfl ?_
  refine va_iald hx hb hK hP 1 0 rfl rfl (by unfold vp_in; decide) dX6_steps_23 ?_
  refine W.eq (g2 := F0 m 24 ls [.int (nI r0), .int 6, .ref q11]) rfl ?_
  refine lv_iconst (v := 1) hx hb dX6_steps_24 (by decide) ?_
  refine lv_iadd hx hb dX6_steps_25 ?_
  refine lv_topi (fun z_4 e_z_4 => ?_)
  obtain rfl : z_4 = nI (r0 + 1) := e_z_4.trans (nI_add r0 1)
  refine va_iast hx hb hK hP hD hS 1 0 rfl rfl (by unfold vp_in; decide) dX6_steps_26 (fun H locs hP hD hS => ?_)
  rw [jl_upd (show (6 : Int32).toNatClampNeg = 6 by decide) (Nat.le_of_ble_eq_true rfl)] at hP hD
  have hP : va_P D vwCl [(mo, .inr (6, [.int z0, .ref q1, .int (nI g), .ref q3, .ref q4, .ref q5, .ref q6, .int pr, .int gr, .int kd, .long w10, .ref q11, .int mk, .long w13, .long w14])), (q11, .inl (cI, 24, .inl (jl [nI e0, nI e1, t2, t3, nI d0, t5, nI (r0 + 1), t7, 1, 1, t10, t11, t12, t13, t14, t15, t16, t17, t18, t19, t20, t21, t22, t23])))] H := hP
  have hD : va_D A [(mo, .inr (6, [.int z0, .ref q1, .int (nI g), .ref q3, .ref q4, .ref q5, .ref q6, .int pr, .int gr, .int kd, .long w10, .ref q11, .int mk, .long w13, .long w14])), (q11, .inl (cI, 24, .inl (jl [nI e0, nI e1, t2, t3, nI d0, t5, nI (r0 + 1), t7, 1, 1, t10, t11, t12, t13, t14, t15, t16, t17, t18, t19, t20, t21, t22, t23])))] := hD
  refine lv_aload_n hx hb dX6_steps_27 rfl (lv_at hl 1 rfl) ?_
  refine va_get (D := D) (ci := 6) (v := .ref q11) (C := RX6) (T := TX6) (N := 15) hx hb hts (by decide +kernel) hown hK hP 0 rfl rfl 11 (by decide) (hts (.fieldLink RX6 25 "JoinDeskModel" "at" "[I") (by decide +kernel)) (fun _ h9 => h9) rfl dX6_steps_28 ?_
  refine lv_bipush (v := 6) hx hb dX6_steps_31 (by decide) ?_
  refine lv_iload_n hx hb dX6_steps_33 rfl (lv_at hl 0 rfl) ?_
  refine lv_iadd hx hb dX6_steps_34 ?_
  refine lv_topi (fun z_5 e_z_5 => ?_)
  obtain rfl : z_5 = 7 := e_z_5.trans (by decide)
  refine lv_iconst (v := 1) hx hb dX6_steps_35 (by decide) ?_
  refine lv_isub hx hb dX6_steps_36 ?_
  refine lv_topi (fun z_6 e_z_6 => ?_)
  obtain rfl : z_6 = 6 := e_z_6.trans (by decide)
  refine va_iald hx hb hK hP 1 0 rfl rfl (by unfold vp_in; decide) dX6_steps_37 ?_
  refine W.eq (g2 := F0 m 38 ls [.int (nI (r0 + 1))]) rfl ?_
  refine lv_aload_n hx hb dX6_steps_38 rfl (lv_at hl 1 rfl) ?_
  refine va_get (D := D) (ci := 6) (v := .ref q11) (C := RX6) (T := TX6) (N := 15) hx hb hts (by decide +kernel) hown hK hP 0 rfl rfl 11 (by decide) (hts (.fieldLink RX6 25 "JoinDeskModel" "at" "[I") (by decide +kernel)) (fun _ h9 => h9) rfl dX6_steps_39 ?_
  refine lv_iconst (v := 4) hx hb dX6_steps_42 (by decide) ?_
  refine lv_iload_n hx hb dX6_steps_43 rfl (lv_at hl 0 rfl) ?_
  refine lv_iadd hx hb dX6_steps_44 ?_
  refine lv_topi (fun z_7 e_z_7 => ?_)
  obtain rfl : z_7 = 5 := e_z_7.trans (by decide)
  refine lv_iconst (v := 1) hx hb dX6_steps_45 (by decide) ?_
  refine lv_isub hx hb dX6_steps_46 ?_
  refine lv_topi (fun z_8 e_z_8 => ?_)
  obtain rfl : z_8 = 4 := e_z_8.trans (by decide)
  refine va_iald hx hb hK hP 1 0 rfl rfl (by unfold vp_in; decide) dX6_steps_47 ?_
  refine W.eq (g2 := F0 m 48 ls [.int (nI d0), .int (nI (r0 + 1))]) rfl ?_
  refine lv_icmp_ge (tgt := 55) hx hb dX6_steps_48 (by decide) (fun cge => ?_) (fun cge => ?_)
  · refine lv_iconst (v := 0) hx hb dX6_steps_55 (by decide) ?_
    refine W.widen (k := 0) (n := 0) (by omega) (by omega) ?_
    exact W.zret (v := 0) (ty := .boolean) hx hb hr rfl (fun t ht hW => ⟨⟨0, [(mo, .inr (6, [.int z0, .ref q1, .int (nI g), .ref q3, .ref q4, .ref q5, .ref q6, .int pr, .int gr, .int kd, .long w10, .ref q11, .int mk, .long w13, .long w14])), (q11, .inl (cI, 24, .inl (jl [nI e0, nI e1, t2, t3, nI d0, t5, nI (r0 + 1), t7, 1, 1, t10, t11, t12, t13, t14, t15, t16, t17, t18, t19, t20, t21, t22, t23])))], rfl, (by exact Or.inr ⟨rfl, rfl⟩), by rw [ht]; exact hP, hD⟩, hS.F ht⟩) hS.2.2 dX6_steps_56
  · refine lv_iconst (v := 1) hx hb dX6_steps_51 (by decide) ?_
    refine lv_goto (tgt := 56) hx hb dX6_steps_52 (by decide) ?_
    refine W.widen (k := 0) (n := 0) (by omega) (by omega) ?_
    exact W.zret (v := 1) (ty := .boolean) hx hb hr rfl (fun t ht hW => ⟨⟨1, [(mo, .inr (6, [.int z0, .ref q1, .int (nI g), .ref q3, .ref q4, .ref q5, .ref q6, .int pr, .int gr, .int kd, .long w10, .ref q11, .int mk, .long w13, .long w14])), (q11, .inl (cI, 24, .inl (jl [nI e0, nI e1, t2, t3, nI d0, t5, nI (r0 + 1), t7, 1, 1, t10, t11, t12, t13, t14, t15, t16, t17, t18, t19, t20, t21, t22, t23])))], rfl, (by exact Or.inl ⟨rfl, rfl, by rw [nI_leI (by omega) (by omega)] at cge; omega⟩), by rw [ht]; exact hP, hD⟩, hS.F ht⟩) hS.2.2 dX6_steps_56
set_option maxHeartbeats 1000000 in
set_option maxRecDepth 100000 in
theorem gM_steps_2 (l : Launch) (D : va_G) (cI cL cQ : ClassId) (mo : Nat) (g : Nat) (q1 : Nat) (q3 : Nat) (q4 : Nat) (q5 : Nat) (q6 : Nat) (q11 : Nat) (z0 : Int32) (pr : Int32) (gr : Int32) (kd : Int32) (mk : Int32) (w10 : Int64) (w13 : Int64) (w14 : Int64) (t2 : Int32) (t3 : Int32) (t4 : Int32) (t6 : Int32) (t10 : Int32) (t11 : Int32) (t12 : Int32) (t13 : Int32) (t14 : Int32) (t15 : Int32) (t16 : Int32) (t17 : Int32) (t18 : Int32) (t19 : Int32) (t20 : Int32) (t21 : Int32) (t22 : Int32) (t23 : Int32) (e0 : Nat) (e1 : Nat) (d1 : Nat) (r1 : Nat) (sz : Nat) (hr1 : r1 < d1) (hd1 : d1 ≤ 400) : Met l yX6_steps wsX6_steps ({ frames := 0, cells := 0, slots := 0, locals := 0 }) (jw_P D vwCl (jT cI cL cQ) cL cQ [.ref mo] [(mo, .inr (6, [.int z0, .ref q1, .int (nI g), .ref q3, .ref q4, .ref q5, .ref q6, .int pr, .int gr, .int kd, .long w10, .ref q11, .int mk, .long w13, .long w14])), (q11, .inl (cI, 24, .inl (jl [nI e0, nI e1, t2, t3, t4, nI d1, t6, nI r1, 2, 1, t10, t11, t12, t13, t14, t15, t16, t17, t18, t19, t20, t21, t22, t23])))] sz) (va_Qi (fun (r : Int32) (u : va_W) => (r = 1 ∧ u = [(mo, .inr (6, [.int z0, .ref q1, .int (nI g), .ref q3, .ref q4, .ref q5, .ref q6, .int pr, .int gr, .int kd, .long w10, .ref q11, .int mk, .long w13, .long w14])), (q11, .inl (cI, 24, .inl (jl [nI e0, nI e1, t2, t3, t4, nI d1, t6, nI (r1 + 1), 2, 1, t10, t11, t12, t13, t14, t15, t16, t17, t18, t19, t20, t21, t22, t23])))] ∧ (r1 + 1 < d1)) ∨ (r = 0 ∧ u = [(mo, .inr (6, [.int z0, .ref q1, .int (nI g), .ref q3, .ref q4, .ref q5, .ref q6, .int pr, .int gr, .int kd, .long w10, .ref q11, .int mk, .long w13, .long w14])), (q11, .inl (cI, 24, .inl (jl [nI e0, nI e1, t2, t3, t4, nI d1, t6, nI (r1 + 1), 2, 1, t10, t11, t12, t13, t14, t15, t16, t17, t18, t19, t20, t21, t22, t23])))])) (jw_B D vwCl (va_A [(mo, .inr (6, [.int z0, .ref q1, .int (nI g), .ref q3, .ref q4, .ref q5, .ref q6, .int pr, .int gr, .int kd, .long w10, .ref q11, .int mk, .long w13, .long w14])), (q11, .inl (cI, 24, .inl (jl [nI e0, nI e1, t2, t3, t4, nI d1, t6, nI r1, 2, 1, t10, t11, t12, t13, t14, t15, t16, t17, t18, t19, t20, t21, t22, t23])))] sz) (fun u : va_W => u)) (va_A [(mo, .inr (6, [.int z0, .ref q1, .int (nI g), .ref q3, .ref q4, .ref q5, .ref q6, .int pr, .int gr, .int kd, .long w10, .ref q11, .int mk, .long w13, .long w14])), (q11, .inl (cI, 24, .inl (jl [nI e0, nI e1, t2, t3, t4, nI d1, t6, nI r1, 2, 1, t10, t11, t12, t13, t14, t15, t16, t17, t18, t19, t20, t21, t22, t23])))] sz)) 0 0 (va_A [(mo, .inr (6, [.int z0, .ref q1, .int (nI g), .ref q3, .ref q4, .ref q5, .ref q6, .int pr, .int gr, .int kd, .long w10, .ref q11, .int mk, .long w13, .long w14])), (q11, .inl (cI, 24, .inl (jl [nI e0, nI e1, t2, t3, t4, nI d1, t6, nI r1, 2, 1, t10, t11, t12, t13, t14, t15, t16, t17, t18, t19, t20, t21, t22, t23])))] sz) := by
  refine Met.ofW (cc := cX6_steps) (maxL := 2) (ret := (some .boolean)) (by decide) rfl ?_
  intro p e s m args below meth c s₁ B hml hv
  obtain ⟨rfl, hsz, hP, hK, hN, hD0⟩ := hv
  have hx := B.exec
  have hb := B.bytes
  have hr := B.returns
  have hts := atoms_spec (ws := wsX6_steps) B.pre
  have hown : s.vm.findClass RX6 = some m.cls := findClass_of_methodNamed B.named
  have hlocks := B.notSynchronized
  subst hsz
  have hD := hD0.self (sz := s.heap.size)
  generalize hAe : va_A [(mo, .inr (6, [.int z0, .ref q1, .int (nI g), .ref q3, .ref q4, .ref q5, .ref q6, .int pr, .int gr, .int kd, .long w10, .ref q11, .int mk, .long w13, .long w14])), (q11, .inl (cI, 24, .inl (jl [nI e0, nI e1, t2, t3, t4, nI d1, t6, nI r1, 2, 1, t10, t11, t12, t13, t14, t15, t16, t17, t18, t19, t20, t21, t22, t23])))] s.heap.size = A at hD ⊢
  have hA : ∀ q : Nat, s.heap.size ≤ q → A q := fun q h => by rw [← hAe]; exact Or.inr h
  have hS : va_S A s.heap s.heap [] := va_S.rf
  have hl := lv_entry ([.ref mo]) (n := 2) (Nat.le_of_ble_eq_true rfl)
  rw [lg_entry_eq]
  generalize (lg_sl ([.ref mo]) ++ List.replicate (2 - (lg_sl ([.ref mo])).length) Slot.unset).toArray = ls at hl ⊢
  have hl : lv_has ls 2 [(0, .ref mo)] := hl
  refine lv_aload_n hx hb dX6_steps_0 rfl (lv_at hl 0 rfl) ?_
  refine va_get (D := D) (ci := 6) (v := .ref q11) (C := RX6) (T := TX6) (N := 15) hx hb hts (by decide +kernel) hown hK hP 0 rfl rfl 11 (by decide) (hts (.fieldLink RX6 25 "JoinDeskModel" "at" "[I") (by decide +kernel)) (fun _ h9 => h9) rfl dX6_steps_1 ?_
  refine lv_bipush (v := 8) hx hb dX6_steps_4 (by decide) ?_
  refine va_iald hx hb hK hP 1 0 rfl rfl (by unfold vp_in; decide) dX6_steps_6 ?_
  refine W.eq (g2 := F0 m 7 ls [.int 2]) rfl ?_
  refine lv_istore_n (lv' := [(1, .int 2), (0, .ref mo)]) hx hb dX6_steps_7 rfl hl (by decide) rfl (fun ls hl => ?_)
  refine lv_iload_n hx hb dX6_steps_8 rfl (lv_at hl 0 rfl) ?_
  refine lv_if_eq (tgt := 57) hx hb dX6_steps_9 (by decide) (fun c_1 => absurd c_1 (by decide)) (fun c_1 => ?_)
  refine lv_aload_n hx hb dX6_steps_12 rfl (lv_at hl 1 rfl) ?_
  refine va_get (D := D) (ci := 6) (v := .ref q11) (C := RX6) (T := TX6) (N := 15) hx hb hts (by decide +kernel) hown hK hP 0 rfl rfl 11 (by decide) (hts (.fieldLink RX6 25 "JoinDeskModel" "at" "[I") (by decide +kernel)) (fun _ h9 => h9) rfl dX6_steps_13 ?_
  refine lv_bipush (v := 6) hx hb dX6_steps_16 (by decide) ?_
  refine lv_iload_n hx hb dX6_steps_18 rfl (lv_at hl 0 rfl) ?_
  refine lv_iadd hx hb dX6_steps_19 ?_
  refine lv_topi (fun z_2 e_z_2 => ?_)
  obtain rfl : z_2 = 8 := e_z_2.trans (by decide)
  refine lv_iconst (v := 1) hx hb dX6_steps_20 (by decide) ?_
  refine lv_isub hx hb dX6_steps_21 ?_
  refine lv_topi (fun z_3 e_z_3 => ?_)
  obtain rfl : z_3 = 7 := e_z_3.trans (by decide)
  refine lv_dup2_11 hx hb dX6_steps_22 rfl rfl ?_
  refine va_iald hx hb hK hP 1 0 rfl rfl (by unfold vp_in; decide) dX6_steps_23 ?_
  refine W.eq (g2 := F0 m 24 ls [.int (nI r1), .int 7, .ref q11]) rfl ?_
  refine lv_iconst (v := 1) hx hb dX6_steps_24 (by decide) ?_
  refine lv_iadd hx hb dX6_steps_25 ?_
  refine lv_topi (fun z_4 e_z_4 => ?_)
  obtain rfl : z_4 = nI (r1 + 1) := e_z_4.trans (nI_add r1 1)
  refine va_iast hx hb hK hP hD hS 1 0 rfl rfl (by unfold vp_in; decide) dX6_steps_26 (fun H locs hP hD hS => ?_)
  rw [jl_upd (show (7 : Int32).toNatClampNeg = 7 by decide) (Nat.le_of_ble_eq_true rfl)] at hP hD
  have hP : va_P D vwCl [(mo, .inr (6, [.int z0, .ref q1, .int (nI g), .ref q3, .ref q4, .ref q5, .ref q6, .int pr, .int gr, .int kd, .long w10, .ref q11, .int mk, .long w13, .long w14])), (q11, .inl (cI, 24, .inl (jl [nI e0, nI e1, t2, t3, t4, nI d1, t6, nI (r1 + 1), 2, 1, t10, t11, t12, t13, t14, t15, t16, t17, t18, t19, t20, t21, t22, t23])))] H := hP
  have hD : va_D A [(mo, .inr (6, [.int z0, .ref q1, .int (nI g), .ref q3, .ref q4, .ref q5, .ref q6, .int pr, .int gr, .int kd, .long w10, .ref q11, .int mk, .long w13, .long w14])), (q11, .inl (cI, 24, .inl (jl [nI e0, nI e1, t2, t3, t4, nI d1, t6, nI (r1 + 1), 2, 1, t10, t11, t12, t13, t14, t15, t16, t17, t18, t19, t20, t21, t22, t23])))] := hD
  refine lv_aload_n hx hb dX6_steps_27 rfl (lv_at hl 1 rfl) ?_
  refine va_get (D := D) (ci := 6) (v := .ref q11) (C := RX6) (T := TX6) (N := 15) hx hb hts (by decide +kernel) hown hK hP 0 rfl rfl 11 (by decide) (hts (.fieldLink RX6 25 "JoinDeskModel" "at" "[I") (by decide +kernel)) (fun _ h9 => h9) rfl dX6_steps_28 ?_
  refine lv_bipush (v := 6) hx hb dX6_steps_31 (by decide) ?_
  refine lv_iload_n hx hb dX6_steps_33 rfl (lv_at hl 0 rfl) ?_
  refine lv_iadd hx hb dX6_steps_34 ?_
  refine lv_topi (fun z_5 e_z_5 => ?_)
  obtain rfl : z_5 = 8 := e_z_5.trans (by decide)
  refine lv_iconst (v := 1) hx hb dX6_steps_35 (by decide) ?_
  refine lv_isub hx hb dX6_steps_36 ?_
  refine lv_topi (fun z_6 e_z_6 => ?_)
  obtain rfl : z_6 = 7 := e_z_6.trans (by decide)
  refine va_iald hx hb hK hP 1 0 rfl rfl (by unfold vp_in; decide) dX6_steps_37 ?_
  refine W.eq (g2 := F0 m 38 ls [.int (nI (r1 + 1))]) rfl ?_
  refine lv_aload_n hx hb dX6_steps_38 rfl (lv_at hl 1 rfl) ?_
  refine va_get (D := D) (ci := 6) (v := .ref q11) (C := RX6) (T := TX6) (N := 15) hx hb hts (by decide +kernel) hown hK hP 0 rfl rfl 11 (by decide) (hts (.fieldLink RX6 25 "JoinDeskModel" "at" "[I") (by decide +kernel)) (fun _ h9 => h9) rfl dX6_steps_39 ?_
  refine lv_iconst (v := 4) hx hb dX6_steps_42 (by decide) ?_
  refine lv_iload_n hx hb dX6_steps_43 rfl (lv_at hl 0 rfl) ?_
  refine lv_iadd hx hb dX6_steps_44 ?_
  refine lv_topi (fun z_7 e_z_7 => ?_)
  obtain rfl : z_7 = 6 := e_z_7.trans (by decide)
  refine lv_iconst (v := 1) hx hb dX6_steps_45 (by decide) ?_
  refine lv_isub hx hb dX6_steps_46 ?_
  refine lv_topi (fun z_8 e_z_8 => ?_)
  obtain rfl : z_8 = 5 := e_z_8.trans (by decide)
  refine va_iald hx hb hK hP 1 0 rfl rfl (by unfold vp_in; decide) dX6_steps_47 ?_
  refine W.eq (g2 := F0 m 48 ls [.int (nI d1), .int (nI (r1 + 1))]) rfl ?_
  refine lv_icmp_ge (tgt := 55) hx hb dX6_steps_48 (by decide) (fun cge => ?_) (fun cge => ?_)
  · refine lv_iconst (v := 0) hx hb dX6_steps_55 (by decide) ?_
    refine W.widen (k := 0) (n := 0) (by omega) (by omega) ?_
    exact W.zret (v := 0) (ty := .boolean) hx hb hr rfl (fun t ht hW => ⟨⟨0, [(mo, .inr (6, [.int z0, .ref q1, .int (nI g), .ref q3, .ref q4, .ref q5, .ref q6, .int pr, .int gr, .int kd, .long w10, .ref q11, .int mk, .long w13, .long w14])), (q11, .inl (cI, 24, .inl (jl [nI e0, nI e1, t2, t3, t4, nI d1, t6, nI (r1 + 1), 2, 1, t10, t11, t12, t13, t14, t15, t16, t17, t18, t19, t20, t21, t22, t23])))], rfl, (by exact Or.inr ⟨rfl, rfl⟩), by rw [ht]; exact hP, hD⟩, hS.F ht⟩) hS.2.2 dX6_steps_56
  · refine lv_iconst (v := 1) hx hb dX6_steps_51 (by decide) ?_
    refine lv_goto (tgt := 56) hx hb dX6_steps_52 (by decide) ?_
    refine W.widen (k := 0) (n := 0) (by omega) (by omega) ?_
    exact W.zret (v := 1) (ty := .boolean) hx hb hr rfl (fun t ht hW => ⟨⟨1, [(mo, .inr (6, [.int z0, .ref q1, .int (nI g), .ref q3, .ref q4, .ref q5, .ref q6, .int pr, .int gr, .int kd, .long w10, .ref q11, .int mk, .long w13, .long w14])), (q11, .inl (cI, 24, .inl (jl [nI e0, nI e1, t2, t3, t4, nI d1, t6, nI (r1 + 1), 2, 1, t10, t11, t12, t13, t14, t15, t16, t17, t18, t19, t20, t21, t22, t23])))], rfl, (by exact Or.inl ⟨rfl, rfl, by rw [nI_leI (by omega) (by omega)] at cge; omega⟩), by rw [ht]; exact hP, hD⟩, hS.F ht⟩) hS.2.2 dX6_steps_56
set_option maxHeartbeats 1000000 in
set_option maxRecDepth 100000 in
theorem gM_steps_0 (l : Launch) (D : va_G) (cI cL cQ : ClassId) (mo : Nat) (g : Nat) (q1 : Nat) (q3 : Nat) (q4 : Nat) (q5 : Nat) (q6 : Nat) (q11 : Nat) (z0 : Int32) (pr : Int32) (gr : Int32) (kd : Int32) (mk : Int32) (w10 : Int64) (w13 : Int64) (w14 : Int64) (t2 : Int32) (t10 : Int32) (t11 : Int32) (t12 : Int32) (t13 : Int32) (t14 : Int32) (t15 : Int32) (t16 : Int32) (t17 : Int32) (t18 : Int32) (t19 : Int32) (t20 : Int32) (t21 : Int32) (t22 : Int32) (t23 : Int32) (e0 : Nat) (e1 : Nat) (f1 : Nat) (d0 : Nat) (d1 : Nat) (r0 : Nat) (r1 : Nat) (sz : Nat) (hf1 : f1 < d1) (hr0 : r0 < d0) (hr1 : r1 < d1) (hd0 : d0 ≤ 400) (hd1 : d1 ≤ 400) : Met l yX6_steps wsX6_steps ({ frames := 0, cells := 0, slots := 0, locals := 0 }) (jw_P D vwCl (jT cI cL cQ) cL cQ [.ref mo] [(mo, .inr (6, [.int z0, .ref q1, .int (nI g), .ref q3, .ref q4, .ref q5, .ref q6, .int pr, .int gr, .int kd, .long w10, .ref q11, .int mk, .long w13, .long w14])), (q11, .inl (cI, 24, .inl (jl [nI e0, nI e1, t2, nI f1, nI d0, nI d1, nI r0, nI r1, 0, 1, t10, t11, t12, t13, t14, t15, t16, t17, t18, t19, t20, t21, t22, t23])))] sz) (va_Qi (fun (r : Int32) (u : va_W) => (∃ (y0 : Nat) (y1 : Nat), r = 1 ∧ u = [(mo, .inr (6, [.int z0, .ref q1, .int (nI g), .ref q3, .ref q4, .ref q5, .ref q6, .int pr, .int gr, .int kd, .long w10, .ref q11, .int mk, .long w13, .long w14])), (q11, .inl (cI, 24, .inl (jl [nI e0, nI e1, t2, nI f1, nI d0, nI d1, nI y0, nI y1, 0, 1, t10, t11, t12, t13, t14, t15, t16, t17, t18, t19, t20, t21, t22, t23])))] ∧ (y0 < d0) ∧ (y1 < d1)) ∨ (∃ (y0 : Nat) (y1 : Nat), r = 0 ∧ u = [(mo, .inr (6, [.int z0, .ref q1, .int (nI g), .ref q3, .ref q4, .ref q5, .ref q6, .int pr, .int gr, .int kd, .long w10, .ref q11, .int mk, .long w13, .long w14])), (q11, .inl (cI, 24, .inl (jl [nI e0, nI e1, t2, nI f1, nI d0, nI d1, nI y0, nI y1, 0, 1, t10, t11, t12, t13, t14, t15, t16, t17, t18, t19, t20, t21, t22, t23])))])) (jw_B D vwCl (va_A [(mo, .inr (6, [.int z0, .ref q1, .int (nI g), .ref q3, .ref q4, .ref q5, .ref q6, .int pr, .int gr, .int kd, .long w10, .ref q11, .int mk, .long w13, .long w14])), (q11, .inl (cI, 24, .inl (jl [nI e0, nI e1, t2, nI f1, nI d0, nI d1, nI r0, nI r1, 0, 1, t10, t11, t12, t13, t14, t15, t16, t17, t18, t19, t20, t21, t22, t23])))] sz) (fun u : va_W => u)) (va_A [(mo, .inr (6, [.int z0, .ref q1, .int (nI g), .ref q3, .ref q4, .ref q5, .ref q6, .int pr, .int gr, .int kd, .long w10, .ref q11, .int mk, .long w13, .long w14])), (q11, .inl (cI, 24, .inl (jl [nI e0, nI e1, t2, nI f1, nI d0, nI d1, nI r0, nI r1, 0, 1, t10, t11, t12, t13, t14, t15, t16, t17, t18, t19, t20, t21, t22, t23])))] sz)) 0 0 (va_A [(mo, .inr (6, [.int z0, .ref q1, .int (nI g), .ref q3, .ref q4, .ref q5, .ref q6, .int pr, .int gr, .int kd, .long w10, .ref q11, .int mk, .long w13, .long w14])), (q11, .inl (cI, 24, .inl (jl [nI e0, nI e1, t2, nI f1, nI d0, nI d1, nI r0, nI r1, 0, 1, t10, t11, t12, t13, t14, t15, t16, t17, t18, t19, t20, t21, t22, t23])))] sz) := by
  refine Met.ofW (cc := cX6_steps) (maxL := 2) (ret := (some .boolean)) (by decide) rfl ?_
  intro p e s m args below meth c s₁ B hml hv
  obtain ⟨rfl, hsz, hP, hK, hN, hD0⟩ := hv
  have hx := B.exec
  have hb := B.bytes
  have hr := B.returns
  have hts := atoms_spec (ws := wsX6_steps) B.pre
  have hown : s.vm.findClass RX6 = some m.cls := findClass_of_methodNamed B.named
  have hlocks := B.notSynchronized
  subst hsz
  have hD := hD0.self (sz := s.heap.size)
  generalize hAe : va_A [(mo, .inr (6, [.int z0, .ref q1, .int (nI g), .ref q3, .ref q4, .ref q5, .ref q6, .int pr, .int gr, .int kd, .long w10, .ref q11, .int mk, .long w13, .long w14])), (q11, .inl (cI, 24, .inl (jl [nI e0, nI e1, t2, nI f1, nI d0, nI d1, nI r0, nI r1, 0, 1, t10, t11, t12, t13, t14, t15, t16, t17, t18, t19, t20, t21, t22, t23])))] s.heap.size = A at hD ⊢
  have hA : ∀ q : Nat, s.heap.size ≤ q → A q := fun q h => by rw [← hAe]; exact Or.inr h
  have hS : va_S A s.heap s.heap [] := va_S.rf
  have hl := lv_entry ([.ref mo]) (n := 2) (Nat.le_of_ble_eq_true rfl)
  rw [lg_entry_eq]
  generalize (lg_sl ([.ref mo]) ++ List.replicate (2 - (lg_sl ([.ref mo])).length) Slot.unset).toArray = ls at hl ⊢
  have hl : lv_has ls 2 [(0, .ref mo)] := hl
  refine lv_aload_n hx hb dX6_steps_0 rfl (lv_at hl 0 rfl) ?_
  refine va_get (D := D) (ci := 6) (v := .ref q11) (C := RX6) (T := TX6) (N := 15) hx hb hts (by decide +kernel) hown hK hP 0 rfl rfl 11 (by decide) (hts (.fieldLink RX6 25 "JoinDeskModel" "at" "[I") (by decide +kernel)) (fun _ h9 => h9) rfl dX6_steps_1 ?_
  refine lv_bipush (v := 8) hx hb dX6_steps_4 (by decide) ?_
  refine va_iald hx hb hK hP 1 0 rfl rfl (by unfold vp_in; decide) dX6_steps_6 ?_
  refine W.eq (g2 := F0 m 7 ls [.int 0]) rfl ?_
  refine lv_istore_n (lv' := [(1, .int 0), (0, .ref mo)]) hx hb dX6_steps_7 rfl hl (by decide) rfl (fun ls hl => ?_)
  refine lv_iload_n hx hb dX6_steps_8 rfl (lv_at hl 0 rfl) ?_
  refine lv_if_eq (tgt := 57) hx hb dX6_steps_9 (by decide) (fun c_1 => ?_) (fun c_1 => absurd c_1 (by decide))
  refine lv_aload_n hx hb dX6_steps_57 rfl (lv_at hl 1 rfl) ?_
  refine va_get (D := D) (ci := 6) (v := .ref q11) (C := RX6) (T := TX6) (N := 15) hx hb hts (by decide +kernel) hown hK hP 0 rfl rfl 11 (by decide) (hts (.fieldLink RX6 25 "JoinDeskModel" "at" "[I") (by decide +kernel)) (fun _ h9 => h9) rfl dX6_steps_58 ?_
  refine lv_bipush (v := 7) hx hb dX6_steps_61 (by decide) ?_
  refine lv_dup2_11 hx hb dX6_steps_63 rfl rfl ?_
  refine va_iald hx hb hK hP 1 0 rfl rfl (by unfold vp_in; decide) dX6_steps_64 ?_
  refine W.eq (g2 := F0 m 65 ls [.int (nI r1), .int 7, .ref q11]) rfl ?_
  refine lv_iconst (v := 1) hx hb dX6_steps_65 (by decide) ?_
  refine lv_iadd hx hb dX6_steps_66 ?_
  refine lv_topi (fun z_2 e_z_2 => ?_)
  obtain rfl : z_2 = nI (r1 + 1) := e_z_2.trans (nI_add r1 1)
  refine va_iast hx hb hK hP hD hS 1 0 rfl rfl (by unfold vp_in; decide) dX6_steps_67 (fun H locs hP hD hS => ?_)
  rw [jl_upd (show (7 : Int32).toNatClampNeg = 7 by decide) (Nat.le_of_ble_eq_true rfl)] at hP hD
  have hP : va_P D vwCl [(mo, .inr (6, [.int z0, .ref q1, .int (nI g), .ref q3, .ref q4, .ref q5, .ref q6, .int pr, .int gr, .int kd, .long w10, .ref q11, .int mk, .long w13, .long w14])), (q11, .inl (cI, 24, .inl (jl [nI e0, nI e1, t2, nI f1, nI d0, nI d1, nI r0, nI (r1 + 1), 0, 1, t10, t11, t12, t13, t14, t15, t16, t17, t18, t19, t20, t21, t22, t23])))] H := hP
  have hD : va_D A [(mo, .inr (6, [.int z0, .ref q1, .int (nI g), .ref q3, .ref q4, .ref q5, .ref q6, .int pr, .int gr, .int kd, .long w10, .ref q11, .int mk, .long w13, .long w14])), (q11, .inl (cI, 24, .inl (jl [nI e0, nI e1, t2, nI f1, nI d0, nI d1, nI r0, nI (r1 + 1), 0, 1, t10, t11, t12, t13, t14, t15, t16, t17, t18, t19, t20, t21, t22, t23])))] := hD
  refine lv_aload_n hx hb dX6_steps_68 rfl (lv_at hl 1 rfl) ?_
  refine va_get (D := D) (ci := 6) (v := .ref q11) (C := RX6) (T := TX6) (N := 15) hx hb hts (by decide +kernel) hown hK hP 0 rfl rfl 11 (by decide) (hts (.fieldLink RX6 25 "JoinDeskModel" "at" "[I") (by decide +kernel)) (fun _ h9 => h9) rfl dX6_steps_69 ?_
  refine lv_bipush (v := 7) hx hb dX6_steps_72 (by decide) ?_
  refine va_iald hx hb hK hP 1 0 rfl rfl (by unfold vp_in; decide) dX6_steps_74 ?_
  refine W.eq (g2 := F0 m 75 ls [.int (nI (r1 + 1))]) rfl ?_
  refine lv_aload_n hx hb dX6_steps_75 rfl (lv_at hl 1 rfl) ?_
  refine va_get (D := D) (ci := 6) (v := .ref q11) (C := RX6) (T := TX6) (N := 15) hx hb hts (by decide +kernel) hown hK hP 0 rfl rfl 11 (by decide) (hts (.fieldLink RX6 25 "JoinDeskModel" "at" "[I") (by decide +kernel)) (fun _ h9 => h9) rfl dX6_steps_76 ?_
  refine lv_iconst (v := 5) hx hb dX6_steps_79 (by decide) ?_
  refine va_iald hx hb hK hP 1 0 rfl rfl (by unfold vp_in; decide) dX6_steps_80 ?_
  refine W.eq (g2 := F0 m 81 ls [.int (nI d1), .int (nI (r1 + 1))]) rfl ?_
  refine lv_icmp_ne (tgt := 108) hx hb dX6_steps_81 (by decide) (fun cne => ?_) (fun cne => ?_)
  · refine lv_aload_n hx hb dX6_steps_108 rfl (lv_at hl 1 rfl) ?_
    refine va_get (D := D) (ci := 6) (v := .ref q11) (C := RX6) (T := TX6) (N := 15) hx hb hts (by decide +kernel) hown hK hP 0 rfl rfl 11 (by decide) (hts (.fieldLink RX6 25 "JoinDeskModel" "at" "[I") (by decide +kernel)) (fun _ h9 => h9) rfl dX6_steps_109 ?_
    refine lv_bipush (v := 6) hx hb dX6_steps_112 (by decide) ?_
    refine va_iald hx hb hK hP 1 0 rfl rfl (by unfold vp_in; decide) dX6_steps_114 ?_
    refine W.eq (g2 := F0 m 115 ls [.int (nI r0)]) rfl ?_
    refine lv_aload_n hx hb dX6_steps_115 rfl (lv_at hl 1 rfl) ?_
    refine va_get (D := D) (ci := 6) (v := .ref q11) (C := RX6) (T := TX6) (N := 15) hx hb hts (by decide +kernel) hown hK hP 0 rfl rfl 11 (by decide) (hts (.fieldLink RX6 25 "JoinDeskModel" "at" "[I") (by decide +kernel)) (fun _ h9 => h9) rfl dX6_steps_116 ?_
    refine lv_iconst (v := 4) hx hb dX6_steps_119 (by decide) ?_
    refine va_iald hx hb hK hP 1 0 rfl rfl (by unfold vp_in; decide) dX6_steps_120 ?_
    refine W.eq (g2 := F0 m 121 ls [.int (nI d0), .int (nI r0)]) rfl ?_
    refine lv_icmp_ge (tgt := 128) hx hb dX6_steps_121 (by decide) (fun cge => ?_) (fun cge => ?_)
    · refine lv_iconst (v := 0) hx hb dX6_steps_128 (by decide) ?_
      refine W.widen (k := 0) (n := 0) (by omega) (by omega) ?_
      exact W.zret (v := 0) (ty := .boolean) hx hb hr rfl (fun t ht hW => ⟨⟨0, [(mo, .inr (6, [.int z0, .ref q1, .int (nI g), .ref q3, .ref q4, .ref q5, .ref q6, .int pr, .int gr, .int kd, .long w10, .ref q11, .int mk, .long w13, .long w14])), (q11, .inl (cI, 24, .inl (jl [nI e0, nI e1, t2, nI f1, nI d0, nI d1, nI r0, nI (r1 + 1), 0, 1, t10, t11, t12, t13, t14, t15, t16, t17, t18, t19, t20, t21, t22, t23])))], rfl, (by exact Or.inr ⟨_, _, rfl, rfl⟩), by rw [ht]; exact hP, hD⟩, hS.F ht⟩) hS.2.2 dX6_steps_129
    · refine lv_iconst (v := 1) hx hb dX6_steps_124 (by decide) ?_
      refine lv_goto (tgt := 129) hx hb dX6_steps_125 (by decide) ?_
      refine W.widen (k := 0) (n := 0) (by omega) (by omega) ?_
      exact W.zret (v := 1) (ty := .boolean) hx hb hr rfl (fun t ht hW => ⟨⟨1, [(mo, .inr (6, [.int z0, .ref q1, .int (nI g), .ref q3, .ref q4, .ref q5, .ref q6, .int pr, .int gr, .int kd, .long w10, .ref q11, .int mk, .long w13, .long w14])), (q11, .inl (cI, 24, .inl (jl [nI e0, nI e1, t2, nI f1, nI d0, nI d1, nI r0, nI (r1 + 1), 0, 1, t10, t11, t12, t13, t14, t15, t16, t17, t18, t19, t20, t21, t22, t23])))], rfl, (by exact Or.inl ⟨_, _, rfl, rfl, by rw [nI_leI (by omega) (by omega)] at cge; omega, by first | exact hf1 | (rw [nI_eq (by omega) (by omega)] at cne; omega)⟩), by rw [ht]; exact hP, hD⟩, hS.F ht⟩) hS.2.2 dX6_steps_129
  · refine lv_aload_n hx hb dX6_steps_84 rfl (lv_at hl 1 rfl) ?_
    refine va_get (D := D) (ci := 6) (v := .ref q11) (C := RX6) (T := TX6) (N := 15) hx hb hts (by decide +kernel) hown hK hP 0 rfl rfl 11 (by decide) (hts (.fieldLink RX6 25 "JoinDeskModel" "at" "[I") (by decide +kernel)) (fun _ h9 => h9) rfl dX6_steps_85 ?_
    refine lv_bipush (v := 7) hx hb dX6_steps_88 (by decide) ?_
    refine lv_aload_n hx hb dX6_steps_90 rfl (lv_at hl 1 rfl) ?_
    refine va_get (D := D) (ci := 6) (v := .ref q11) (C := RX6) (T := TX6) (N := 15) hx hb hts (by decide +kernel) hown hK hP 0 rfl rfl 11 (by decide) (hts (.fieldLink RX6 25 "JoinDeskModel" "at" "[I") (by decide +kernel)) (fun _ h9 => h9) rfl dX6_steps_91 ?_
    refine lv_iconst (v := 3) hx hb dX6_steps_94 (by decide) ?_
    refine va_iald hx hb hK hP 1 0 rfl rfl (by unfold vp_in; decide) dX6_steps_95 ?_
    refine W.eq (g2 := F0 m 96 ls [.int (nI f1), .int 7, .ref q11]) rfl ?_
    refine va_iast hx hb hK hP hD hS 1 0 rfl rfl (by unfold vp_in; decide) dX6_steps_96 (fun H locs hP hD hS => ?_)
    rw [jl_upd (show (7 : Int32).toNatClampNeg = 7 by decide) (Nat.le_of_ble_eq_true rfl)] at hP hD
    have hP : va_P D vwCl [(mo, .inr (6, [.int z0, .ref q1, .int (nI g), .ref q3, .ref q4, .ref q5, .ref q6, .int pr, .int gr, .int kd, .long w10, .ref q11, .int mk, .long w13, .long w14])), (q11, .inl (cI, 24, .inl (jl [nI e0, nI e1, t2, nI f1, nI d0, nI d1, nI r0, nI f1, 0, 1, t10, t11, t12, t13, t14, t15, t16, t17, t18, t19, t20, t21, t22, t23])))] H := hP
    have hD : va_D A [(mo, .inr (6, [.int z0, .ref q1, .int (nI g), .ref q3, .ref q4, .ref q5, .ref q6, .int pr, .int gr, .int kd, .long w10, .ref q11, .int mk, .long w13, .long w14])), (q11, .inl (cI, 24, .inl (jl [nI e0, nI e1, t2, nI f1, nI d0, nI d1, nI r0, nI f1, 0, 1, t10, t11, t12, t13, t14, t15, t16, t17, t18, t19, t20, t21, t22, t23])))] := hD
    refine lv_aload_n hx hb dX6_steps_97 rfl (lv_at hl 1 rfl) ?_
    refine va_get (D := D) (ci := 6) (v := .ref q11) (C := RX6) (T := TX6) (N := 15) hx hb hts (by decide +kernel) hown hK hP 0 rfl rfl 11 (by decide) (hts (.fieldLink RX6 25 "JoinDeskModel" "at" "[I") (by decide +kernel)) (fun _ h9 => h9) rfl dX6_steps_98 ?_
    refine lv_bipush (v := 6) hx hb dX6_steps_101 (by decide) ?_
    refine lv_dup2_11 hx hb dX6_steps_103 rfl rfl ?_
    refine va_iald hx hb hK hP 1 0 rfl rfl (by unfold vp_in; decide) dX6_steps_104 ?_
    refine W.eq (g2 := F0 m 105 ls [.int (nI r0), .int 6, .ref q11]) rfl ?_
    refine lv_iconst (v := 1) hx hb dX6_steps_105 (by decide) ?_
    refine lv_iadd hx hb dX6_steps_106 ?_
    refine lv_topi (fun z_3 e_z_3 => ?_)
    obtain rfl : z_3 = nI (r0 + 1) := e_z_3.trans (nI_add r0 1)
    refine va_iast hx hb hK hP hD hS 1 0 rfl rfl (by unfold vp_in; decide) dX6_steps_107 (fun H locs hP hD hS => ?_)
    rw [jl_upd (show (6 : Int32).toNatClampNeg = 6 by decide) (Nat.le_of_ble_eq_true rfl)] at hP hD
    have hP : va_P D vwCl [(mo, .inr (6, [.int z0, .ref q1, .int (nI g), .ref q3, .ref q4, .ref q5, .ref q6, .int pr, .int gr, .int kd, .long w10, .ref q11, .int mk, .long w13, .long w14])), (q11, .inl (cI, 24, .inl (jl [nI e0, nI e1, t2, nI f1, nI d0, nI d1, nI (r0 + 1), nI f1, 0, 1, t10, t11, t12, t13, t14, t15, t16, t17, t18, t19, t20, t21, t22, t23])))] H := hP
    have hD : va_D A [(mo, .inr (6, [.int z0, .ref q1, .int (nI g), .ref q3, .ref q4, .ref q5, .ref q6, .int pr, .int gr, .int kd, .long w10, .ref q11, .int mk, .long w13, .long w14])), (q11, .inl (cI, 24, .inl (jl [nI e0, nI e1, t2, nI f1, nI d0, nI d1, nI (r0 + 1), nI f1, 0, 1, t10, t11, t12, t13, t14, t15, t16, t17, t18, t19, t20, t21, t22, t23])))] := hD
    refine lv_aload_n hx hb dX6_steps_108 rfl (lv_at hl 1 rfl) ?_
    refine va_get (D := D) (ci := 6) (v := .ref q11) (C := RX6) (T := TX6) (N := 15) hx hb hts (by decide +kernel) hown hK hP 0 rfl rfl 11 (by decide) (hts (.fieldLink RX6 25 "JoinDeskModel" "at" "[I") (by decide +kernel)) (fun _ h9 => h9) rfl dX6_steps_109 ?_
    refine lv_bipush (v := 6) hx hb dX6_steps_112 (by decide) ?_
    refine va_iald hx hb hK hP 1 0 rfl rfl (by unfold vp_in; decide) dX6_steps_114 ?_
    refine W.eq (g2 := F0 m 115 ls [.int (nI (r0 + 1))]) rfl ?_
    refine lv_aload_n hx hb dX6_steps_115 rfl (lv_at hl 1 rfl) ?_
    refine va_get (D := D) (ci := 6) (v := .ref q11) (C := RX6) (T := TX6) (N := 15) hx hb hts (by decide +kernel) hown hK hP 0 rfl rfl 11 (by decide) (hts (.fieldLink RX6 25 "JoinDeskModel" "at" "[I") (by decide +kernel)) (fun _ h9 => h9) rfl dX6_steps_116 ?_
    refine lv_iconst (v := 4) hx hb dX6_steps_119 (by decide) ?_
    refine va_iald hx hb hK hP 1 0 rfl rfl (by unfold vp_in; decide) dX6_steps_120 ?_
    refine W.eq (g2 := F0 m 121 ls [.int (nI d0), .int (nI (r0 + 1))]) rfl ?_
    refine lv_icmp_ge (tgt := 128) hx hb dX6_steps_121 (by decide) (fun cge => ?_) (fun cge => ?_)
    · refine lv_iconst (v := 0) hx hb dX6_steps_128 (by decide) ?_
      refine W.widen (k := 0) (n := 0) (by omega) (by omega) ?_
      exact W.zret (v := 0) (ty := .boolean) hx hb hr rfl (fun t ht hW => ⟨⟨0, [(mo, .inr (6, [.int z0, .ref q1, .int (nI g), .ref q3, .ref q4, .ref q5, .ref q6, .int pr, .int gr, .int kd, .long w10, .ref q11, .int mk, .long w13, .long w14])), (q11, .inl (cI, 24, .inl (jl [nI e0, nI e1, t2, nI f1, nI d0, nI d1, nI (r0 + 1), nI f1, 0, 1, t10, t11, t12, t13, t14, t15, t16, t17, t18, t19, t20, t21, t22, t23])))], rfl, (by exact Or.inr ⟨_, _, rfl, rfl⟩), by rw [ht]; exact hP, hD⟩, hS.F ht⟩) hS.2.2 dX6_steps_129
    · refine lv_iconst (v := 1) hx hb dX6_steps_124 (by decide) ?_
      refine lv_goto (tgt := 129) hx hb dX6_steps_125 (by decide) ?_
      refine W.widen (k := 0) (n := 0) (by omega) (by omega) ?_
      exact W.zret (v := 1) (ty := .boolean) hx hb hr rfl (fun t ht hW => ⟨⟨1, [(mo, .inr (6, [.int z0, .ref q1, .int (nI g), .ref q3, .ref q4, .ref q5, .ref q6, .int pr, .int gr, .int kd, .long w10, .ref q11, .int mk, .long w13, .long w14])), (q11, .inl (cI, 24, .inl (jl [nI e0, nI e1, t2, nI f1, nI d0, nI d1, nI (r0 + 1), nI f1, 0, 1, t10, t11, t12, t13, t14, t15, t16, t17, t18, t19, t20, t21, t22, t23])))], rfl, (by exact Or.inl ⟨_, _, rfl, rfl, by rw [nI_leI (by omega) (by omega)] at cge; omega, by first | exact hf1 | (rw [nI_eq (by omega) (by omega)] at cne; omega)⟩), by rw [ht]; exact hP, hD⟩, hS.F ht⟩) hS.2.2 dX6_steps_129
