set_option maxHeartbeats 1000000 in
set_option maxRecDepth 100000 in
theorem gM_prepare (l : Launch) (D : va_G) (cI cL cQ : ClassId) (mo : Nat) (g : Nat) (n : Nat) (n2 : Nat) (q1 : Nat) (q3 : Nat) (q4 : Nat) (q5 : Nat) (q6 : Nat) (q11 : Nat) (z0 : Int32) (pr : Int32) (gr : Int32) (kd : Int32) (mk : Int32) (w10 : Int64) (w13 : Int64) (w14 : Int64) (m3 : Nat → Int32) (m5 : Nat → Int32) (t0 : Int32) (t1 : Int32) (t2 : Int32) (t3 : Int32) (t4 : Int32) (t5 : Int32) (t6 : Int32) (t7 : Int32) (t8 : Int32) (t9 : Int32) (t10 : Int32) (t11 : Int32) (t12 : Int32) (t13 : Int32) (t14 : Int32) (t15 : Int32) (t16 : Int32) (t17 : Int32) (t18 : Int32) (t19 : Int32) (t20 : Int32) (t21 : Int32) (t22 : Int32) (t23 : Int32) (sz : Nat) (hn : n ≤ 400) (hn2 : n2 ≤ 400) (h5 : jo5 m5) : Met l yX6_prepare wsX6_prepare ({ frames := 1, cells := 0, slots := 0, locals := 21 }) (jw_P D vwCl (jT cI cL cQ) cL cQ [.ref mo] [(mo, .inr (6, [.int z0, .ref q1, .int (nI g), .ref q3, .ref q4, .ref q5, .ref q6, .int pr, .int gr, .int kd, .long w10, .ref q11, .int mk, .long w13, .long w14])), (q3, .inl (cI, 800, .inl m3)), (q5, .inl (cI, 800, .inl m5)), (q6, .inl (cI, 2, .inl (jl [nI n, nI n2]))), (q11, .inl (cI, 24, .inl (jl [t0, t1, t2, t3, t4, t5, t6, t7, t8, t9, t10, t11, t12, t13, t14, t15, t16, t17, t18, t19, t20, t21, t22, t23])))] sz) (va_Qv (fun u : va_W => ∃ (k5 : Nat → Int32), u = [(mo, .inr (6, [.int 0, .ref q1, .int (nI g), .ref q3, .ref q4, .ref q5, .ref q6, .int 1, .int 0, .int kd, .long 0, .ref q11, .int 0, .long w13, .long w14])), (q3, .inl (cI, 800, .inl m3)), (q5, .inl (cI, 800, .inl k5)), (q6, .inl (cI, 2, .inl (jl [nI n, nI n2]))), (q11, .inl (cI, 24, .inl (jl [0, 0, 0, 0, 0, 0, 0, 0, 0, 0, 0, 0, t12, t13, t14, t15, t16, t17, t18, t19, t20, t21, t22, t23])))] ∧ (jo5 k5) ∧ (∀ x, x < n → jsh 0 k5 x = jS (jsh 0 m3) n x) ∧ (∀ x, x < n2 → jsh 400 k5 x = jS (jsh 400 m3) n2 x)) (jw_B D vwCl (va_A [(mo, .inr (6, [.int z0, .ref q1, .int (nI g), .ref q3, .ref q4, .ref q5, .ref q6, .int pr, .int gr, .int kd, .long w10, .ref q11, .int mk, .long w13, .long w14])), (q3, .inl (cI, 800, .inl m3)), (q5, .inl (cI, 800, .inl m5)), (q6, .inl (cI, 2, .inl (jl [nI n, nI n2]))), (q11, .inl (cI, 24, .inl (jl [t0, t1, t2, t3, t4, t5, t6, t7, t8, t9, t10, t11, t12, t13, t14, t15, t16, t17, t18, t19, t20, t21, t22, t23])))] sz) (fun u : va_W => u)) (va_A [(mo, .inr (6, [.int z0, .ref q1, .int (nI g), .ref q3, .ref q4, .ref q5, .ref q6, .int pr, .int gr, .int kd, .long w10, .ref q11, .int mk, .long w13, .long w14])), (q3, .inl (cI, 800, .inl m3)), (q5, .inl (cI, 800, .inl m5)), (q6, .inl (cI, 2, .inl (jl [nI n, nI n2]))), (q11, .inl (cI, 24, .inl (jl [t0, t1, t2, t3, t4, t5, t6, t7, t8, t9, t10, t11, t12, t13, t14, t15, t16, t17, t18, t19, t20, t21, t22, t23])))] sz)) 0 0 (va_A [(mo, .inr (6, [.int z0, .ref q1, .int (nI g), .ref q3, .ref q4, .ref q5, .ref q6, .int pr, .int gr, .int kd, .long w10, .ref q11, .int mk, .long w13, .long w14])), (q3, .inl (cI, 800, .inl m3)), (q5, .inl (cI, 800, .inl m5)), (q6, .inl (cI, 2, .inl (jl [nI n, nI n2]))), (q11, .inl (cI, 24, .inl (jl [t0, t1, t2, t3, t4, t5, t6, t7, t8, t9, t10, t11, t12, t13, t14, t15, t16, t17, t18, t19, t20, t21, t22, t23])))] sz) := by
  refine Met.ofW (cc := cX6_prepare) (maxL := 4) (ret := none) (by decide) rfl ?_
  intro p e s m args below meth c s₁ B hml hv
  obtain ⟨rfl, hsz, hP, hK, hN, hD0⟩ := hv
  have hx := B.exec
  have hb := B.bytes
  have hr := B.returns
  have hts := atoms_spec (ws := wsX6_prepare) B.pre
  have hown : s.vm.findClass RX6 = some m.cls := findClass_of_methodNamed B.named
  have hlocks := B.notSynchronized
  subst hsz
  have hD := hD0.self (sz := s.heap.size)
  generalize hAe : va_A [(mo, .inr (6, [.int z0, .ref q1, .int (nI g), .ref q3, .ref q4, .ref q5, .ref q6, .int pr, .int gr, .int kd, .long w10, .ref q11, .int mk, .long w13, .long w14])), (q3, .inl (cI, 800, .inl m3)), (q5, .inl (cI, 800, .inl m5)), (q6, .inl (cI, 2, .inl (jl [nI n, nI n2]))), (q11, .inl (cI, 24, .inl (jl [t0, t1, t2, t3, t4, t5, t6, t7, t8, t9, t10, t11, t12, t13, t14, t15, t16, t17, t18, t19, t20, t21, t22, t23])))] s.heap.size = A at hD ⊢
  have hA : ∀ q : Nat, s.heap.size ≤ q → A q := fun q h => by rw [← hAe]; exact Or.inr h
  have hS : va_S A s.heap s.heap [] := va_S.rf
  have hl := lv_entry ([.ref mo]) (n := 4) (Nat.le_of_ble_eq_true rfl)
  rw [lg_entry_eq]
  generalize (lg_sl ([.ref mo]) ++ List.replicate (4 - (lg_sl ([.ref mo])).length) Slot.unset).toArray = ls at hl ⊢
  have hl : lv_has ls 4 [(0, .ref mo)] := hl
  refine lv_aload_n hx hb dX6_prepare_0 rfl (lv_at hl 0 rfl) ?_
  refine lv_iconst (v := 0) hx hb dX6_prepare_1 (by decide) ?_
  refine va_put (D := D) (ci := 6) (v := .int 0) (ty := .int) (C := RX6) (T := TX6) (N := 15) hx hb hts (by decide +kernel) tyX6 tyX6_ok nmX6 hown hK hP hD hS 0 rfl rfl 0 (by decide) (hts (.fieldLink RX6 36 "JoinDeskModel" "code" "I") (by decide +kernel)) (fun _ h9 => h9) rfl (by decide +kernel) rfl rfl (Nat.le_of_ble_eq_true rfl) dX6_prepare_2 (fun H locs hP hD hS => ?_)
  have hP : va_P D vwCl [(mo, .inr (6, [.int 0, .ref q1, .int (nI g), .ref q3, .ref q4, .ref q5, .ref q6, .int pr, .int gr, .int kd, .long w10, .ref q11, .int mk, .long w13, .long w14])), (q3, .inl (cI, 800, .inl m3)), (q5, .inl (cI, 800, .inl m5)), (q6, .inl (cI, 2, .inl (jl [nI n, nI n2]))), (q11, .inl (cI, 24, .inl (jl [t0, t1, t2, t3, t4, t5, t6, t7, t8, t9, t10, t11, t12, t13, t14, t15, t16, t17, t18, t19, t20, t21, t22, t23])))] H := hP
  have hD : va_D A [(mo, .inr (6, [.int 0, .ref q1, .int (nI g), .ref q3, .ref q4, .ref q5, .ref q6, .int pr, .int gr, .int kd, .long w10, .ref q11, .int mk, .long w13, .long w14])), (q3, .inl (cI, 800, .inl m3)), (q5, .inl (cI, 800, .inl m5)), (q6, .inl (cI, 2, .inl (jl [nI n, nI n2]))), (q11, .inl (cI, 24, .inl (jl [t0, t1, t2, t3, t4, t5, t6, t7, t8, t9, t10, t11, t12, t13, t14, t15, t16, t17, t18, t19, t20, t21, t22, t23])))] := hD
  refine lv_iconst (v := 0) hx hb dX6_prepare_5 (by decide) ?_
  refine lv_istore_n (lv' := [(1, .int 0), (0, .ref mo)]) hx hb dX6_prepare_6 rfl hl (by decide) rfl (fun ls hl => ?_)
  refine lv_iload_n hx hb dX6_prepare_7 rfl (lv_at hl 0 rfl) ?_
  refine lv_iconst (v := 2) hx hb dX6_prepare_8 (by decide) ?_
  refine lv_icmp_ge (tgt := 127) hx hb dX6_prepare_9 (by decide) (fun c_1 => absurd c_1 (by decide)) (fun c_1 => ?_)
  refine lv_iconst (v := 0) hx hb dX6_prepare_12 (by decide) ?_
  refine lv_istore_n (lv' := [(2, .int 0), (1, .int 0), (0, .ref mo)]) hx hb dX6_prepare_13 rfl hl (by decide) rfl (fun ls hl => ?_)
  have hloop_1 : ∀ (k_1 : Nat) (i0 : Nat) (o0 : Nat → Int32), n - i0 < k_1 → (i0 ≤ n) → (jo5 o0) → (∀ x, x < i0 → jsh 0 o0 x = jS (jsh 0 m3) i0 x) → ∀ (H : Heap) (locs : List Loc), va_P D vwCl [(mo, .inr (6, [.int 0, .ref q1, .int (nI g), .ref q3, .ref q4, .ref q5, .ref q6, .int pr, .int gr, .int kd, .long w10, .ref q11, .int mk, .long w13, .long w14])), (q3, .inl (cI, 800, .inl m3)), (q5, .inl (cI, 800, .inl o0)), (q6, .inl (cI, 2, .inl (jl [nI n, nI n2]))), (q11, .inl (cI, 24, .inl (jl [t0, t1, t2, t3, t4, t5, t6, t7, t8, t9, t10, t11, t12, t13, t14, t15, t16, t17, t18, t19, t20, t21, t22, t23])))] H → va_D A [(mo, .inr (6, [.int 0, .ref q1, .int (nI g), .ref q3, .ref q4, .ref q5, .ref q6, .int pr, .int gr, .int kd, .long w10, .ref q11, .int mk, .long w13, .long w14])), (q3, .inl (cI, 800, .inl m3)), (q5, .inl (cI, 800, .inl o0)), (q6, .inl (cI, 2, .inl (jl [nI n, nI n2]))), (q11, .inl (cI, 24, .inl (jl [t0, t1, t2, t3, t4, t5, t6, t7, t8, t9, t10, t11, t12, t13, t14, t15, t16, t17, t18, t19, t20, t21, t22, t23])))] → va_S A s.heap H locs → ∀ ls : Array Slot, lv_has ls 4 [(0, .ref mo), (1, .int 0), (2, .int (nI i0))] → W p l e (headSpec wsX6_prepare ({ frames := 1, cells := 0, slots := 0, locals := 21 })).room s m #[.ref mo] below meth c H locs 0 0 (MQ below (va_Qv (fun u : va_W => ∃ (k5 : Nat → Int32), u = [(mo, .inr (6, [.int 0, .ref q1, .int (nI g), .ref q3, .ref q4, .ref q5, .ref q6, .int 1, .int 0, .int kd, .long 0, .ref q11, .int 0, .long w13, .long w14])), (q3, .inl (cI, 800, .inl m3)), (q5, .inl (cI, 800, .inl k5)), (q6, .inl (cI, 2, .inl (jl [nI n, nI n2]))), (q11, .inl (cI, 24, .inl (jl [0, 0, 0, 0, 0, 0, 0, 0, 0, 0, 0, 0, t12, t13, t14, t15, t16, t17, t18, t19, t20, t21, t22, t23])))] ∧ (jo5 k5) ∧ (∀ x, x < n → jsh 0 k5 x = jS (jsh 0 m3) n x) ∧ (∀ x, x < n2 → jsh 400 k5 x = jS (jsh 400 m3) n2 x)) (jw_B D vwCl A (fun u : va_W => u)) A) #[.ref mo] s 0 0 A) (F0 m 14 ls []) := by
    intro k_1
    induction k_1 with
    | zero => exact fun _ _ hm => absurd hm (Nat.not_lt_zero _)
    | succ k_1 ih_1 =>
      intro i0 o0 hm1 hi0 ho0 hs0 H locs hP hD hS ls hl
      refine lv_iload_n hx hb dX6_prepare_14 rfl (lv_at hl 2 rfl) ?_
      refine lv_aload_n hx hb dX6_prepare_15 rfl (lv_at hl 0 rfl) ?_
      refine va_get (D := D) (ci := 6) (v := .ref q6) (C := RX6) (T := TX6) (N := 15) hx hb hts (by decide +kernel) hown hK hP 0 rfl rfl 6 (by decide) (hts (.fieldLink RX6 22 "JoinDeskModel" "many" "[I") (by decide +kernel)) (fun _ h9 => h9) rfl dX6_prepare_16 ?_
      refine lv_iload_n hx hb dX6_prepare_19 rfl (lv_at hl 1 rfl) ?_
      refine va_iald hx hb hK hP 3 0 rfl rfl (by unfold vp_in; decide) dX6_prepare_20 ?_
      refine W.eq (g2 := F0 m 21 ls [.int (nI n), .int (nI i0)]) rfl ?_
      refine lv_icmp_ge (tgt := 121) hx hb dX6_prepare_21 (by decide) (fun cge0 => ?_) (fun cge0 => ?_)
      · refine lv_iinc (v := 1) (lv' := [(1, .int 1), (0, .ref mo), (2, .int (nI i0))]) hx hb dX6_prepare_121 hl (k := 1) rfl (by first | rfl | decide) (by decide) rfl (fun ls hl => ?_)
        refine lv_goto (tgt := 7) hx hb dX6_prepare_124 (by decide) ?_
        refine lv_iload_n hx hb dX6_prepare_7 rfl (lv_at hl 0 rfl) ?_
        refine lv_iconst (v := 2) hx hb dX6_prepare_8 (by decide) ?_
        refine lv_icmp_ge (tgt := 127) hx hb dX6_prepare_9 (by decide) (fun c_2 => absurd c_2 (by decide)) (fun c_2 => ?_)
        refine lv_iconst (v := 0) hx hb dX6_prepare_12 (by decide) ?_
        refine lv_istore_n (lv' := [(2, .int 0), (1, .int 1), (0, .ref mo)]) hx hb dX6_prepare_13 rfl hl (by decide) rfl (fun ls hl => ?_)
        have hloop_2 : ∀ (k_2 : Nat) (i1 : Nat) (o1 : Nat → Int32), n2 - i1 < k_2 → (i1 ≤ n2) → (jo5 o1) → (∀ x, x < i1 → jsh 400 o1 x = jS (jsh 400 m3) i1 x) → (∀ x, x < n → jsh 0 o1 x = jS (jsh 0 m3) n x) → ∀ (H : Heap) (locs : List Loc), va_P D vwCl [(mo, .inr (6, [.int 0, .ref q1, .int (nI g), .ref q3, .ref q4, .ref q5, .ref q6, .int pr, .int gr, .int kd, .long w10, .ref q11, .int mk, .long w13, .long w14])), (q3, .inl (cI, 800, .inl m3)), (q5, .inl (cI, 800, .inl o1)), (q6, .inl (cI, 2, .inl (jl [nI n, nI n2]))), (q11, .inl (cI, 24, .inl (jl [t0, t1, t2, t3, t4, t5, t6, t7, t8, t9, t10, t11, t12, t13, t14, t15, t16, t17, t18, t19, t20, t21, t22, t23])))] H → va_D A [(mo, .inr (6, [.int 0, .ref q1, .int (nI g), .ref q3, .ref q4, .ref q5, .ref q6, .int pr, .int gr, .int kd, .long w10, .ref q11, .int mk, .long w13, .long w14])), (q3, .inl (cI, 800, .inl m3)), (q5, .inl (cI, 800, .inl o1)), (q6, .inl (cI, 2, .inl (jl [nI n, nI n2]))), (q11, .inl (cI, 24, .inl (jl [t0, t1, t2, t3, t4, t5, t6, t7, t8, t9, t10, t11, t12, t13, t14, t15, t16, t17, t18, t19, t20, t21, t22, t23])))] → va_S A s.heap H locs → ∀ ls : Array Slot, lv_has ls 4 [(0, .ref mo), (1, .int 1), (2, .int (nI i1))] → W p l e (headSpec wsX6_prepare ({ frames := 1, cells := 0, slots := 0, locals := 21 })).room s m #[.ref mo] below meth c H locs 0 0 (MQ below (va_Qv (fun u : va_W => ∃ (k5 : Nat → Int32), u = [(mo, .inr (6, [.int 0, .ref q1, .int (nI g), .ref q3, .ref q4, .ref q5, .ref q6, .int 1, .int 0, .int kd, .long 0, .ref q11, .int 0, .long w13, .long w14])), (q3, .inl (cI, 800, .inl m3)), (q5, .inl (cI, 800, .inl k5)), (q6, .inl (cI, 2, .inl (jl [nI n, nI n2]))), (q11, .inl (cI, 24, .inl (jl [0, 0, 0, 0, 0, 0, 0, 0, 0, 0, 0, 0, t12, t13, t14, t15, t16, t17, t18, t19, t20, t21, t22, t23])))] ∧ (jo5 k5) ∧ (∀ x, x < n → jsh 0 k5 x = jS (jsh 0 m3) n x) ∧ (∀ x, x < n2 → jsh 400 k5 x = jS (jsh 400 m3) n2 x)) (jw_B D vwCl A (fun u : va_W => u)) A) #[.ref mo] s 0 0 A) (F0 m 14 ls []) := by
          intro k_2
          induction k_2 with
          | zero => exact fun _ _ hm => absurd hm (Nat.not_lt_zero _)
          | succ k_2 ih_2 =>
            intro i1 o1 hm2 hi1 ho1 hs1 hz1 H locs hP hD hS ls hl
            refine lv_iload_n hx hb dX6_prepare_14 rfl (lv_at hl 2 rfl) ?_
            refine lv_aload_n hx hb dX6_prepare_15 rfl (lv_at hl 0 rfl) ?_
            refine va_get (D := D) (ci := 6) (v := .ref q6) (C := RX6) (T := TX6) (N := 15) hx hb hts (by decide +kernel) hown hK hP 0 rfl rfl 6 (by decide) (hts (.fieldLink RX6 22 "JoinDeskModel" "many" "[I") (by decide +kernel)) (fun _ h9 => h9) rfl dX6_prepare_16 ?_
            refine lv_iload_n hx hb dX6_prepare_19 rfl (lv_at hl 1 rfl) ?_
            refine va_iald hx hb hK hP 3 0 rfl rfl (by unfold vp_in; decide) dX6_prepare_20 ?_
            refine W.eq (g2 := F0 m 21 ls [.int (nI n2), .int (nI i1)]) rfl ?_
            refine lv_icmp_ge (tgt := 121) hx hb dX6_prepare_21 (by decide) (fun cge1 => ?_) (fun cge1 => ?_)
            · refine lv_iinc (v := 2) (lv' := [(1, .int 2), (0, .ref mo), (2, .int (nI i1))]) hx hb dX6_prepare_121 hl (k := 1) rfl (by first | rfl | decide) (by decide) rfl (fun ls hl => ?_)
              refine lv_goto (tgt := 7) hx hb dX6_prepare_124 (by decide) ?_
              refine lv_iload_n hx hb dX6_prepare_7 rfl (lv_at hl 0 rfl) ?_
              refine lv_iconst (v := 2) hx hb dX6_prepare_8 (by decide) ?_
              refine lv_icmp_ge (tgt := 127) hx hb dX6_prepare_9 (by decide) (fun c_3 => ?_) (fun c_3 => absurd c_3 (by decide))
              refine lv_aload_n hx hb dX6_prepare_127 rfl (lv_at hl 1 rfl) ?_
              refine jw_v (wr := [(q3, .inl (cI, 800, .inl m3)), (q5, .inl (cI, 800, .inl o1)), (q6, .inl (cI, 2, .inl (jl [nI n, nI n2])))]) (va_runV (As := []) (rest := []) ⟨hx, hb, hml, hown, hts⟩ (gM_begins l D cI cL cQ mo g q1 q3 q4 q5 q6 q11 0 pr gr kd mk w10 w13 w14 t0 t1 t2 t3 t4 t5 t6 t7 t8 t9 t10 t11 t12 t13 t14 t15 t16 t17 t18 t19 t20 t21 t22 t23 _) (cwV 0 hts gX6_prepare_X6_begins rfl rfl rfl (by decide +kernel) ⟨Nat.le_of_ble_eq_true rfl, Nat.le_of_ble_eq_true rfl⟩) (jw_V hK hN hP hD [0, 4] (by decide) rfl 6 0 rfl rfl rfl) rfl rfl hl.1 rfl (lv_room (Nat.le_of_ble_eq_true rfl)) dX6_prepare_128 ⟨Nat.le_of_ble_eq_true rfl, Nat.le_of_ble_eq_true rfl⟩) hP hD hS hA [0, 4] [1, 2, 3] rfl rfl (by decide) (by decide) (fun u H locs f_4 hP hD hS => ?_)
              obtain rfl := f_4
              have hP : va_P D vwCl [(q3, .inl (cI, 800, .inl m3)), (q5, .inl (cI, 800, .inl o1)), (q6, .inl (cI, 2, .inl (jl [nI n, nI n2]))), (mo, .inr (6, [.int 0, .ref q1, .int (nI g), .ref q3, .ref q4, .ref q5, .ref q6, .int pr, .int gr, .int kd, .long w10, .ref q11, .int mk, .long w13, .long w14])), (q11, .inl (cI, 24, .inl (jl [0, 0, 0, 0, 0, 0, 0, 0, 0, 0, 0, 0, t12, t13, t14, t15, t16, t17, t18, t19, t20, t21, t22, t23])))] H := hP
              have hD : va_D A [(q3, .inl (cI, 800, .inl m3)), (q5, .inl (cI, 800, .inl o1)), (q6, .inl (cI, 2, .inl (jl [nI n, nI n2]))), (mo, .inr (6, [.int 0, .ref q1, .int (nI g), .ref q3, .ref q4, .ref q5, .ref q6, .int pr, .int gr, .int kd, .long w10, .ref q11, .int mk, .long w13, .long w14])), (q11, .inl (cI, 24, .inl (jl [0, 0, 0, 0, 0, 0, 0, 0, 0, 0, 0, 0, t12, t13, t14, t15, t16, t17, t18, t19, t20, t21, t22, t23])))] := hD
              refine lv_aload_n hx hb dX6_prepare_131 rfl (lv_at hl 1 rfl) ?_
              refine lv_lconst (v := 0) hx hb dX6_prepare_132 (by decide) ?_
              refine va_put (D := D) (ci := 6) (v := .long 0) (ty := .long) (C := RX6) (T := TX6) (N := 15) hx hb hts (by decide +kernel) tyX6 tyX6_ok nmX6 hown hK hP hD hS 3 rfl rfl 10 (by decide) (hts (.fieldLink RX6 53 "JoinDeskModel" "cells" "J") (by decide +kernel)) (fun _ h9 => h9) rfl (by decide +kernel) rfl rfl (Nat.le_of_ble_eq_true rfl) dX6_prepare_133 (fun H locs hP hD hS => ?_)
              have hP : va_P D vwCl [(q3, .inl (cI, 800, .inl m3)), (q5, .inl (cI, 800, .inl o1)), (q6, .inl (cI, 2, .inl (jl [nI n, nI n2]))), (mo, .inr (6, [.int 0, .ref q1, .int (nI g), .ref q3, .ref q4, .ref q5, .ref q6, .int pr, .int gr, .int kd, .long 0, .ref q11, .int mk, .long w13, .long w14])), (q11, .inl (cI, 24, .inl (jl [0, 0, 0, 0, 0, 0, 0, 0, 0, 0, 0, 0, t12, t13, t14, t15, t16, t17, t18, t19, t20, t21, t22, t23])))] H := hP
              have hD : va_D A [(q3, .inl (cI, 800, .inl m3)), (q5, .inl (cI, 800, .inl o1)), (q6, .inl (cI, 2, .inl (jl [nI n, nI n2]))), (mo, .inr (6, [.int 0, .ref q1, .int (nI g), .ref q3, .ref q4, .ref q5, .ref q6, .int pr, .int gr, .int kd, .long 0, .ref q11, .int mk, .long w13, .long w14])), (q11, .inl (cI, 24, .inl (jl [0, 0, 0, 0, 0, 0, 0, 0, 0, 0, 0, 0, t12, t13, t14, t15, t16, t17, t18, t19, t20, t21, t22, t23])))] := hD
              refine lv_aload_n hx hb dX6_prepare_136 rfl (lv_at hl 1 rfl) ?_
              refine lv_iconst (v := 0) hx hb dX6_prepare_137 (by decide) ?_
              refine va_put (D := D) (ci := 6) (v := .int 0) (ty := .boolean) (C := RX6) (T := TX6) (N := 15) hx hb hts (by decide +kernel) tyX6 tyX6_ok nmX6 hown hK hP hD hS 3 rfl rfl 12 (by decide) (hts (.fieldLink RX6 57 "JoinDeskModel" "marked" "Z") (by decide +kernel)) (fun _ h9 => h9) rfl (by decide +kernel) rfl rfl (Nat.le_of_ble_eq_true rfl) dX6_prepare_138 (fun H locs hP hD hS => ?_)
              have hP : va_P D vwCl [(q3, .inl (cI, 800, .inl m3)), (q5, .inl (cI, 800, .inl o1)), (q6, .inl (cI, 2, .inl (jl [nI n, nI n2]))), (mo, .inr (6, [.int 0, .ref q1, .int (nI g), .ref q3, .ref q4, .ref q5, .ref q6, .int pr, .int gr, .int kd, .long 0, .ref q11, .int 0, .long w13, .long w14])), (q11, .inl (cI, 24, .inl (jl [0, 0, 0, 0, 0, 0, 0, 0, 0, 0, 0, 0, t12, t13, t14, t15, t16, t17, t18, t19, t20, t21, t22, t23])))] H := hP
              have hD : va_D A [(q3, .inl (cI, 800, .inl m3)), (q5, .inl (cI, 800, .inl o1)), (q6, .inl (cI, 2, .inl (jl [nI n, nI n2]))), (mo, .inr (6, [.int 0, .ref q1, .int (nI g), .ref q3, .ref q4, .ref q5, .ref q6, .int pr, .int gr, .int kd, .long 0, .ref q11, .int 0, .long w13, .long w14])), (q11, .inl (cI, 24, .inl (jl [0, 0, 0, 0, 0, 0, 0, 0, 0, 0, 0, 0, t12, t13, t14, t15, t16, t17, t18, t19, t20, t21, t22, t23])))] := hD
              refine lv_aload_n hx hb dX6_prepare_141 rfl (lv_at hl 1 rfl) ?_
              refine lv_iconst (v := 0) hx hb dX6_prepare_142 (by decide) ?_
              refine va_put (D := D) (ci := 6) (v := .int 0) (ty := .boolean) (C := RX6) (T := TX6) (N := 15) hx hb hts (by decide +kernel) tyX6 tyX6_ok nmX6 hown hK hP hD hS 3 rfl rfl 8 (by decide) (hts (.fieldLink RX6 47 "JoinDeskModel" "grouped" "Z") (by decide +kernel)) (fun _ h9 => h9) rfl (by decide +kernel) rfl rfl (Nat.le_of_ble_eq_true rfl) dX6_prepare_143 (fun H locs hP hD hS => ?_)
              have hP : va_P D vwCl [(q3, .inl (cI, 800, .inl m3)), (q5, .inl (cI, 800, .inl o1)), (q6, .inl (cI, 2, .inl (jl [nI n, nI n2]))), (mo, .inr (6, [.int 0, .ref q1, .int (nI g), .ref q3, .ref q4, .ref q5, .ref q6, .int pr, .int 0, .int kd, .long 0, .ref q11, .int 0, .long w13, .long w14])), (q11, .inl (cI, 24, .inl (jl [0, 0, 0, 0, 0, 0, 0, 0, 0, 0, 0, 0, t12, t13, t14, t15, t16, t17, t18, t19, t20, t21, t22, t23])))] H := hP
              have hD : va_D A [(q3, .inl (cI, 800, .inl m3)), (q5, .inl (cI, 800, .inl o1)), (q6, .inl (cI, 2, .inl (jl [nI n, nI n2]))), (mo, .inr (6, [.int 0, .ref q1, .int (nI g), .ref q3, .ref q4, .ref q5, .ref q6, .int pr, .int 0, .int kd, .long 0, .ref q11, .int 0, .long w13, .long w14])), (q11, .inl (cI, 24, .inl (jl [0, 0, 0, 0, 0, 0, 0, 0, 0, 0, 0, 0, t12, t13, t14, t15, t16, t17, t18, t19, t20, t21, t22, t23])))] := hD
              refine lv_aload_n hx hb dX6_prepare_146 rfl (lv_at hl 1 rfl) ?_
              refine lv_iconst (v := 1) hx hb dX6_prepare_147 (by decide) ?_
              refine va_put (D := D) (ci := 6) (v := .int 1) (ty := .boolean) (C := RX6) (T := TX6) (N := 15) hx hb hts (by decide +kernel) tyX6 tyX6_ok nmX6 hown hK hP hD hS 3 rfl rfl 7 (by decide) (hts (.fieldLink RX6 43 "JoinDeskModel" "prepared" "Z") (by decide +kernel)) (fun _ h9 => h9) rfl (by decide +kernel) rfl rfl (Nat.le_of_ble_eq_true rfl) dX6_prepare_148 (fun H locs hP hD hS => ?_)
              have hP : va_P D vwCl [(q3, .inl (cI, 800, .inl m3)), (q5, .inl (cI, 800, .inl o1)), (q6, .inl (cI, 2, .inl (jl [nI n, nI n2]))), (mo, .inr (6, [.int 0, .ref q1, .int (nI g), .ref q3, .ref q4, .ref q5, .ref q6, .int 1, .int 0, .int kd, .long 0, .ref q11, .int 0, .long w13, .long w14])), (q11, .inl (cI, 24, .inl (jl [0, 0, 0, 0, 0, 0, 0, 0, 0, 0, 0, 0, t12, t13, t14, t15, t16, t17, t18, t19, t20, t21, t22, t23])))] H := hP
              have hD : va_D A [(q3, .inl (cI, 800, .inl m3)), (q5, .inl (cI, 800, .inl o1)), (q6, .inl (cI, 2, .inl (jl [nI n, nI n2]))), (mo, .inr (6, [.int 0, .ref q1, .int (nI g), .ref q3, .ref q4, .ref q5, .ref q6, .int 1, .int 0, .int kd, .long 0, .ref q11, .int 0, .long w13, .long w14])), (q11, .inl (cI, 24, .inl (jl [0, 0, 0, 0, 0, 0, 0, 0, 0, 0, 0, 0, t12, t13, t14, t15, t16, t17, t18, t19, t20, t21, t22, t23])))] := hD
              have hP := hP.sub (ws' := [(mo, .inr (6, [.int 0, .ref q1, .int (nI g), .ref q3, .ref q4, .ref q5, .ref q6, .int 1, .int 0, .int kd, .long 0, .ref q11, .int 0, .long w13, .long w14])), (q3, .inl (cI, 800, .inl m3)), (q5, .inl (cI, 800, .inl o1)), (q6, .inl (cI, 2, .inl (jl [nI n, nI n2]))), (q11, .inl (cI, 24, .inl (jl [0, 0, 0, 0, 0, 0, 0, 0, 0, 0, 0, 0, t12, t13, t14, t15, t16, t17, t18, t19, t20, t21, t22, t23])))]) [3, 0, 1, 2, 4] rfl
              have hD := hD.sub (ws' := [(mo, .inr (6, [.int 0, .ref q1, .int (nI g), .ref q3, .ref q4, .ref q5, .ref q6, .int 1, .int 0, .int kd, .long 0, .ref q11, .int 0, .long w13, .long w14])), (q3, .inl (cI, 800, .inl m3)), (q5, .inl (cI, 800, .inl o1)), (q6, .inl (cI, 2, .inl (jl [nI n, nI n2]))), (q11, .inl (cI, 24, .inl (jl [0, 0, 0, 0, 0, 0, 0, 0, 0, 0, 0, 0, t12, t13, t14, t15, t16, t17, t18, t19, t20, t21, t22, t23])))]) [3, 0, 1, 2, 4] (by decide) rfl
              refine W.widen (k := 0) (n := 0) (by omega) (by omega) ?_
              exact W.vret hx hb hr (fun t ht hW => ⟨⟨[(mo, .inr (6, [.int 0, .ref q1, .int (nI g), .ref q3, .ref q4, .ref q5, .ref q6, .int 1, .int 0, .int kd, .long 0, .ref q11, .int 0, .long w13, .long w14])), (q3, .inl (cI, 800, .inl m3)), (q5, .inl (cI, 800, .inl o1)), (q6, .inl (cI, 2, .inl (jl [nI n, nI n2]))), (q11, .inl (cI, 24, .inl (jl [0, 0, 0, 0, 0, 0, 0, 0, 0, 0, 0, 0, t12, t13, t14, t15, t16, t17, t18, t19, t20, t21, t22, t23])))], rfl, (⟨_, rfl, by assumption, hz1, jp_fin (b := 400) hs1 hi1 cge1 hn2⟩), by rw [ht]; exact hP, hD⟩, hS.F ht⟩) hS.2.2 dX6_prepare_151
            · refine lv_iload_n hx hb dX6_prepare_24 rfl (lv_at hl 2 rfl) ?_
              refine lv_istore_n (lv' := [(3, .int (nI i1)), (0, .ref mo), (1, .int 1), (2, .int (nI i1))]) hx hb dX6_prepare_25 rfl hl (by decide) rfl (fun ls hl => ?_)
              have hloop_3 : ∀ (k_3 : Nat) (jq1 : Nat) (o1b : Nat → Int32), jq1 < k_3 → (jq1 ≤ i1) → (jo5 o1b) → (jins (jsh 400 m3) i1 (jsh 400 o1b) jq1 = jins (jsh 400 m3) i1 (jsh 400 o1) i1) → (∀ x, x < n → jsh 0 o1b x = jS (jsh 0 m3) n x) → ∀ (H : Heap) (locs : List Loc), va_P D vwCl [(mo, .inr (6, [.int 0, .ref q1, .int (nI g), .ref q3, .ref q4, .ref q5, .ref q6, .int pr, .int gr, .int kd, .long w10, .ref q11, .int mk, .long w13, .long w14])), (q3, .inl (cI, 800, .inl m3)), (q5, .inl (cI, 800, .inl o1b)), (q6, .inl (cI, 2, .inl (jl [nI n, nI n2]))), (q11, .inl (cI, 24, .inl (jl [t0, t1, t2, t3, t4, t5, t6, t7, t8, t9, t10, t11, t12, t13, t14, t15, t16, t17, t18, t19, t20, t21, t22, t23])))] H → va_D A [(mo, .inr (6, [.int 0, .ref q1, .int (nI g), .ref q3, .ref q4, .ref q5, .ref q6, .int pr, .int gr, .int kd, .long w10, .ref q11, .int mk, .long w13, .long w14])), (q3, .inl (cI, 800, .inl m3)), (q5, .inl (cI, 800, .inl o1b)), (q6, .inl (cI, 2, .inl (jl [nI n, nI n2]))), (q11, .inl (cI, 24, .inl (jl [t0, t1, t2, t3, t4, t5, t6, t7, t8, t9, t10, t11, t12, t13, t14, t15, t16, t17, t18, t19, t20, t21, t22, t23])))] → va_S A s.heap H locs → ∀ ls : Array Slot, lv_has ls 4 [(0, .ref mo), (1, .int 1), (2, .int (nI i1)), (3, .int (nI jq1))] → W p l e (headSpec wsX6_prepare ({ frames := 1, cells := 0, slots := 0, locals := 21 })).room s m #[.ref mo] below meth c H locs 0 0 (MQ below (va_Qv (fun u : va_W => ∃ (k5 : Nat → Int32), u = [(mo, .inr (6, [.int 0, .ref q1, .int (nI g), .ref q3, .ref q4, .ref q5, .ref q6, .int 1, .int 0, .int kd, .long 0, .ref q11, .int 0, .long w13, .long w14])), (q3, .inl (cI, 800, .inl m3)), (q5, .inl (cI, 800, .inl k5)), (q6, .inl (cI, 2, .inl (jl [nI n, nI n2]))), (q11, .inl (cI, 24, .inl (jl [0, 0, 0, 0, 0, 0, 0, 0, 0, 0, 0, 0, t12, t13, t14, t15, t16, t17, t18, t19, t20, t21, t22, t23])))] ∧ (jo5 k5) ∧ (∀ x, x < n → jsh 0 k5 x = jS (jsh 0 m3) n x) ∧ (∀ x, x < n2 → jsh 400 k5 x = jS (jsh 400 m3) n2 x)) (jw_B D vwCl A (fun u : va_W => u)) A) #[.ref mo] s 0 0 A) (F0 m 26 ls []) := by
                intro k_3
                induction k_3 with
                | zero => exact fun _ _ hm => absurd hm (Nat.not_lt_zero _)
                | succ k_3 ih_3 =>
                  intro jq1 o1b hm3 hq1 hoo1 hf1 hy1 H locs hP hD hS ls hl
                  rcases jq1 with _ | jq1
                  · have hl : lv_has ls 4 [(0, .ref mo), (1, .int 1), (2, .int (nI i1)), (3, .int (nI 0))] := hl
                    refine lv_iload_n hx hb dX6_prepare_26 rfl (lv_at hl 3 rfl) ?_
                    refine lv_if_le (tgt := 102) hx hb dX6_prepare_27 (by decide) (fun c_5 => ?_) (fun c_5 => absurd c_5 (by decide))
                    refine lv_aload_n hx hb dX6_prepare_102 rfl (lv_at hl 0 rfl) ?_
                    refine va_get (D := D) (ci := 6) (v := .ref q5) (C := RX6) (T := TX6) (N := 15) hx hb hts (by decide +kernel) hown hK hP 0 rfl rfl 5 (by decide) (hts (.fieldLink RX6 19 "JoinDeskModel" "order" "[I") (by decide +kernel)) (fun _ h9 => h9) rfl dX6_prepare_103 ?_
                    refine lv_sipush (v := 400) hx hb dX6_prepare_106 (by decide) ?_
                    refine lv_iload_n hx hb dX6_prepare_109 rfl (lv_at hl 1 rfl) ?_
                    refine lv_imul hx hb dX6_prepare_110 ?_
                    refine lv_topi (fun z_6 e_z_6 => ?_)
                    obtain rfl : z_6 = 400 := e_z_6.trans (by decide)
                    refine lv_iload_n hx hb dX6_prepare_111 rfl (lv_at hl 3 rfl) ?_
                    refine lv_iadd hx hb dX6_prepare_112 ?_
                    refine lv_topi (fun z_7 e_z_7 => ?_)
                    obtain rfl : z_7 = 400 := e_z_7.trans (by decide)
                    refine lv_iload_n hx hb dX6_prepare_113 rfl (lv_at hl 2 rfl) ?_
                    refine va_iast hx hb hK hP hD hS 2 0 rfl rfl (vp_in_nI (show 400 + 0 < 800 by rw [nI_leI (by omega) (by omega)] at cge1; omega) (by omega)) dX6_prepare_114 (fun H locs hP hD hS => ?_)
                    have hP : va_P D vwCl [(mo, .inr (6, [.int 0, .ref q1, .int (nI g), .ref q3, .ref q4, .ref q5, .ref q6, .int pr, .int gr, .int kd, .long w10, .ref q11, .int mk, .long w13, .long w14])), (q3, .inl (cI, 800, .inl m3)), (q5, .inl (cI, 800, .inl (upd o1b (400 : Int32).toNatClampNeg (nI i1)))), (q6, .inl (cI, 2, .inl (jl [nI n, nI n2]))), (q11, .inl (cI, 24, .inl (jl [t0, t1, t2, t3, t4, t5, t6, t7, t8, t9, t10, t11, t12, t13, t14, t15, t16, t17, t18, t19, t20, t21, t22, t23])))] H := hP
                    have hD : va_D A [(mo, .inr (6, [.int 0, .ref q1, .int (nI g), .ref q3, .ref q4, .ref q5, .ref q6, .int pr, .int gr, .int kd, .long w10, .ref q11, .int mk, .long w13, .long w14])), (q3, .inl (cI, 800, .inl m3)), (q5, .inl (cI, 800, .inl (upd o1b (400 : Int32).toNatClampNeg (nI i1)))), (q6, .inl (cI, 2, .inl (jl [nI n, nI n2]))), (q11, .inl (cI, 24, .inl (jl [t0, t1, t2, t3, t4, t5, t6, t7, t8, t9, t10, t11, t12, t13, t14, t15, t16, t17, t18, t19, t20, t21, t22, t23])))] := hD
                    refine lv_iinc (v := nI (i1 + 1)) (lv' := [(2, .int (nI (i1 + 1))), (0, .ref mo), (1, .int 1), (3, .int (nI 0))]) hx hb dX6_prepare_115 hl (k := 2) rfl (nI_1 _) (by decide) rfl (fun ls hl => ?_)
                    refine lv_goto (tgt := 14) hx hb dX6_prepare_118 (by decide) ?_
                    exact ih_2 (i1 + 1) (upd o1b (400 : Int32).toNatClampNeg (nI i1)) (by rw [nI_leI (by omega) (by omega)] at cge1; omega) (by rw [nI_leI (by omega) (by omega)] at cge1; omega) (jo5_upd hoo1 (by rw [nI_leI (by omega) (by omega)] at cge1; omega)) (jp_exit (b := 400) hs1 hf1 (jp_0 (b := 400) (by decide))) (jp_keep (z := 0) hn (by omega) hy1) _ _ hP hD hS ls (lv_sub hl [1, 2, 0] rfl)
                  · have hl : lv_has ls 4 [(0, .ref mo), (1, .int 1), (2, .int (nI i1)), (3, .int (nI (jq1 + 1)))] := hl
                    refine lv_iload_n hx hb dX6_prepare_26 rfl (lv_at hl 3 rfl) ?_
                    refine lv_if_le (tgt := 102) hx hb dX6_prepare_27 (by decide) (fun c_8 => absurd c_8 (by exact nI_nle (by omega) (by omega))) (fun c_8 => ?_)
                    refine lv_aload_n hx hb dX6_prepare_30 rfl (lv_at hl 0 rfl) ?_
                    refine va_get (D := D) (ci := 6) (v := .ref q3) (C := RX6) (T := TX6) (N := 15) hx hb hts (by decide +kernel) hown hK hP 0 rfl rfl 3 (by decide) (hts (.fieldLink RX6 13 "JoinDeskModel" "keys" "[I") (by decide +kernel)) (fun _ h9 => h9) rfl dX6_prepare_31 ?_
                    refine lv_sipush (v := 400) hx hb dX6_prepare_34 (by decide) ?_
                    refine lv_iload_n hx hb dX6_prepare_37 rfl (lv_at hl 1 rfl) ?_
                    refine lv_imul hx hb dX6_prepare_38 ?_
                    refine lv_topi (fun z_9 e_z_9 => ?_)
                    obtain rfl : z_9 = 400 := e_z_9.trans (by decide)
                    refine lv_aload_n hx hb dX6_prepare_39 rfl (lv_at hl 0 rfl) ?_
                    refine va_get (D := D) (ci := 6) (v := .ref q5) (C := RX6) (T := TX6) (N := 15) hx hb hts (by decide +kernel) hown hK hP 0 rfl rfl 5 (by decide) (hts (.fieldLink RX6 19 "JoinDeskModel" "order" "[I") (by decide +kernel)) (fun _ h9 => h9) rfl dX6_prepare_40 ?_
                    refine lv_sipush (v := 400) hx hb dX6_prepare_43 (by decide) ?_
                    refine lv_iload_n hx hb dX6_prepare_46 rfl (lv_at hl 1 rfl) ?_
                    refine lv_imul hx hb dX6_prepare_47 ?_
                    refine lv_topi (fun z_10 e_z_10 => ?_)
                    obtain rfl : z_10 = 400 := e_z_10.trans (by decide)
                    refine lv_iload_n hx hb dX6_prepare_48 rfl (lv_at hl 3 rfl) ?_
                    refine lv_iadd hx hb dX6_prepare_49 ?_
                    refine lv_topi (fun z_11 e_z_11 => ?_)
                    obtain rfl : z_11 = nI (400 + jq1 + 1) := e_z_11.trans (nI_add 400 (jq1 + 1))
                    refine lv_iconst (v := 1) hx hb dX6_prepare_50 (by decide) ?_
                    refine lv_isub hx hb dX6_prepare_51 ?_
                    refine lv_topi (fun z_12 e_z_12 => ?_)
                    obtain rfl : z_12 = nI (400 + jq1) := e_z_12.trans (nI_pred _)
                    refine va_iald hx hb hK hP 2 0 rfl rfl (vp_in_nI (show 400 + jq1 < 800 by rw [nI_leI (by omega) (by omega)] at cge1; omega) (by omega)) dX6_prepare_52 ?_
                    refine lv_iadd hx hb dX6_prepare_53 ?_
                    refine va_iald hx hb hK hP 1 0 rfl rfl (jo5_in4 hoo1 (show 400 + jq1 < 800 by rw [nI_leI (by omega) (by omega)] at cge1; omega)) dX6_prepare_54 ?_
                    refine lv_aload_n hx hb dX6_prepare_55 rfl (lv_at hl 0 rfl) ?_
                    refine va_get (D := D) (ci := 6) (v := .ref q3) (C := RX6) (T := TX6) (N := 15) hx hb hts (by decide +kernel) hown hK hP 0 rfl rfl 3 (by decide) (hts (.fieldLink RX6 13 "JoinDeskModel" "keys" "[I") (by decide +kernel)) (fun _ h9 => h9) rfl dX6_prepare_56 ?_
                    refine lv_sipush (v := 400) hx hb dX6_prepare_59 (by decide) ?_
                    refine lv_iload_n hx hb dX6_prepare_62 rfl (lv_at hl 1 rfl) ?_
                    refine lv_imul hx hb dX6_prepare_63 ?_
                    refine lv_topi (fun z_13 e_z_13 => ?_)
                    obtain rfl : z_13 = 400 := e_z_13.trans (by decide)
                    refine lv_iload_n hx hb dX6_prepare_64 rfl (lv_at hl 2 rfl) ?_
                    refine lv_iadd hx hb dX6_prepare_65 ?_
                    refine lv_topi (fun z_14 e_z_14 => ?_)
                    obtain rfl : z_14 = nI (400 + i1) := e_z_14.trans (nI_add 400 i1)
                    refine va_iald hx hb hK hP 1 0 rfl rfl (vp_in_nI (show 400 + i1 < 800 by rw [nI_leI (by omega) (by omega)] at cge1; omega) (by omega)) dX6_prepare_66 ?_
                    refine lv_icmp_le (tgt := 102) hx hb dX6_prepare_67 (by decide) (fun cle1 => ?_) (fun cle1 => ?_)
                    · refine lv_aload_n hx hb dX6_prepare_102 rfl (lv_at hl 0 rfl) ?_
                      refine va_get (D := D) (ci := 6) (v := .ref q5) (C := RX6) (T := TX6) (N := 15) hx hb hts (by decide +kernel) hown hK hP 0 rfl rfl 5 (by decide) (hts (.fieldLink RX6 19 "JoinDeskModel" "order" "[I") (by decide +kernel)) (fun _ h9 => h9) rfl dX6_prepare_103 ?_
                      refine lv_sipush (v := 400) hx hb dX6_prepare_106 (by decide) ?_
                      refine lv_iload_n hx hb dX6_prepare_109 rfl (lv_at hl 1 rfl) ?_
                      refine lv_imul hx hb dX6_prepare_110 ?_
                      refine lv_topi (fun z_15 e_z_15 => ?_)
                      obtain rfl : z_15 = 400 := e_z_15.trans (by decide)
                      refine lv_iload_n hx hb dX6_prepare_111 rfl (lv_at hl 3 rfl) ?_
                      refine lv_iadd hx hb dX6_prepare_112 ?_
                      refine lv_topi (fun z_16 e_z_16 => ?_)
                      obtain rfl : z_16 = nI (400 + jq1 + 1) := e_z_16.trans (nI_add 400 (jq1 + 1))
                      refine lv_iload_n hx hb dX6_prepare_113 rfl (lv_at hl 2 rfl) ?_
                      refine va_iast hx hb hK hP hD hS 2 0 rfl rfl (vp_in_nI (show 400 + jq1 + 1 < 800 by rw [nI_leI (by omega) (by omega)] at cge1; omega) (by omega)) dX6_prepare_114 (fun H locs hP hD hS => ?_)
                      have hP : va_P D vwCl [(mo, .inr (6, [.int 0, .ref q1, .int (nI g), .ref q3, .ref q4, .ref q5, .ref q6, .int pr, .int gr, .int kd, .long w10, .ref q11, .int mk, .long w13, .long w14])), (q3, .inl (cI, 800, .inl m3)), (q5, .inl (cI, 800, .inl (upd o1b (nI (400 + jq1 + 1)).toNatClampNeg (nI i1)))), (q6, .inl (cI, 2, .inl (jl [nI n, nI n2]))), (q11, .inl (cI, 24, .inl (jl [t0, t1, t2, t3, t4, t5, t6, t7, t8, t9, t10, t11, t12, t13, t14, t15, t16, t17, t18, t19, t20, t21, t22, t23])))] H := hP
                      have hD : va_D A [(mo, .inr (6, [.int 0, .ref q1, .int (nI g), .ref q3, .ref q4, .ref q5, .ref q6, .int pr, .int gr, .int kd, .long w10, .ref q11, .int mk, .long w13, .long w14])), (q3, .inl (cI, 800, .inl m3)), (q5, .inl (cI, 800, .inl (upd o1b (nI (400 + jq1 + 1)).toNatClampNeg (nI i1)))), (q6, .inl (cI, 2, .inl (jl [nI n, nI n2]))), (q11, .inl (cI, 24, .inl (jl [t0, t1, t2, t3, t4, t5, t6, t7, t8, t9, t10, t11, t12, t13, t14, t15, t16, t17, t18, t19, t20, t21, t22, t23])))] := hD
                      refine lv_iinc (v := nI (i1 + 1)) (lv' := [(2, .int (nI (i1 + 1))), (0, .ref mo), (1, .int 1), (3, .int (nI (jq1 + 1)))]) hx hb dX6_prepare_115 hl (k := 2) rfl (nI_1 _) (by decide) rfl (fun ls hl => ?_)
                      refine lv_goto (tgt := 14) hx hb dX6_prepare_118 (by decide) ?_
                      exact ih_2 (i1 + 1) (upd o1b (nI (400 + jq1 + 1)).toNatClampNeg (nI i1)) (by rw [nI_leI (by omega) (by omega)] at cge1; omega) (by rw [nI_leI (by omega) (by omega)] at cge1; omega) (jo5_upd hoo1 (by rw [nI_leI (by omega) (by omega)] at cge1; omega)) (jp_exit (b := 400) hs1 hf1 (jp_le (b := 400) hoo1 (by decide) (by rw [nI_leI (by omega) (by omega)] at cge1; omega) (by rw [nI_leI (by omega) (by omega)] at cge1; omega) cle1)) (jp_keep (z := jq1 + 1) hn (by omega) hy1) _ _ hP hD hS ls (lv_sub hl [1, 2, 0] rfl)
                    · refine lv_aload_n hx hb dX6_prepare_70 rfl (lv_at hl 0 rfl) ?_
                      refine va_get (D := D) (ci := 6) (v := .ref q5) (C := RX6) (T := TX6) (N := 15) hx hb hts (by decide +kernel) hown hK hP 0 rfl rfl 5 (by decide) (hts (.fieldLink RX6 19 "JoinDeskModel" "order" "[I") (by decide +kernel)) (fun _ h9 => h9) rfl dX6_prepare_71 ?_
                      refine lv_sipush (v := 400) hx hb dX6_prepare_74 (by decide) ?_
                      refine lv_iload_n hx hb dX6_prepare_77 rfl (lv_at hl 1 rfl) ?_
                      refine lv_imul hx hb dX6_prepare_78 ?_
                      refine lv_topi (fun z_17 e_z_17 => ?_)
                      obtain rfl : z_17 = 400 := e_z_17.trans (by decide)
                      refine lv_iload_n hx hb dX6_prepare_79 rfl (lv_at hl 3 rfl) ?_
                      refine lv_iadd hx hb dX6_prepare_80 ?_
                      refine lv_topi (fun z_18 e_z_18 => ?_)
                      obtain rfl : z_18 = nI (400 + jq1 + 1) := e_z_18.trans (nI_add 400 (jq1 + 1))
                      refine lv_aload_n hx hb dX6_prepare_81 rfl (lv_at hl 0 rfl) ?_
                      refine va_get (D := D) (ci := 6) (v := .ref q5) (C := RX6) (T := TX6) (N := 15) hx hb hts (by decide +kernel) hown hK hP 0 rfl rfl 5 (by decide) (hts (.fieldLink RX6 19 "JoinDeskModel" "order" "[I") (by decide +kernel)) (fun _ h9 => h9) rfl dX6_prepare_82 ?_
                      refine lv_sipush (v := 400) hx hb dX6_prepare_85 (by decide) ?_
                      refine lv_iload_n hx hb dX6_prepare_88 rfl (lv_at hl 1 rfl) ?_
                      refine lv_imul hx hb dX6_prepare_89 ?_
                      refine lv_topi (fun z_19 e_z_19 => ?_)
                      obtain rfl : z_19 = 400 := e_z_19.trans (by decide)
                      refine lv_iload_n hx hb dX6_prepare_90 rfl (lv_at hl 3 rfl) ?_
                      refine lv_iadd hx hb dX6_prepare_91 ?_
                      refine lv_topi (fun z_20 e_z_20 => ?_)
                      obtain rfl : z_20 = nI (400 + jq1 + 1) := e_z_20.trans (nI_add 400 (jq1 + 1))
                      refine lv_iconst (v := 1) hx hb dX6_prepare_92 (by decide) ?_
                      refine lv_isub hx hb dX6_prepare_93 ?_
                      refine lv_topi (fun z_21 e_z_21 => ?_)
                      obtain rfl : z_21 = nI (400 + jq1) := e_z_21.trans (nI_pred _)
                      refine va_iald hx hb hK hP 2 0 rfl rfl (vp_in_nI (show 400 + jq1 < 800 by rw [nI_leI (by omega) (by omega)] at cge1; omega) (by omega)) dX6_prepare_94 ?_
                      refine va_iast hx hb hK hP hD hS 2 0 rfl rfl (vp_in_nI (show 400 + jq1 + 1 < 800 by rw [nI_leI (by omega) (by omega)] at cge1; omega) (by omega)) dX6_prepare_95 (fun H locs hP hD hS => ?_)
                      have hP : va_P D vwCl [(mo, .inr (6, [.int 0, .ref q1, .int (nI g), .ref q3, .ref q4, .ref q5, .ref q6, .int pr, .int gr, .int kd, .long w10, .ref q11, .int mk, .long w13, .long w14])), (q3, .inl (cI, 800, .inl m3)), (q5, .inl (cI, 800, .inl (upd o1b (nI (400 + jq1 + 1)).toNatClampNeg (o1b (nI (400 + jq1)).toNatClampNeg)))), (q6, .inl (cI, 2, .inl (jl [nI n, nI n2]))), (q11, .inl (cI, 24, .inl (jl [t0, t1, t2, t3, t4, t5, t6, t7, t8, t9, t10, t11, t12, t13, t14, t15, t16, t17, t18, t19, t20, t21, t22, t23])))] H := hP
                      have hD : va_D A [(mo, .inr (6, [.int 0, .ref q1, .int (nI g), .ref q3, .ref q4, .ref q5, .ref q6, .int pr, .int gr, .int kd, .long w10, .ref q11, .int mk, .long w13, .long w14])), (q3, .inl (cI, 800, .inl m3)), (q5, .inl (cI, 800, .inl (upd o1b (nI (400 + jq1 + 1)).toNatClampNeg (o1b (nI (400 + jq1)).toNatClampNeg)))), (q6, .inl (cI, 2, .inl (jl [nI n, nI n2]))), (q11, .inl (cI, 24, .inl (jl [t0, t1, t2, t3, t4, t5, t6, t7, t8, t9, t10, t11, t12, t13, t14, t15, t16, t17, t18, t19, t20, t21, t22, t23])))] := hD
                      refine lv_iinc (v := nI jq1) (lv' := [(3, .int (nI jq1)), (0, .ref mo), (1, .int 1), (2, .int (nI i1))]) hx hb dX6_prepare_96 hl (k := 3) rfl (pk_m1 _) (by decide) rfl (fun ls hl => ?_)
                      refine lv_goto (tgt := 26) hx hb dX6_prepare_99 (by decide) ?_
                      exact ih_3 jq1 (upd o1b (nI (400 + jq1 + 1)).toNatClampNeg (o1b (nI (400 + jq1)).toNatClampNeg)) (by omega) (by omega) (by rw [nI_clamp (show 400 + jq1 < 2 ^ 31 by omega)]; exact jo5_mv hoo1 (by omega)) ((jp_gt (b := 400) hoo1 (by decide) (by rw [nI_leI (by omega) (by omega)] at cge1; omega) (by rw [nI_leI (by omega) (by omega)] at cge1; omega) cle1).trans hf1) (jp_keep (z := jq1 + 1) hn (by omega) hy1) _ _ hP hD hS ls (lv_sub hl [1, 2, 3, 0] rfl)
              exact hloop_3 (i1 + 1) i1 o1 (Nat.lt_succ_self _) (Nat.le_refl _) (ho1) (rfl) (hz1) _ _ hP hD hS ls (lv_sub hl [1, 2, 3, 0] rfl)
        exact hloop_2 (n2 - 0 + 1) 0 o0 (Nat.lt_succ_self _) (Nat.zero_le _) (by assumption) (fun x hx => absurd hx (Nat.not_lt_zero _)) (jp_fin (b := 0) hs0 hi0 cge0 hn) _ _ hP hD hS ls (lv_sub hl [2, 1, 0] rfl)
      · refine lv_iload_n hx hb dX6_prepare_24 rfl (lv_at hl 2 rfl) ?_
        refine lv_istore_n (lv' := [(3, .int (nI i0)), (0, .ref mo), (1, .int 0), (2, .int (nI i0))]) hx hb dX6_prepare_25 rfl hl (by decide) rfl (fun ls hl => ?_)
        have hloop_4 : ∀ (k_4 : Nat) (jq0 : Nat) (o0b : Nat → Int32), jq0 < k_4 → (jq0 ≤ i0) → (jo5 o0b) → (jins (jsh 0 m3) i0 (jsh 0 o0b) jq0 = jins (jsh 0 m3) i0 (jsh 0 o0) i0) → ∀ (H : Heap) (locs : List Loc), va_P D vwCl [(mo, .inr (6, [.int 0, .ref q1, .int (nI g), .ref q3, .ref q4, .ref q5, .ref q6, .int pr, .int gr, .int kd, .long w10, .ref q11, .int mk, .long w13, .long w14])), (q3, .inl (cI, 800, .inl m3)), (q5, .inl (cI, 800, .inl o0b)), (q6, .inl (cI, 2, .inl (jl [nI n, nI n2]))), (q11, .inl (cI, 24, .inl (jl [t0, t1, t2, t3, t4, t5, t6, t7, t8, t9, t10, t11, t12, t13, t14, t15, t16, t17, t18, t19, t20, t21, t22, t23])))] H → va_D A [(mo, .inr (6, [.int 0, .ref q1, .int (nI g), .ref q3, .ref q4, .ref q5, .ref q6, .int pr, .int gr, .int kd, .long w10, .ref q11, .int mk, .long w13, .long w14])), (q3, .inl (cI, 800, .inl m3)), (q5, .inl (cI, 800, .inl o0b)), (q6, .inl (cI, 2, .inl (jl [nI n, nI n2]))), (q11, .inl (cI, 24, .inl (jl [t0, t1, t2, t3, t4, t5, t6, t7, t8, t9, t10, t11, t12, t13, t14, t15, t16, t17, t18, t19, t20, t21, t22, t23])))] → va_S A s.heap H locs → ∀ ls : Array Slot, lv_has ls 4 [(0, .ref mo), (1, .int 0), (2, .int (nI i0)), (3, .int (nI jq0))] → W p l e (headSpec wsX6_prepare ({ frames := 1, cells := 0, slots := 0, locals := 21 })).room s m #[.ref mo] below meth c H locs 0 0 (MQ below (va_Qv (fun u : va_W => ∃ (k5 : Nat → Int32), u = [(mo, .inr (6, [.int 0, .ref q1, .int (nI g), .ref q3, .ref q4, .ref q5, .ref q6, .int 1, .int 0, .int kd, .long 0, .ref q11, .int 0, .long w13, .long w14])), (q3, .inl (cI, 800, .inl m3)), (q5, .inl (cI, 800, .inl k5)), (q6, .inl (cI, 2, .inl (jl [nI n, nI n2]))), (q11, .inl (cI, 24, .inl (jl [0, 0, 0, 0, 0, 0, 0, 0, 0, 0, 0, 0, t12, t13, t14, t15, t16, t17, t18, t19, t20, t21, t22, t23])))] ∧ (jo5 k5) ∧ (∀ x, x < n → jsh 0 k5 x = jS (jsh 0 m3) n x) ∧ (∀ x, x < n2 → jsh 400 k5 x = jS (jsh 400 m3) n2 x)) (jw_B D vwCl A (fun u : va_W => u)) A) #[.ref mo] s 0 0 A) (F0 m 26 ls []) := by
          intro k_4
          induction k_4 with
          | zero => exact fun _ _ hm => absurd hm (Nat.not_lt_zero _)
          | succ k_4 ih_4 =>
            intro jq0 o0b hm4 hq0 hoo0 hf0 H locs hP hD hS ls hl
            rcases jq0 with _ | jq0
            · have hl : lv_has ls 4 [(0, .ref mo), (1, .int 0), (2, .int (nI i0)), (3, .int (nI 0))] := hl
              refine lv_iload_n hx hb dX6_prepare_26 rfl (lv_at hl 3 rfl) ?_
              refine lv_if_le (tgt := 102) hx hb dX6_prepare_27 (by decide) (fun c_22 => ?_) (fun c_22 => absurd c_22 (by decide))
              refine lv_aload_n hx hb dX6_prepare_102 rfl (lv_at hl 0 rfl) ?_
              refine va_get (D := D) (ci := 6) (v := .ref q5) (C := RX6) (T := TX6) (N := 15) hx hb hts (by decide +kernel) hown hK hP 0 rfl rfl 5 (by decide) (hts (.fieldLink RX6 19 "JoinDeskModel" "order" "[I") (by decide +kernel)) (fun _ h9 => h9) rfl dX6_prepare_103 ?_
              refine lv_sipush (v := 400) hx hb dX6_prepare_106 (by decide) ?_
              refine lv_iload_n hx hb dX6_prepare_109 rfl (lv_at hl 1 rfl) ?_
              refine lv_imul hx hb dX6_prepare_110 ?_
              refine lv_topi (fun z_23 e_z_23 => ?_)
              obtain rfl : z_23 = 0 := e_z_23.trans (by decide)
              refine lv_iload_n hx hb dX6_prepare_111 rfl (lv_at hl 3 rfl) ?_
              refine lv_iadd hx hb dX6_prepare_112 ?_
              refine lv_topi (fun z_24 e_z_24 => ?_)
              obtain rfl : z_24 = 0 := e_z_24.trans (by decide)
              refine lv_iload_n hx hb dX6_prepare_113 rfl (lv_at hl 2 rfl) ?_
              refine va_iast hx hb hK hP hD hS 2 0 rfl rfl (vp_in_nI (show 0 + 0 < 800 by rw [nI_leI (by omega) (by omega)] at cge0; omega) (by omega)) dX6_prepare_114 (fun H locs hP hD hS => ?_)
              have hP : va_P D vwCl [(mo, .inr (6, [.int 0, .ref q1, .int (nI g), .ref q3, .ref q4, .ref q5, .ref q6, .int pr, .int gr, .int kd, .long w10, .ref q11, .int mk, .long w13, .long w14])), (q3, .inl (cI, 800, .inl m3)), (q5, .inl (cI, 800, .inl (upd o0b (0 : Int32).toNatClampNeg (nI i0)))), (q6, .inl (cI, 2, .inl (jl [nI n, nI n2]))), (q11, .inl (cI, 24, .inl (jl [t0, t1, t2, t3, t4, t5, t6, t7, t8, t9, t10, t11, t12, t13, t14, t15, t16, t17, t18, t19, t20, t21, t22, t23])))] H := hP
              have hD : va_D A [(mo, .inr (6, [.int 0, .ref q1, .int (nI g), .ref q3, .ref q4, .ref q5, .ref q6, .int pr, .int gr, .int kd, .long w10, .ref q11, .int mk, .long w13, .long w14])), (q3, .inl (cI, 800, .inl m3)), (q5, .inl (cI, 800, .inl (upd o0b (0 : Int32).toNatClampNeg (nI i0)))), (q6, .inl (cI, 2, .inl (jl [nI n, nI n2]))), (q11, .inl (cI, 24, .inl (jl [t0, t1, t2, t3, t4, t5, t6, t7, t8, t9, t10, t11, t12, t13, t14, t15, t16, t17, t18, t19, t20, t21, t22, t23])))] := hD
              refine lv_iinc (v := nI (i0 + 1)) (lv' := [(2, .int (nI (i0 + 1))), (0, .ref mo), (1, .int 0), (3, .int (nI 0))]) hx hb dX6_prepare_115 hl (k := 2) rfl (nI_1 _) (by decide) rfl (fun ls hl => ?_)
              refine lv_goto (tgt := 14) hx hb dX6_prepare_118 (by decide) ?_
              exact ih_1 (i0 + 1) (upd o0b (0 : Int32).toNatClampNeg (nI i0)) (by rw [nI_leI (by omega) (by omega)] at cge0; omega) (by rw [nI_leI (by omega) (by omega)] at cge0; omega) (jo5_upd hoo0 (by rw [nI_leI (by omega) (by omega)] at cge0; omega)) (jp_exit (b := 0) hs0 hf0 (jp_0 (b := 0) (by decide))) _ _ hP hD hS ls (lv_sub hl [1, 2, 0] rfl)
            · have hl : lv_has ls 4 [(0, .ref mo), (1, .int 0), (2, .int (nI i0)), (3, .int (nI (jq0 + 1)))] := hl
              refine lv_iload_n hx hb dX6_prepare_26 rfl (lv_at hl 3 rfl) ?_
              refine lv_if_le (tgt := 102) hx hb dX6_prepare_27 (by decide) (fun c_25 => absurd c_25 (by exact nI_nle (by omega) (by omega))) (fun c_25 => ?_)
              refine lv_aload_n hx hb dX6_prepare_30 rfl (lv_at hl 0 rfl) ?_
              refine va_get (D := D) (ci := 6) (v := .ref q3) (C := RX6) (T := TX6) (N := 15) hx hb hts (by decide +kernel) hown hK hP 0 rfl rfl 3 (by decide) (hts (.fieldLink RX6 13 "JoinDeskModel" "keys" "[I") (by decide +kernel)) (fun _ h9 => h9) rfl dX6_prepare_31 ?_
              refine lv_sipush (v := 400) hx hb dX6_prepare_34 (by decide) ?_
              refine lv_iload_n hx hb dX6_prepare_37 rfl (lv_at hl 1 rfl) ?_
              refine lv_imul hx hb dX6_prepare_38 ?_
              refine lv_topi (fun z_26 e_z_26 => ?_)
              obtain rfl : z_26 = 0 := e_z_26.trans (by decide)
              refine lv_aload_n hx hb dX6_prepare_39 rfl (lv_at hl 0 rfl) ?_
              refine va_get (D := D) (ci := 6) (v := .ref q5) (C := RX6) (T := TX6) (N := 15) hx hb hts (by decide +kernel) hown hK hP 0 rfl rfl 5 (by decide) (hts (.fieldLink RX6 19 "JoinDeskModel" "order" "[I") (by decide +kernel)) (fun _ h9 => h9) rfl dX6_prepare_40 ?_
              refine lv_sipush (v := 400) hx hb dX6_prepare_43 (by decide) ?_
              refine lv_iload_n hx hb dX6_prepare_46 rfl (lv_at hl 1 rfl) ?_
              refine lv_imul hx hb dX6_prepare_47 ?_
              refine lv_topi (fun z_27 e_z_27 => ?_)
              obtain rfl : z_27 = 0 := e_z_27.trans (by decide)
              refine lv_iload_n hx hb dX6_prepare_48 rfl (lv_at hl 3 rfl) ?_
              refine lv_iadd hx hb dX6_prepare_49 ?_
              refine lv_topi (fun z_28 e_z_28 => ?_)
              obtain rfl : z_28 = nI (0 + jq0 + 1) := e_z_28.trans (nI_add 0 (jq0 + 1))
              refine lv_iconst (v := 1) hx hb dX6_prepare_50 (by decide) ?_
              refine lv_isub hx hb dX6_prepare_51 ?_
              refine lv_topi (fun z_29 e_z_29 => ?_)
              obtain rfl : z_29 = nI (0 + jq0) := e_z_29.trans (nI_pred _)
              refine va_iald hx hb hK hP 2 0 rfl rfl (vp_in_nI (show 0 + jq0 < 800 by rw [nI_leI (by omega) (by omega)] at cge0; omega) (by omega)) dX6_prepare_52 ?_
              refine lv_iadd hx hb dX6_prepare_53 ?_
              refine va_iald hx hb hK hP 1 0 rfl rfl (jo5_in0 hoo0 (show 0 + jq0 < 800 by rw [nI_leI (by omega) (by omega)] at cge0; omega)) dX6_prepare_54 ?_
              refine lv_aload_n hx hb dX6_prepare_55 rfl (lv_at hl 0 rfl) ?_
              refine va_get (D := D) (ci := 6) (v := .ref q3) (C := RX6) (T := TX6) (N := 15) hx hb hts (by decide +kernel) hown hK hP 0 rfl rfl 3 (by decide) (hts (.fieldLink RX6 13 "JoinDeskModel" "keys" "[I") (by decide +kernel)) (fun _ h9 => h9) rfl dX6_prepare_56 ?_
              refine lv_sipush (v := 400) hx hb dX6_prepare_59 (by decide) ?_
              refine lv_iload_n hx hb dX6_prepare_62 rfl (lv_at hl 1 rfl) ?_
              refine lv_imul hx hb dX6_prepare_63 ?_
              refine lv_topi (fun z_30 e_z_30 => ?_)
              obtain rfl : z_30 = 0 := e_z_30.trans (by decide)
              refine lv_iload_n hx hb dX6_prepare_64 rfl (lv_at hl 2 rfl) ?_
              refine lv_iadd hx hb dX6_prepare_65 ?_
              refine lv_topi (fun z_31 e_z_31 => ?_)
              obtain rfl : z_31 = nI (0 + i0) := e_z_31.trans (nI_add 0 i0)
              refine va_iald hx hb hK hP 1 0 rfl rfl (vp_in_nI (show 0 + i0 < 800 by rw [nI_leI (by omega) (by omega)] at cge0; omega) (by omega)) dX6_prepare_66 ?_
              refine lv_icmp_le (tgt := 102) hx hb dX6_prepare_67 (by decide) (fun cle0 => ?_) (fun cle0 => ?_)
              · refine lv_aload_n hx hb dX6_prepare_102 rfl (lv_at hl 0 rfl) ?_
                refine va_get (D := D) (ci := 6) (v := .ref q5) (C := RX6) (T := TX6) (N := 15) hx hb hts (by decide +kernel) hown hK hP 0 rfl rfl 5 (by decide) (hts (.fieldLink RX6 19 "JoinDeskModel" "order" "[I") (by decide +kernel)) (fun _ h9 => h9) rfl dX6_prepare_103 ?_
                refine lv_sipush (v := 400) hx hb dX6_prepare_106 (by decide) ?_
                refine lv_iload_n hx hb dX6_prepare_109 rfl (lv_at hl 1 rfl) ?_
                refine lv_imul hx hb dX6_prepare_110 ?_
                refine lv_topi (fun z_32 e_z_32 => ?_)
                obtain rfl : z_32 = 0 := e_z_32.trans (by decide)
                refine lv_iload_n hx hb dX6_prepare_111 rfl (lv_at hl 3 rfl) ?_
                refine lv_iadd hx hb dX6_prepare_112 ?_
                refine lv_topi (fun z_33 e_z_33 => ?_)
                obtain rfl : z_33 = nI (0 + jq0 + 1) := e_z_33.trans (nI_add 0 (jq0 + 1))
                refine lv_iload_n hx hb dX6_prepare_113 rfl (lv_at hl 2 rfl) ?_
                refine va_iast hx hb hK hP hD hS 2 0 rfl rfl (vp_in_nI (show 0 + jq0 + 1 < 800 by rw [nI_leI (by omega) (by omega)] at cge0; omega) (by omega)) dX6_prepare_114 (fun H locs hP hD hS => ?_)
                have hP : va_P D vwCl [(mo, .inr (6, [.int 0, .ref q1, .int (nI g), .ref q3, .ref q4, .ref q5, .ref q6, .int pr, .int gr, .int kd, .long w10, .ref q11, .int mk, .long w13, .long w14])), (q3, .inl (cI, 800, .inl m3)), (q5, .inl (cI, 800, .inl (upd o0b (nI (0 + jq0 + 1)).toNatClampNeg (nI i0)))), (q6, .inl (cI, 2, .inl (jl [nI n, nI n2]))), (q11, .inl (cI, 24, .inl (jl [t0, t1, t2, t3, t4, t5, t6, t7, t8, t9, t10, t11, t12, t13, t14, t15, t16, t17, t18, t19, t20, t21, t22, t23])))] H := hP
                have hD : va_D A [(mo, .inr (6, [.int 0, .ref q1, .int (nI g), .ref q3, .ref q4, .ref q5, .ref q6, .int pr, .int gr, .int kd, .long w10, .ref q11, .int mk, .long w13, .long w14])), (q3, .inl (cI, 800, .inl m3)), (q5, .inl (cI, 800, .inl (upd o0b (nI (0 + jq0 + 1)).toNatClampNeg (nI i0)))), (q6, .inl (cI, 2, .inl (jl [nI n, nI n2]))), (q11, .inl (cI, 24, .inl (jl [t0, t1, t2, t3, t4, t5, t6, t7, t8, t9, t10, t11, t12, t13, t14, t15, t16, t17, t18, t19, t20, t21, t22, t23])))] := hD
                refine lv_iinc (v := nI (i0 + 1)) (lv' := [(2, .int (nI (i0 + 1))), (0, .ref mo), (1, .int 0), (3, .int (nI (jq0 + 1)))]) hx hb dX6_prepare_115 hl (k := 2) rfl (nI_1 _) (by decide) rfl (fun ls hl => ?_)
                refine lv_goto (tgt := 14) hx hb dX6_prepare_118 (by decide) ?_
                exact ih_1 (i0 + 1) (upd o0b (nI (0 + jq0 + 1)).toNatClampNeg (nI i0)) (by rw [nI_leI (by omega) (by omega)] at cge0; omega) (by rw [nI_leI (by omega) (by omega)] at cge0; omega) (jo5_upd hoo0 (by rw [nI_leI (by omega) (by omega)] at cge0; omega)) (jp_exit (b := 0) hs0 hf0 (jp_le (b := 0) hoo0 (by decide) (by rw [nI_leI (by omega) (by omega)] at cge0; omega) (by rw [nI_leI (by omega) (by omega)] at cge0; omega) cle0)) _ _ hP hD hS ls (lv_sub hl [1, 2, 0] rfl)
              · refine lv_aload_n hx hb dX6_prepare_70 rfl (lv_at hl 0 rfl) ?_
                refine va_get (D := D) (ci := 6) (v := .ref q5) (C := RX6) (T := TX6) (N := 15) hx hb hts (by decide +kernel) hown hK hP 0 rfl rfl 5 (by decide) (hts (.fieldLink RX6 19 "JoinDeskModel" "order" "[I") (by decide +kernel)) (fun _ h9 => h9) rfl dX6_prepare_71 ?_
                refine lv_sipush (v := 400) hx hb dX6_prepare_74 (by decide) ?_
                refine lv_iload_n hx hb dX6_prepare_77 rfl (lv_at hl 1 rfl) ?_
                refine lv_imul hx hb dX6_prepare_78 ?_
                refine lv_topi (fun z_34 e_z_34 => ?_)
                obtain rfl : z_34 = 0 := e_z_34.trans (by decide)
                refine lv_iload_n hx hb dX6_prepare_79 rfl (lv_at hl 3 rfl) ?_
                refine lv_iadd hx hb dX6_prepare_80 ?_
                refine lv_topi (fun z_35 e_z_35 => ?_)
                obtain rfl : z_35 = nI (0 + jq0 + 1) := e_z_35.trans (nI_add 0 (jq0 + 1))
                refine lv_aload_n hx hb dX6_prepare_81 rfl (lv_at hl 0 rfl) ?_
                refine va_get (D := D) (ci := 6) (v := .ref q5) (C := RX6) (T := TX6) (N := 15) hx hb hts (by decide +kernel) hown hK hP 0 rfl rfl 5 (by decide) (hts (.fieldLink RX6 19 "JoinDeskModel" "order" "[I") (by decide +kernel)) (fun _ h9 => h9) rfl dX6_prepare_82 ?_
                refine lv_sipush (v := 400) hx hb dX6_prepare_85 (by decide) ?_
                refine lv_iload_n hx hb dX6_prepare_88 rfl (lv_at hl 1 rfl) ?_
                refine lv_imul hx hb dX6_prepare_89 ?_
                refine lv_topi (fun z_36 e_z_36 => ?_)
                obtain rfl : z_36 = 0 := e_z_36.trans (by decide)
                refine lv_iload_n hx hb dX6_prepare_90 rfl (lv_at hl 3 rfl) ?_
                refine lv_iadd hx hb dX6_prepare_91 ?_
                refine lv_topi (fun z_37 e_z_37 => ?_)
                obtain rfl : z_37 = nI (0 + jq0 + 1) := e_z_37.trans (nI_add 0 (jq0 + 1))
                refine lv_iconst (v := 1) hx hb dX6_prepare_92 (by decide) ?_
                refine lv_isub hx hb dX6_prepare_93 ?_
                refine lv_topi (fun z_38 e_z_38 => ?_)
                obtain rfl : z_38 = nI (0 + jq0) := e_z_38.trans (nI_pred _)
                refine va_iald hx hb hK hP 2 0 rfl rfl (vp_in_nI (show 0 + jq0 < 800 by rw [nI_leI (by omega) (by omega)] at cge0; omega) (by omega)) dX6_prepare_94 ?_
                refine va_iast hx hb hK hP hD hS 2 0 rfl rfl (vp_in_nI (show 0 + jq0 + 1 < 800 by rw [nI_leI (by omega) (by omega)] at cge0; omega) (by omega)) dX6_prepare_95 (fun H locs hP hD hS => ?_)
                have hP : va_P D vwCl [(mo, .inr (6, [.int 0, .ref q1, .int (nI g), .ref q3, .ref q4, .ref q5, .ref q6, .int pr, .int gr, .int kd, .long w10, .ref q11, .int mk, .long w13, .long w14])), (q3, .inl (cI, 800, .inl m3)), (q5, .inl (cI, 800, .inl (upd o0b (nI (0 + jq0 + 1)).toNatClampNeg (o0b (nI (0 + jq0)).toNatClampNeg)))), (q6, .inl (cI, 2, .inl (jl [nI n, nI n2]))), (q11, .inl (cI, 24, .inl (jl [t0, t1, t2, t3, t4, t5, t6, t7, t8, t9, t10, t11, t12, t13, t14, t15, t16, t17, t18, t19, t20, t21, t22, t23])))] H := hP
                have hD : va_D A [(mo, .inr (6, [.int 0, .ref q1, .int (nI g), .ref q3, .ref q4, .ref q5, .ref q6, .int pr, .int gr, .int kd, .long w10, .ref q11, .int mk, .long w13, .long w14])), (q3, .inl (cI, 800, .inl m3)), (q5, .inl (cI, 800, .inl (upd o0b (nI (0 + jq0 + 1)).toNatClampNeg (o0b (nI (0 + jq0)).toNatClampNeg)))), (q6, .inl (cI, 2, .inl (jl [nI n, nI n2]))), (q11, .inl (cI, 24, .inl (jl [t0, t1, t2, t3, t4, t5, t6, t7, t8, t9, t10, t11, t12, t13, t14, t15, t16, t17, t18, t19, t20, t21, t22, t23])))] := hD
                refine lv_iinc (v := nI jq0) (lv' := [(3, .int (nI jq0)), (0, .ref mo), (1, .int 0), (2, .int (nI i0))]) hx hb dX6_prepare_96 hl (k := 3) rfl (pk_m1 _) (by decide) rfl (fun ls hl => ?_)
                refine lv_goto (tgt := 26) hx hb dX6_prepare_99 (by decide) ?_
                exact ih_4 jq0 (upd o0b (nI (0 + jq0 + 1)).toNatClampNeg (o0b (nI (0 + jq0)).toNatClampNeg)) (by omega) (by omega) (by rw [nI_clamp (show 0 + jq0 < 2 ^ 31 by omega)]; exact jo5_mv hoo0 (by omega)) ((jp_gt (b := 0) hoo0 (by decide) (by rw [nI_leI (by omega) (by omega)] at cge0; omega) (by rw [nI_leI (by omega) (by omega)] at cge0; omega) cle0).trans hf0) _ _ hP hD hS ls (lv_sub hl [1, 2, 3, 0] rfl)
        exact hloop_4 (i0 + 1) i0 o0 (Nat.lt_succ_self _) (Nat.le_refl _) (ho0) (rfl) _ _ hP hD hS ls (lv_sub hl [1, 2, 3, 0] rfl)
  exact hloop_1 (n - 0 + 1) 0 m5 (Nat.lt_succ_self _) (Nat.zero_le _) (by assumption) (fun x hx => absurd hx (Nat.not_lt_zero _)) _ _ hP hD hS ls (lv_sub hl [2, 1, 0] rfl)
