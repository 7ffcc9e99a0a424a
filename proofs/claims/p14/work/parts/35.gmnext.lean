set_option maxHeartbeats 1000000 in
set_option maxRecDepth 100000 in
theorem gM_next_0 (l : Launch) (D : va_G) (cI cL cQ : ClassId) (mo : Nat) (g : Nat) (n : Nat) (n2 : Nat) (q1 : Nat) (q3 : Nat) (q4 : Nat) (q5 : Nat) (q6 : Nat) (q11 : Nat) (z0 : Int32) (gr : Int32) (kd : Int32) (mk : Int32) (w10 : Int64) (w13 : Int64) (w14 : Int64) (m3 : Nat → Int32) (m5 : Nat → Int32) (t2 : Int32) (t3 : Int32) (t4 : Int32) (t5 : Int32) (t6 : Int32) (t7 : Int32) (t8 : Int32) (t10 : Int32) (t11 : Int32) (t12 : Int32) (t13 : Int32) (t14 : Int32) (t15 : Int32) (t16 : Int32) (t17 : Int32) (t18 : Int32) (t19 : Int32) (t20 : Int32) (t21 : Int32) (t22 : Int32) (t23 : Int32) (e0 : Nat) (e1 : Nat) (sz : Nat) (hn : n ≤ 400) (hn2 : n2 ≤ 400) (h5 : jo5 m5) (hk4 : jk4 kd) (he0 : e0 ≤ 400) (he1 : e1 ≤ 400) : Met l yX6_next wsX6_next ({ frames := 2, cells := 0, slots := 0, locals := 45 }) (jw_P D vwCl (jT cI cL cQ) cL cQ [.ref mo] [(mo, .inr (6, [.int z0, .ref q1, .int (nI g), .ref q3, .ref q4, .ref q5, .ref q6, .int 1, .int gr, .int kd, .long w10, .ref q11, .int mk, .long w13, .long w14])), (q3, .inl (cI, 800, .inl m3)), (q5, .inl (cI, 800, .inl m5)), (q6, .inl (cI, 2, .inl (jl [nI n, nI n2]))), (q11, .inl (cI, 24, .inl (jl [nI e0, nI e1, t2, t3, t4, t5, t6, t7, t8, 0, t10, t11, t12, t13, t14, t15, t16, t17, t18, t19, t20, t21, t22, t23])))] sz) (va_Qi (fun (r : Int32) (u : va_W) => (∃ (d0x : Nat) (d1x : Nat) (e0x : Nat) (e1x : Nat) (f1x : Nat) (r0x : Nat) (r1x : Nat) (j10 : Int32) (j11 : Int32) (j2 : Int32) (wx : Int64), r = 1 ∧ u = [(mo, .inr (6, [.int 0, .ref q1, .int (nI g), .ref q3, .ref q4, .ref q5, .ref q6, .int 1, .int gr, .int kd, .long wx, .ref q11, .int mk, .long w13, .long w14])), (q3, .inl (cI, 800, .inl m3)), (q5, .inl (cI, 800, .inl m5)), (q6, .inl (cI, 2, .inl (jl [nI n, nI n2]))), (q11, .inl (cI, 24, .inl (jl [nI e0x, nI e1x, j2, nI f1x, nI d0x, nI d1x, nI r0x, nI r1x, 0, 1, j10, j11, t12, t13, t14, t15, t16, t17, t18, t19, t20, t21, t22, t23])))] ∧ (e0x ≤ 400) ∧ (e1x ≤ 400) ∧ (f1x < d1x) ∧ (r0x < d0x) ∧ (r1x < d1x) ∧ (d0x ≤ 400) ∧ (d1x ≤ 400)) ∨ (∃ (d0x : Nat) (e0x : Nat) (e1x : Nat) (r0x : Nat) (j10 : Int32) (j11 : Int32) (j2 : Int32) (j3 : Int32) (j5 : Int32) (j7 : Int32) (wx : Int64), r = 1 ∧ u = [(mo, .inr (6, [.int 0, .ref q1, .int (nI g), .ref q3, .ref q4, .ref q5, .ref q6, .int 1, .int gr, .int kd, .long wx, .ref q11, .int mk, .long w13, .long w14])), (q3, .inl (cI, 800, .inl m3)), (q5, .inl (cI, 800, .inl m5)), (q6, .inl (cI, 2, .inl (jl [nI n, nI n2]))), (q11, .inl (cI, 24, .inl (jl [nI e0x, nI e1x, j2, j3, nI d0x, j5, nI r0x, j7, 1, 1, j10, j11, t12, t13, t14, t15, t16, t17, t18, t19, t20, t21, t22, t23])))] ∧ (e0x ≤ 400) ∧ (e1x ≤ 400) ∧ (r0x < d0x) ∧ (d0x ≤ 400)) ∨ (∃ (d1x : Nat) (e0x : Nat) (e1x : Nat) (r1x : Nat) (j10 : Int32) (j11 : Int32) (j2 : Int32) (j3 : Int32) (j4 : Int32) (j6 : Int32) (wx : Int64), r = 1 ∧ u = [(mo, .inr (6, [.int 0, .ref q1, .int (nI g), .ref q3, .ref q4, .ref q5, .ref q6, .int 1, .int gr, .int kd, .long wx, .ref q11, .int mk, .long w13, .long w14])), (q3, .inl (cI, 800, .inl m3)), (q5, .inl (cI, 800, .inl m5)), (q6, .inl (cI, 2, .inl (jl [nI n, nI n2]))), (q11, .inl (cI, 24, .inl (jl [nI e0x, nI e1x, j2, j3, j4, nI d1x, j6, nI r1x, 2, 1, j10, j11, t12, t13, t14, t15, t16, t17, t18, t19, t20, t21, t22, t23])))] ∧ (e0x ≤ 400) ∧ (e1x ≤ 400) ∧ (r1x < d1x) ∧ (d1x ≤ 400)) ∨ (∃ (e0x : Nat) (e1x : Nat) (j10 : Int32) (j11 : Int32) (j2 : Int32) (j3 : Int32) (j4 : Int32) (j5 : Int32) (j6 : Int32) (j7 : Int32) (j8 : Int32) (wx : Int64), r = 0 ∧ u = [(mo, .inr (6, [.int 0, .ref q1, .int (nI g), .ref q3, .ref q4, .ref q5, .ref q6, .int 1, .int gr, .int kd, .long wx, .ref q11, .int mk, .long w13, .long w14])), (q3, .inl (cI, 800, .inl m3)), (q5, .inl (cI, 800, .inl m5)), (q6, .inl (cI, 2, .inl (jl [nI n, nI n2]))), (q11, .inl (cI, 24, .inl (jl [nI e0x, nI e1x, j2, j3, j4, j5, j6, j7, j8, 0, j10, j11, t12, t13, t14, t15, t16, t17, t18, t19, t20, t21, t22, t23])))] ∧ (e0x ≤ 400) ∧ (e1x ≤ 400))) (jw_B D vwCl (va_A [(mo, .inr (6, [.int z0, .ref q1, .int (nI g), .ref q3, .ref q4, .ref q5, .ref q6, .int 1, .int gr, .int kd, .long w10, .ref q11, .int mk, .long w13, .long w14])), (q3, .inl (cI, 800, .inl m3)), (q5, .inl (cI, 800, .inl m5)), (q6, .inl (cI, 2, .inl (jl [nI n, nI n2]))), (q11, .inl (cI, 24, .inl (jl [nI e0, nI e1, t2, t3, t4, t5, t6, t7, t8, 0, t10, t11, t12, t13, t14, t15, t16, t17, t18, t19, t20, t21, t22, t23])))] sz) (fun u : va_W => u)) (va_A [(mo, .inr (6, [.int z0, .ref q1, .int (nI g), .ref q3, .ref q4, .ref q5, .ref q6, .int 1, .int gr, .int kd, .long w10, .ref q11, .int mk, .long w13, .long w14])), (q3, .inl (cI, 800, .inl m3)), (q5, .inl (cI, 800, .inl m5)), (q6, .inl (cI, 2, .inl (jl [nI n, nI n2]))), (q11, .inl (cI, 24, .inl (jl [nI e0, nI e1, t2, t3, t4, t5, t6, t7, t8, 0, t10, t11, t12, t13, t14, t15, t16, t17, t18, t19, t20, t21, t22, t23])))] sz)) 0 0 (va_A [(mo, .inr (6, [.int z0, .ref q1, .int (nI g), .ref q3, .ref q4, .ref q5, .ref q6, .int 1, .int gr, .int kd, .long w10, .ref q11, .int mk, .long w13, .long w14])), (q3, .inl (cI, 800, .inl m3)), (q5, .inl (cI, 800, .inl m5)), (q6, .inl (cI, 2, .inl (jl [nI n, nI n2]))), (q11, .inl (cI, 24, .inl (jl [nI e0, nI e1, t2, t3, t4, t5, t6, t7, t8, 0, t10, t11, t12, t13, t14, t15, t16, t17, t18, t19, t20, t21, t22, t23])))] sz) := by
  refine Met.ofW (cc := cX6_next) (maxL := 5) (ret := (some .boolean)) (by decide) rfl ?_
  intro p e s m args below meth c s₁ B hml hv
  obtain ⟨rfl, hsz, hP, hK, hN, hD0⟩ := hv
  have hx := B.exec
  have hb := B.bytes
  have hr := B.returns
  have hts := atoms_spec (ws := wsX6_next) B.pre
  have hown : s.vm.findClass RX6 = some m.cls := findClass_of_methodNamed B.named
  have hlocks := B.notSynchronized
  subst hsz
  have hD := hD0.self (sz := s.heap.size)
  generalize hAe : va_A [(mo, .inr (6, [.int z0, .ref q1, .int (nI g), .ref q3, .ref q4, .ref q5, .ref q6, .int 1, .int gr, .int kd, .long w10, .ref q11, .int mk, .long w13, .long w14])), (q3, .inl (cI, 800, .inl m3)), (q5, .inl (cI, 800, .inl m5)), (q6, .inl (cI, 2, .inl (jl [nI n, nI n2]))), (q11, .inl (cI, 24, .inl (jl [nI e0, nI e1, t2, t3, t4, t5, t6, t7, t8, 0, t10, t11, t12, t13, t14, t15, t16, t17, t18, t19, t20, t21, t22, t23])))] s.heap.size = A at hD ⊢
  have hA : ∀ q : Nat, s.heap.size ≤ q → A q := fun q h => by rw [← hAe]; exact Or.inr h
  have hS : va_S A s.heap s.heap [] := va_S.rf
  have hl := lv_entry ([.ref mo]) (n := 5) (Nat.le_of_ble_eq_true rfl)
  rw [lg_entry_eq]
  generalize (lg_sl ([.ref mo]) ++ List.replicate (5 - (lg_sl ([.ref mo])).length) Slot.unset).toArray = ls at hl ⊢
  have hl : lv_has ls 5 [(0, .ref mo)] := hl
  refine lv_aload_n hx hb dX6_next_0 rfl (lv_at hl 0 rfl) ?_
  refine lv_aload_n hx hb dX6_next_1 rfl (lv_at hl 0 rfl) ?_
  refine va_get (D := D) (ci := 6) (v := .int 1) (C := RX6) (T := TX6) (N := 15) hx hb hts (by decide +kernel) hown hK hP 0 rfl rfl 7 (by decide) (hts (.fieldLink RX6 43 "JoinDeskModel" "prepared" "Z") (by decide +kernel)) (fun _ h9 => h9) rfl dX6_next_2 ?_
  refine lv_if_eq (tgt := 12) hx hb dX6_next_5 (by decide) (fun c_1 => absurd c_1 (by decide)) (fun c_1 => ?_)
  refine lv_iconst (v := 0) hx hb dX6_next_8 (by decide) ?_
  refine lv_goto (tgt := 13) hx hb dX6_next_9 (by decide) ?_
  refine jw_i (wr := [(q3, .inl (cI, 800, .inl m3)), (q5, .inl (cI, 800, .inl m5)), (q6, .inl (cI, 2, .inl (jl [nI n, nI n2]))), (q11, .inl (cI, 24, .inl (jl [nI e0, nI e1, t2, t3, t4, t5, t6, t7, t8, 0, t10, t11, t12, t13, t14, t15, t16, t17, t18, t19, t20, t21, t22, t23])))]) (va_runV (As := [.int 0]) (rest := []) ⟨hx, hb, hml, hown, hts⟩ (gM_refuses_0 l D cI cL cQ mo g q1 q3 q4 q5 q6 q11 z0 1 gr kd mk w10 w13 w14 _) (cwV 1 hts gX6_next_X6_refuses rfl rfl rfl (by decide +kernel) ⟨Nat.le_of_ble_eq_true rfl, Nat.le_of_ble_eq_true rfl⟩) (jw_V hK hN hP hD [0] (by decide) rfl 6 0 rfl rfl rfl) rfl rfl hl.1 rfl (lv_room (Nat.le_of_ble_eq_true rfl)) dX6_next_13 ⟨Nat.le_of_ble_eq_true rfl, Nat.le_of_ble_eq_true rfl⟩) hP hD hS hA [0] [1, 2, 3, 4] rfl rfl (by decide) (by decide) (fun r u H locs f_2 hP hD hS => ?_)
  obtain ⟨rfl, rfl⟩ := f_2
  have hP : va_P D vwCl [(q3, .inl (cI, 800, .inl m3)), (q5, .inl (cI, 800, .inl m5)), (q6, .inl (cI, 2, .inl (jl [nI n, nI n2]))), (q11, .inl (cI, 24, .inl (jl [nI e0, nI e1, t2, t3, t4, t5, t6, t7, t8, 0, t10, t11, t12, t13, t14, t15, t16, t17, t18, t19, t20, t21, t22, t23]))), (mo, .inr (6, [.int 0, .ref q1, .int (nI g), .ref q3, .ref q4, .ref q5, .ref q6, .int 1, .int gr, .int kd, .long w10, .ref q11, .int mk, .long w13, .long w14]))] H := hP
  have hD : va_D A [(q3, .inl (cI, 800, .inl m3)), (q5, .inl (cI, 800, .inl m5)), (q6, .inl (cI, 2, .inl (jl [nI n, nI n2]))), (q11, .inl (cI, 24, .inl (jl [nI e0, nI e1, t2, t3, t4, t5, t6, t7, t8, 0, t10, t11, t12, t13, t14, t15, t16, t17, t18, t19, t20, t21, t22, t23]))), (mo, .inr (6, [.int 0, .ref q1, .int (nI g), .ref q3, .ref q4, .ref q5, .ref q6, .int 1, .int gr, .int kd, .long w10, .ref q11, .int mk, .long w13, .long w14]))] := hD
  refine lv_if_eq (tgt := 21) hx hb dX6_next_16 (by decide) (fun c_3 => ?_) (fun c_3 => absurd c_3 (by decide))
  refine lv_aload_n hx hb dX6_next_21 rfl (lv_at hl 0 rfl) ?_
  refine va_get (D := D) (ci := 6) (v := .ref q11) (C := RX6) (T := TX6) (N := 15) hx hb hts (by decide +kernel) hown hK hP 4 rfl rfl 11 (by decide) (hts (.fieldLink RX6 25 "JoinDeskModel" "at" "[I") (by decide +kernel)) (fun _ h9 => h9) rfl dX6_next_22 ?_
  refine lv_bipush (v := 9) hx hb dX6_next_25 (by decide) ?_
  refine va_iald hx hb hK hP 3 0 rfl rfl (by unfold vp_in; decide) dX6_next_27 ?_
  refine W.eq (g2 := F0 m 28 ls [.int 0]) rfl ?_
  refine lv_iconst (v := 1) hx hb dX6_next_28 (by decide) ?_
  refine lv_icmp_ne (tgt := 52) hx hb dX6_next_29 (by decide) (fun c_4 => ?_) (fun c_4 => absurd c_4 (by decide))
  refine lv_aload_n hx hb dX6_next_52 rfl (lv_at hl 0 rfl) ?_
  refine va_get (D := D) (ci := 6) (v := .ref q11) (C := RX6) (T := TX6) (N := 15) hx hb hts (by decide +kernel) hown hK hP 4 rfl rfl 11 (by decide) (hts (.fieldLink RX6 25 "JoinDeskModel" "at" "[I") (by decide +kernel)) (fun _ h9 => h9) rfl dX6_next_53 ?_
  refine lv_bipush (v := 9) hx hb dX6_next_56 (by decide) ?_
  refine lv_iconst (v := 0) hx hb dX6_next_58 (by decide) ?_
  refine va_iast hx hb hK hP hD hS 3 0 rfl rfl (by unfold vp_in; decide) dX6_next_59 (fun H locs hP hD hS => ?_)
  rw [jl_upd (show (9 : Int32).toNatClampNeg = 9 by decide) (Nat.le_of_ble_eq_true rfl)] at hP hD
  have hP : va_P D vwCl [(q3, .inl (cI, 800, .inl m3)), (q5, .inl (cI, 800, .inl m5)), (q6, .inl (cI, 2, .inl (jl [nI n, nI n2]))), (q11, .inl (cI, 24, .inl (jl [nI e0, nI e1, t2, t3, t4, t5, t6, t7, t8, 0, t10, t11, t12, t13, t14, t15, t16, t17, t18, t19, t20, t21, t22, t23]))), (mo, .inr (6, [.int 0, .ref q1, .int (nI g), .ref q3, .ref q4, .ref q5, .ref q6, .int 1, .int gr, .int kd, .long w10, .ref q11, .int mk, .long w13, .long w14]))] H := hP
  have hD : va_D A [(q3, .inl (cI, 800, .inl m3)), (q5, .inl (cI, 800, .inl m5)), (q6, .inl (cI, 2, .inl (jl [nI n, nI n2]))), (q11, .inl (cI, 24, .inl (jl [nI e0, nI e1, t2, t3, t4, t5, t6, t7, t8, 0, t10, t11, t12, t13, t14, t15, t16, t17, t18, t19, t20, t21, t22, t23]))), (mo, .inr (6, [.int 0, .ref q1, .int (nI g), .ref q3, .ref q4, .ref q5, .ref q6, .int 1, .int gr, .int kd, .long w10, .ref q11, .int mk, .long w13, .long w14]))] := hD
  have hP := hP.sub (ws' := [(mo, .inr (6, [.int 0, .ref q1, .int (nI g), .ref q3, .ref q4, .ref q5, .ref q6, .int 1, .int gr, .int kd, .long w10, .ref q11, .int mk, .long w13, .long w14])), (q3, .inl (cI, 800, .inl m3)), (q5, .inl (cI, 800, .inl m5)), (q6, .inl (cI, 2, .inl (jl [nI n, nI n2]))), (q11, .inl (cI, 24, .inl (jl [nI e0, nI e1, t2, t3, t4, t5, t6, t7, t8, 0, t10, t11, t12, t13, t14, t15, t16, t17, t18, t19, t20, t21, t22, t23])))]) [4, 0, 1, 2, 3] rfl
  have hD := hD.sub (ws' := [(mo, .inr (6, [.int 0, .ref q1, .int (nI g), .ref q3, .ref q4, .ref q5, .ref q6, .int 1, .int gr, .int kd, .long w10, .ref q11, .int mk, .long w13, .long w14])), (q3, .inl (cI, 800, .inl m3)), (q5, .inl (cI, 800, .inl m5)), (q6, .inl (cI, 2, .inl (jl [nI n, nI n2]))), (q11, .inl (cI, 24, .inl (jl [nI e0, nI e1, t2, t3, t4, t5, t6, t7, t8, 0, t10, t11, t12, t13, t14, t15, t16, t17, t18, t19, t20, t21, t22, t23])))]) [4, 0, 1, 2, 3] (by decide) rfl
  have hloop_1 : ∀ (k_1 : Nat) (b0 : Nat) (b1 : Nat) (l2 : Int32) (l3 : Int32) (l4 : Int32) (l5 : Int32) (l6 : Int32) (l7 : Int32) (l8 : Int32) (l10 : Int32) (l11 : Int32) (wl : Int64), (n - b0) + (n2 - b1) < k_1 → (b0 ≤ 400) → (b1 ≤ 400) → ∀ (H : Heap) (locs : List Loc), va_P D vwCl [(mo, .inr (6, [.int 0, .ref q1, .int (nI g), .ref q3, .ref q4, .ref q5, .ref q6, .int 1, .int gr, .int kd, .long wl, .ref q11, .int mk, .long w13, .long w14])), (q3, .inl (cI, 800, .inl m3)), (q5, .inl (cI, 800, .inl m5)), (q6, .inl (cI, 2, .inl (jl [nI n, nI n2]))), (q11, .inl (cI, 24, .inl (jl [nI b0, nI b1, l2, l3, l4, l5, l6, l7, l8, 0, l10, l11, t12, t13, t14, t15, t16, t17, t18, t19, t20, t21, t22, t23])))] H → va_D A [(mo, .inr (6, [.int 0, .ref q1, .int (nI g), .ref q3, .ref q4, .ref q5, .ref q6, .int 1, .int gr, .int kd, .long wl, .ref q11, .int mk, .long w13, .long w14])), (q3, .inl (cI, 800, .inl m3)), (q5, .inl (cI, 800, .inl m5)), (q6, .inl (cI, 2, .inl (jl [nI n, nI n2]))), (q11, .inl (cI, 24, .inl (jl [nI b0, nI b1, l2, l3, l4, l5, l6, l7, l8, 0, l10, l11, t12, t13, t14, t15, t16, t17, t18, t19, t20, t21, t22, t23])))] → va_S A s.heap H locs → ∀ ls : Array Slot, lv_has ls 5 [(0, .ref mo)] → W p l e (headSpec wsX6_next ({ frames := 2, cells := 0, slots := 0, locals := 45 })).room s m #[.ref mo] below meth c H locs 0 0 (MQ below (va_Qi (fun (r : Int32) (u : va_W) => (∃ (d0x : Nat) (d1x : Nat) (e0x : Nat) (e1x : Nat) (f1x : Nat) (r0x : Nat) (r1x : Nat) (j10 : Int32) (j11 : Int32) (j2 : Int32) (wx : Int64), r = 1 ∧ u = [(mo, .inr (6, [.int 0, .ref q1, .int (nI g), .ref q3, .ref q4, .ref q5, .ref q6, .int 1, .int gr, .int kd, .long wx, .ref q11, .int mk, .long w13, .long w14])), (q3, .inl (cI, 800, .inl m3)), (q5, .inl (cI, 800, .inl m5)), (q6, .inl (cI, 2, .inl (jl [nI n, nI n2]))), (q11, .inl (cI, 24, .inl (jl [nI e0x, nI e1x, j2, nI f1x, nI d0x, nI d1x, nI r0x, nI r1x, 0, 1, j10, j11, t12, t13, t14, t15, t16, t17, t18, t19, t20, t21, t22, t23])))] ∧ (e0x ≤ 400) ∧ (e1x ≤ 400) ∧ (f1x < d1x) ∧ (r0x < d0x) ∧ (r1x < d1x) ∧ (d0x ≤ 400) ∧ (d1x ≤ 400)) ∨ (∃ (d0x : Nat) (e0x : Nat) (e1x : Nat) (r0x : Nat) (j10 : Int32) (j11 : Int32) (j2 : Int32) (j3 : Int32) (j5 : Int32) (j7 : Int32) (wx : Int64), r = 1 ∧ u = [(mo, .inr (6, [.int 0, .ref q1, .int (nI g), .ref q3, .ref q4, .ref q5, .ref q6, .int 1, .int gr, .int kd, .long wx, .ref q11, .int mk, .long w13, .long w14])), (q3, .inl (cI, 800, .inl m3)), (q5, .inl (cI, 800, .inl m5)), (q6, .inl (cI, 2, .inl (jl [nI n, nI n2]))), (q11, .inl (cI, 24, .inl (jl [nI e0x, nI e1x, j2, j3, nI d0x, j5, nI r0x, j7, 1, 1, j10, j11, t12, t13, t14, t15, t16, t17, t18, t19, t20, t21, t22, t23])))] ∧ (e0x ≤ 400) ∧ (e1x ≤ 400) ∧ (r0x < d0x) ∧ (d0x ≤ 400)) ∨ (∃ (d1x : Nat) (e0x : Nat) (e1x : Nat) (r1x : Nat) (j10 : Int32) (j11 : Int32) (j2 : Int32) (j3 : Int32) (j4 : Int32) (j6 : Int32) (wx : Int64), r = 1 ∧ u = [(mo, .inr (6, [.int 0, .ref q1, .int (nI g), .ref q3, .ref q4, .ref q5, .ref q6, .int 1, .int gr, .int kd, .long wx, .ref q11, .int mk, .long w13, .long w14])), (q3, .inl (cI, 800, .inl m3)), (q5, .inl (cI, 800, .inl m5)), (q6, .inl (cI, 2, .inl (jl [nI n, nI n2]))), (q11, .inl (cI, 24, .inl (jl [nI e0x, nI e1x, j2, j3, j4, nI d1x, j6, nI r1x, 2, 1, j10, j11, t12, t13, t14, t15, t16, t17, t18, t19, t20, t21, t22, t23])))] ∧ (e0x ≤ 400) ∧ (e1x ≤ 400) ∧ (r1x < d1x) ∧ (d1x ≤ 400)) ∨ (∃ (e0x : Nat) (e1x : Nat) (j10 : Int32) (j11 : Int32) (j2 : Int32) (j3 : Int32) (j4 : Int32) (j5 : Int32) (j6 : Int32) (j7 : Int32) (j8 : Int32) (wx : Int64), r = 0 ∧ u = [(mo, .inr (6, [.int 0, .ref q1, .int (nI g), .ref q3, .ref q4, .ref q5, .ref q6, .int 1, .int gr, .int kd, .long wx, .ref q11, .int mk, .long w13, .long w14])), (q3, .inl (cI, 800, .inl m3)), (q5, .inl (cI, 800, .inl m5)), (q6, .inl (cI, 2, .inl (jl [nI n, nI n2]))), (q11, .inl (cI, 24, .inl (jl [nI e0x, nI e1x, j2, j3, j4, j5, j6, j7, j8, 0, j10, j11, t12, t13, t14, t15, t16, t17, t18, t19, t20, t21, t22, t23])))] ∧ (e0x ≤ 400) ∧ (e1x ≤ 400))) (jw_B D vwCl A (fun u : va_W => u)) A) #[.ref mo] s 0 0 A) (F0 m 60 ls []) := by
    intro k_1
    induction k_1 with
    | zero => exact fun _ _ _ _ _ _ _ _ _ _ _ _ hm => absurd hm (Nat.not_lt_zero _)
    | succ k_1 ih_1 =>
      intro b0 b1 l2 l3 l4 l5 l6 l7 l8 l10 l11 wl hm1 hb0 hb1 H locs hP hD hS ls hl
      refine lv_aload_n hx hb dX6_next_60 rfl (lv_at hl 0 rfl) ?_
      refine va_get (D := D) (ci := 6) (v := .ref q11) (C := RX6) (T := TX6) (N := 15) hx hb hts (by decide +kernel) hown hK hP 0 rfl rfl 11 (by decide) (hts (.fieldLink RX6 25 "JoinDeskModel" "at" "[I") (by decide +kernel)) (fun _ h9 => h9) rfl dX6_next_61 ?_
      refine lv_iconst (v := 0) hx hb dX6_next_64 (by decide) ?_
      refine va_iald hx hb hK hP 4 0 rfl rfl (by unfold vp_in; decide) dX6_next_65 ?_
      refine W.eq (g2 := F0 m 66 ls [.int (nI b0)]) rfl ?_
      refine lv_aload_n hx hb dX6_next_66 rfl (lv_at hl 0 rfl) ?_
      refine va_get (D := D) (ci := 6) (v := .ref q6) (C := RX6) (T := TX6) (N := 15) hx hb hts (by decide +kernel) hown hK hP 0 rfl rfl 6 (by decide) (hts (.fieldLink RX6 22 "JoinDeskModel" "many" "[I") (by decide +kernel)) (fun _ h9 => h9) rfl dX6_next_67 ?_
      refine lv_iconst (v := 0) hx hb dX6_next_70 (by decide) ?_
      refine va_iald hx hb hK hP 3 0 rfl rfl (by unfold vp_in; decide) dX6_next_71 ?_
      refine W.eq (g2 := F0 m 72 ls [.int (nI n), .int (nI b0)]) rfl ?_
      refine lv_icmp_lt (tgt := 90) hx hb dX6_next_72 (by decide) (fun cl0 => ?_) (fun cl0 => ?_)
      · refine lv_aload_n hx hb dX6_next_90 rfl (lv_at hl 0 rfl) ?_
        refine va_get (D := D) (ci := 6) (v := .ref q11) (C := RX6) (T := TX6) (N := 15) hx hb hts (by decide +kernel) hown hK hP 0 rfl rfl 11 (by decide) (hts (.fieldLink RX6 25 "JoinDeskModel" "at" "[I") (by decide +kernel)) (fun _ h9 => h9) rfl dX6_next_91 ?_
        refine lv_iconst (v := 0) hx hb dX6_next_94 (by decide) ?_
        refine va_iald hx hb hK hP 4 0 rfl rfl (by unfold vp_in; decide) dX6_next_95 ?_
        refine W.eq (g2 := F0 m 96 ls [.int (nI b0)]) rfl ?_
        refine lv_aload_n hx hb dX6_next_96 rfl (lv_at hl 0 rfl) ?_
        refine va_get (D := D) (ci := 6) (v := .ref q6) (C := RX6) (T := TX6) (N := 15) hx hb hts (by decide +kernel) hown hK hP 0 rfl rfl 6 (by decide) (hts (.fieldLink RX6 22 "JoinDeskModel" "many" "[I") (by decide +kernel)) (fun _ h9 => h9) rfl dX6_next_97 ?_
        refine lv_iconst (v := 0) hx hb dX6_next_100 (by decide) ?_
        refine va_iald hx hb hK hP 3 0 rfl rfl (by unfold vp_in; decide) dX6_next_101 ?_
        refine W.eq (g2 := F0 m 102 ls [.int (nI n), .int (nI b0)]) rfl ?_
        refine lv_icmp_ge (tgt := 109) hx hb dX6_next_102 (by decide) (fun cl1 => absurd cl1 (by exact j_nle cl0)) (fun cl1 => ?_)
        refine lv_iconst (v := 1) hx hb dX6_next_105 (by decide) ?_
        refine lv_goto (tgt := 110) hx hb dX6_next_106 (by decide) ?_
        refine lv_istore_n (lv' := [(1, .int 1), (0, .ref mo)]) hx hb dX6_next_110 rfl hl (by decide) rfl (fun ls hl => ?_)
        refine lv_aload_n hx hb dX6_next_111 rfl (lv_at hl 1 rfl) ?_
        refine va_get (D := D) (ci := 6) (v := .ref q11) (C := RX6) (T := TX6) (N := 15) hx hb hts (by decide +kernel) hown hK hP 0 rfl rfl 11 (by decide) (hts (.fieldLink RX6 25 "JoinDeskModel" "at" "[I") (by decide +kernel)) (fun _ h9 => h9) rfl dX6_next_112 ?_
        refine lv_iconst (v := 1) hx hb dX6_next_115 (by decide) ?_
        refine va_iald hx hb hK hP 4 0 rfl rfl (by unfold vp_in; decide) dX6_next_116 ?_
        refine W.eq (g2 := F0 m 117 ls [.int (nI b1)]) rfl ?_
        refine lv_aload_n hx hb dX6_next_117 rfl (lv_at hl 1 rfl) ?_
        refine va_get (D := D) (ci := 6) (v := .ref q6) (C := RX6) (T := TX6) (N := 15) hx hb hts (by decide +kernel) hown hK hP 0 rfl rfl 6 (by decide) (hts (.fieldLink RX6 22 "JoinDeskModel" "many" "[I") (by decide +kernel)) (fun _ h9 => h9) rfl dX6_next_118 ?_
        refine lv_iconst (v := 1) hx hb dX6_next_121 (by decide) ?_
        refine va_iald hx hb hK hP 3 0 rfl rfl (by unfold vp_in; decide) dX6_next_122 ?_
        refine W.eq (g2 := F0 m 123 ls [.int (nI n2), .int (nI b1)]) rfl ?_
        refine lv_icmp_ge (tgt := 130) hx hb dX6_next_123 (by decide) (fun cr1 => ?_) (fun cr1 => ?_)
        · refine lv_iconst (v := 0) hx hb dX6_next_130 (by decide) ?_
          refine lv_istore_n (lv' := [(2, .int 0), (1, .int 1), (0, .ref mo)]) hx hb dX6_next_131 rfl hl (by decide) rfl (fun ls hl => ?_)
          refine lv_iload_n hx hb dX6_next_132 rfl (lv_at hl 1 rfl) ?_
          refine lv_if_eq (tgt := 201) hx hb dX6_next_133 (by decide) (fun c_5 => absurd c_5 (by decide)) (fun c_5 => ?_)
          refine lv_iload_n hx hb dX6_next_136 rfl (lv_at hl 0 rfl) ?_
          refine lv_if_eq (tgt := 201) hx hb dX6_next_137 (by decide) (fun c_6 => ?_) (fun c_6 => absurd c_6 (by decide))
          refine lv_iload_n hx hb dX6_next_201 rfl (lv_at hl 1 rfl) ?_
          refine lv_if_eq (tgt := 210) hx hb dX6_next_202 (by decide) (fun c_7 => absurd c_7 (by decide)) (fun c_7 => ?_)
          refine lv_aload_n hx hb dX6_next_205 rfl (lv_at hl 2 rfl) ?_
          refine lv_iconst (v := 0) hx hb dX6_next_206 (by decide) ?_
          refine jw_v (wr := []) (va_runV (As := [.int 0]) (rest := []) ⟨hx, hb, hml, hown, hts⟩ (gM_goes_0 l D cI cL cQ mo g n n2 q1 q3 q4 q5 q6 q11 0 1 gr kd mk wl w13 w14 m3 m5 (nI b1) l2 l3 l4 l5 l6 l7 l8 0 l10 l11 t12 t13 t14 t15 t16 t17 t18 t19 t20 t21 t22 t23 b0 _ (by first | assumption | decide | omega) (by first | assumption | decide | omega) (by rw [nI_leI (by omega) (by omega)] at cl1; omega)) (cwV 1 hts gX6_next_X6_goes rfl rfl rfl (by decide +kernel) ⟨Nat.le_of_ble_eq_true rfl, Nat.le_of_ble_eq_true rfl⟩) (jw_V hK hN hP hD [0, 1, 2, 3, 4] (by decide) rfl 6 0 rfl rfl rfl) rfl rfl hl.1 rfl (lv_room (Nat.le_of_ble_eq_true rfl)) dX6_next_207 ⟨Nat.le_of_ble_eq_true rfl, Nat.le_of_ble_eq_true rfl⟩) hP hD hS hA [0, 1, 2, 3, 4] [] rfl rfl (by decide) (by decide) (fun u H locs f_8 hP hD hS => ?_)
          obtain ⟨to9_9, w9_10, rfl, f_11, f_12⟩ := f_8
          have hP : va_P D vwCl [(mo, .inr (6, [.int 0, .ref q1, .int (nI g), .ref q3, .ref q4, .ref q5, .ref q6, .int 1, .int gr, .int kd, .long w9_10, .ref q11, .int mk, .long w13, .long w14])), (q3, .inl (cI, 800, .inl m3)), (q5, .inl (cI, 800, .inl m5)), (q6, .inl (cI, 2, .inl (jl [nI n, nI n2]))), (q11, .inl (cI, 24, .inl (jl [nI to9_9, (nI b1), nI b0, l3, nI to9_9, l5, nI b0, l7, l8, 0, l10, l11, t12, t13, t14, t15, t16, t17, t18, t19, t20, t21, t22, t23])))] H := hP
          have hD : va_D A [(mo, .inr (6, [.int 0, .ref q1, .int (nI g), .ref q3, .ref q4, .ref q5, .ref q6, .int 1, .int gr, .int kd, .long w9_10, .ref q11, .int mk, .long w13, .long w14])), (q3, .inl (cI, 800, .inl m3)), (q5, .inl (cI, 800, .inl m5)), (q6, .inl (cI, 2, .inl (jl [nI n, nI n2]))), (q11, .inl (cI, 24, .inl (jl [nI to9_9, (nI b1), nI b0, l3, nI to9_9, l5, nI b0, l7, l8, 0, l10, l11, t12, t13, t14, t15, t16, t17, t18, t19, t20, t21, t22, t23])))] := hD
          refine lv_iload_n hx hb dX6_next_210 rfl (lv_at hl 0 rfl) ?_
          refine lv_if_eq (tgt := 219) hx hb dX6_next_211 (by decide) (fun c_13 => ?_) (fun c_13 => absurd c_13 (by decide))
          refine lv_aload_n hx hb dX6_next_219 rfl (lv_at hl 2 rfl) ?_
          refine va_get (D := D) (ci := 6) (v := .ref q11) (C := RX6) (T := TX6) (N := 15) hx hb hts (by decide +kernel) hown hK hP 0 rfl rfl 11 (by decide) (hts (.fieldLink RX6 25 "JoinDeskModel" "at" "[I") (by decide +kernel)) (fun _ h9 => h9) rfl dX6_next_220 ?_
          refine lv_bipush (v := 8) hx hb dX6_next_223 (by decide) ?_
          refine lv_iload_n hx hb dX6_next_225 rfl (lv_at hl 1 rfl) ?_
          refine lv_if_eq (tgt := 237) hx hb dX6_next_226 (by decide) (fun c_14 => absurd c_14 (by decide)) (fun c_14 => ?_)
          refine lv_iload_n hx hb dX6_next_229 rfl (lv_at hl 0 rfl) ?_
          refine lv_if_eq (tgt := 237) hx hb dX6_next_230 (by decide) (fun c_15 => ?_) (fun c_15 => absurd c_15 (by decide))
          refine lv_iload_n hx hb dX6_next_237 rfl (lv_at hl 1 rfl) ?_
          refine lv_if_eq (tgt := 245) hx hb dX6_next_238 (by decide) (fun c_16 => absurd c_16 (by decide)) (fun c_16 => ?_)
          refine lv_iconst (v := 1) hx hb dX6_next_241 (by decide) ?_
          refine lv_goto (tgt := 246) hx hb dX6_next_242 (by decide) ?_
          refine va_iast hx hb hK hP hD hS 4 0 rfl rfl (by unfold vp_in; decide) dX6_next_246 (fun H locs hP hD hS => ?_)
          rw [jl_upd (show (8 : Int32).toNatClampNeg = 8 by decide) (Nat.le_of_ble_eq_true rfl)] at hP hD
          have hP : va_P D vwCl [(mo, .inr (6, [.int 0, .ref q1, .int (nI g), .ref q3, .ref q4, .ref q5, .ref q6, .int 1, .int gr, .int kd, .long w9_10, .ref q11, .int mk, .long w13, .long w14])), (q3, .inl (cI, 800, .inl m3)), (q5, .inl (cI, 800, .inl m5)), (q6, .inl (cI, 2, .inl (jl [nI n, nI n2]))), (q11, .inl (cI, 24, .inl (jl [nI to9_9, (nI b1), nI b0, l3, nI to9_9, l5, nI b0, l7, 1, 0, l10, l11, t12, t13, t14, t15, t16, t17, t18, t19, t20, t21, t22, t23])))] H := hP
          have hD : va_D A [(mo, .inr (6, [.int 0, .ref q1, .int (nI g), .ref q3, .ref q4, .ref q5, .ref q6, .int 1, .int gr, .int kd, .long w9_10, .ref q11, .int mk, .long w13, .long w14])), (q3, .inl (cI, 800, .inl m3)), (q5, .inl (cI, 800, .inl m5)), (q6, .inl (cI, 2, .inl (jl [nI n, nI n2]))), (q11, .inl (cI, 24, .inl (jl [nI to9_9, (nI b1), nI b0, l3, nI to9_9, l5, nI b0, l7, 1, 0, l10, l11, t12, t13, t14, t15, t16, t17, t18, t19, t20, t21, t22, t23])))] := hD
          refine lv_aload_n hx hb dX6_next_247 rfl (lv_at hl 2 rfl) ?_
          refine va_get (D := D) (ci := 6) (v := .int kd) (C := RX6) (T := TX6) (N := 15) hx hb hts (by decide +kernel) hown hK hP 0 rfl rfl 9 (by decide) (hts (.fieldLink RX6 60 "JoinDeskModel" "kind" "I") (by decide +kernel)) (fun _ h9 => h9) rfl dX6_next_248 ?_
          refine lv_aload_n hx hb dX6_next_251 rfl (lv_at hl 2 rfl) ?_
          refine va_get (D := D) (ci := 6) (v := .ref q11) (C := RX6) (T := TX6) (N := 15) hx hb hts (by decide +kernel) hown hK hP 0 rfl rfl 11 (by decide) (hts (.fieldLink RX6 25 "JoinDeskModel" "at" "[I") (by decide +kernel)) (fun _ h9 => h9) rfl dX6_next_252 ?_
          refine lv_bipush (v := 8) hx hb dX6_next_255 (by decide) ?_
          refine va_iald hx hb hK hP 4 0 rfl rfl (by unfold vp_in; decide) dX6_next_257 ?_
          refine W.eq (g2 := F0 m 258 ls [.int 1, .int kd]) rfl ?_
          refine vp_callSi (va_Run.run (va_runS (As := [.int kd, .int 1]) (rest := []) ⟨hx, hb, hml, hown, hts⟩ (gM_tells_1 l D cI cL cQ kd (by first | assumption | decide | omega)) (va_cwS 2 hts gX6_next_X6_tells rfl rfl rfl (by decide +kernel) ⟨Nat.le_of_ble_eq_true rfl, Nat.le_of_ble_eq_true rfl⟩) (jr_S hK hN hP [] rfl) rfl rfl hl.1 rfl (lv_room (Nat.le_of_ble_eq_true rfl)) dX6_next_258 ⟨Nat.le_of_ble_eq_true rfl, Nat.le_of_ble_eq_true rfl⟩)) (fun r f_17 => ?_)
          rcases f_17 with ⟨rfl, f_18⟩ | ⟨rfl, f_19⟩
          · refine lv_if_eq (tgt := 285) hx hb dX6_next_261 (by decide) (fun c_20 => absurd c_20 (by decide)) (fun c_20 => ?_)
            refine lv_aload_n hx hb dX6_next_264 rfl (lv_at hl 2 rfl) ?_
            refine va_get (D := D) (ci := 6) (v := .ref q11) (C := RX6) (T := TX6) (N := 15) hx hb hts (by decide +kernel) hown hK hP 0 rfl rfl 11 (by decide) (hts (.fieldLink RX6 25 "JoinDeskModel" "at" "[I") (by decide +kernel)) (fun _ h9 => h9) rfl dX6_next_265 ?_
            refine lv_bipush (v := 9) hx hb dX6_next_268 (by decide) ?_
            refine lv_iconst (v := 1) hx hb dX6_next_270 (by decide) ?_
            refine va_iast hx hb hK hP hD hS 4 0 rfl rfl (by unfold vp_in; decide) dX6_next_271 (fun H locs hP hD hS => ?_)
            rw [jl_upd (show (9 : Int32).toNatClampNeg = 9 by decide) (Nat.le_of_ble_eq_true rfl)] at hP hD
            have hP : va_P D vwCl [(mo, .inr (6, [.int 0, .ref q1, .int (nI g), .ref q3, .ref q4, .ref q5, .ref q6, .int 1, .int gr, .int kd, .long w9_10, .ref q11, .int mk, .long w13, .long w14])), (q3, .inl (cI, 800, .inl m3)), (q5, .inl (cI, 800, .inl m5)), (q6, .inl (cI, 2, .inl (jl [nI n, nI n2]))), (q11, .inl (cI, 24, .inl (jl [nI to9_9, (nI b1), nI b0, l3, nI to9_9, l5, nI b0, l7, 1, 1, l10, l11, t12, t13, t14, t15, t16, t17, t18, t19, t20, t21, t22, t23])))] H := hP
            have hD : va_D A [(mo, .inr (6, [.int 0, .ref q1, .int (nI g), .ref q3, .ref q4, .ref q5, .ref q6, .int 1, .int gr, .int kd, .long w9_10, .ref q11, .int mk, .long w13, .long w14])), (q3, .inl (cI, 800, .inl m3)), (q5, .inl (cI, 800, .inl m5)), (q6, .inl (cI, 2, .inl (jl [nI n, nI n2]))), (q11, .inl (cI, 24, .inl (jl [nI to9_9, (nI b1), nI b0, l3, nI to9_9, l5, nI b0, l7, 1, 1, l10, l11, t12, t13, t14, t15, t16, t17, t18, t19, t20, t21, t22, t23])))] := hD
            refine lv_aload_n hx hb dX6_next_272 rfl (lv_at hl 2 rfl) ?_
            refine va_get (D := D) (ci := 6) (v := .ref q11) (C := RX6) (T := TX6) (N := 15) hx hb hts (by decide +kernel) hown hK hP 0 rfl rfl 11 (by decide) (hts (.fieldLink RX6 25 "JoinDeskModel" "at" "[I") (by decide +kernel)) (fun _ h9 => h9) rfl dX6_next_273 ?_
            refine lv_bipush (v := 10) hx hb dX6_next_276 (by decide) ?_
            refine lv_dup2_11 hx hb dX6_next_278 rfl rfl ?_
            refine va_iald hx hb hK hP 4 0 rfl rfl (by unfold vp_in; decide) dX6_next_279 ?_
            refine W.eq (g2 := F0 m 280 ls [.int l10, .int 10, .ref q11]) rfl ?_
            refine lv_iconst (v := 1) hx hb dX6_next_280 (by decide) ?_
            refine lv_iadd hx hb dX6_next_281 ?_
            refine va_iast hx hb hK hP hD hS 4 0 rfl rfl (by unfold vp_in; decide) dX6_next_282 (fun H locs hP hD hS => ?_)
            rw [jl_upd (show (10 : Int32).toNatClampNeg = 10 by decide) (Nat.le_of_ble_eq_true rfl)] at hP hD
            have hP : va_P D vwCl [(mo, .inr (6, [.int 0, .ref q1, .int (nI g), .ref q3, .ref q4, .ref q5, .ref q6, .int 1, .int gr, .int kd, .long w9_10, .ref q11, .int mk, .long w13, .long w14])), (q3, .inl (cI, 800, .inl m3)), (q5, .inl (cI, 800, .inl m5)), (q6, .inl (cI, 2, .inl (jl [nI n, nI n2]))), (q11, .inl (cI, 24, .inl (jl [nI to9_9, (nI b1), nI b0, l3, nI to9_9, l5, nI b0, l7, 1, 1, l10 + 1, l11, t12, t13, t14, t15, t16, t17, t18, t19, t20, t21, t22, t23])))] H := hP
            have hD : va_D A [(mo, .inr (6, [.int 0, .ref q1, .int (nI g), .ref q3, .ref q4, .ref q5, .ref q6, .int 1, .int gr, .int kd, .long w9_10, .ref q11, .int mk, .long w13, .long w14])), (q3, .inl (cI, 800, .inl m3)), (q5, .inl (cI, 800, .inl m5)), (q6, .inl (cI, 2, .inl (jl [nI n, nI n2]))), (q11, .inl (cI, 24, .inl (jl [nI to9_9, (nI b1), nI b0, l3, nI to9_9, l5, nI b0, l7, 1, 1, l10 + 1, l11, t12, t13, t14, t15, t16, t17, t18, t19, t20, t21, t22, t23])))] := hD
            refine lv_iconst (v := 1) hx hb dX6_next_283 (by decide) ?_
            refine W.widen (k := 0) (n := 0) (by omega) (by omega) ?_
            exact W.zret (v := 1) (ty := .boolean) hx hb hr rfl (fun t ht hW => ⟨⟨1, [(mo, .inr (6, [.int 0, .ref q1, .int (nI g), .ref q3, .ref q4, .ref q5, .ref q6, .int 1, .int gr, .int kd, .long w9_10, .ref q11, .int mk, .long w13, .long w14])), (q3, .inl (cI, 800, .inl m3)), (q5, .inl (cI, 800, .inl m5)), (q6, .inl (cI, 2, .inl (jl [nI n, nI n2]))), (q11, .inl (cI, 24, .inl (jl [nI to9_9, (nI b1), nI b0, l3, nI to9_9, l5, nI b0, l7, 1, 1, l10 + 1, l11, t12, t13, t14, t15, t16, t17, t18, t19, t20, t21, t22, t23])))], rfl, (by exact (Or.inr (Or.inl ⟨_, _, _, _, _, _, _, _, _, _, _, rfl, rfl, by omega, by omega, by omega, by omega⟩))), by rw [ht]; exact hP, hD⟩, hS.F ht⟩) hS.2.2 dX6_next_284
          · refine lv_if_eq (tgt := 285) hx hb dX6_next_261 (by decide) (fun c_21 => ?_) (fun c_21 => absurd c_21 (by decide))
            refine lv_goto (tgt := 60) hx hb dX6_next_285 (by decide) ?_
            exact ih_1 to9_9 b1 (nI b0) l3 (nI to9_9) l5 (nI b0) l7 1 l10 l11 w9_10 (by omega) (by omega) (by omega) _ _ hP hD hS ls (lv_sub hl [2] rfl)
        · refine lv_iconst (v := 1) hx hb dX6_next_126 (by decide) ?_
          refine lv_goto (tgt := 131) hx hb dX6_next_127 (by decide) ?_
          refine lv_istore_n (lv' := [(2, .int 1), (1, .int 1), (0, .ref mo)]) hx hb dX6_next_131 rfl hl (by decide) rfl (fun ls hl => ?_)
          refine lv_iload_n hx hb dX6_next_132 rfl (lv_at hl 1 rfl) ?_
          refine lv_if_eq (tgt := 201) hx hb dX6_next_133 (by decide) (fun c_22 => absurd c_22 (by decide)) (fun c_22 => ?_)
          refine lv_iload_n hx hb dX6_next_136 rfl (lv_at hl 0 rfl) ?_
          refine lv_if_eq (tgt := 201) hx hb dX6_next_137 (by decide) (fun c_23 => absurd c_23 (by decide)) (fun c_23 => ?_)
          refine lv_aload_n hx hb dX6_next_140 rfl (lv_at hl 2 rfl) ?_
          refine lv_iconst (v := 0) hx hb dX6_next_141 (by decide) ?_
          refine lv_aload_n hx hb dX6_next_142 rfl (lv_at hl 2 rfl) ?_
          refine va_get (D := D) (ci := 6) (v := .ref q11) (C := RX6) (T := TX6) (N := 15) hx hb hts (by decide +kernel) hown hK hP 0 rfl rfl 11 (by decide) (hts (.fieldLink RX6 25 "JoinDeskModel" "at" "[I") (by decide +kernel)) (fun _ h9 => h9) rfl dX6_next_143 ?_
          refine lv_iconst (v := 0) hx hb dX6_next_146 (by decide) ?_
          refine va_iald hx hb hK hP 4 0 rfl rfl (by unfold vp_in; decide) dX6_next_147 ?_
          refine W.eq (g2 := F0 m 148 ls [.int (nI b0), .int 0, .ref mo]) rfl ?_
          refine vp_callSi (va_Run.run (va_runV (As := [.int 0, .int (nI b0)]) (rest := []) ⟨hx, hb, hml, hown, hts⟩ (gM_key_0 l D cI cL cQ mo g q1 q3 q4 q5 q6 q11 0 1 gr kd mk wl w13 w14 m3 m5 b0 (by first | assumption | decide | omega) (by rw [nI_leI (by omega) (by omega)] at cl1; omega)) (cwV 2 hts gX6_next_X6_key rfl rfl rfl (by decide +kernel) ⟨Nat.le_of_ble_eq_true rfl, Nat.le_of_ble_eq_true rfl⟩) (jr_V hK hN hP [0, 1, 2] rfl 6 0 rfl rfl rfl) rfl rfl hl.1 rfl (lv_room (Nat.le_of_ble_eq_true rfl)) dX6_next_148 ⟨Nat.le_of_ble_eq_true rfl, Nat.le_of_ble_eq_true rfl⟩)) (fun r f_24 => ?_)
          obtain rfl := f_24
          refine lv_istore_n (lv' := [(3, .int (jmk 0 m3 m5 b0)), (2, .int 1), (1, .int 1), (0, .ref mo)]) hx hb dX6_next_151 rfl hl (by decide) rfl (fun ls hl => ?_)
          refine lv_aload_n hx hb dX6_next_152 rfl (lv_at hl 3 rfl) ?_
          refine lv_iconst (v := 1) hx hb dX6_next_153 (by decide) ?_
          refine lv_aload_n hx hb dX6_next_154 rfl (lv_at hl 3 rfl) ?_
          refine va_get (D := D) (ci := 6) (v := .ref q11) (C := RX6) (T := TX6) (N := 15) hx hb hts (by decide +kernel) hown hK hP 0 rfl rfl 11 (by decide) (hts (.fieldLink RX6 25 "JoinDeskModel" "at" "[I") (by decide +kernel)) (fun _ h9 => h9) rfl dX6_next_155 ?_
          refine lv_iconst (v := 1) hx hb dX6_next_158 (by decide) ?_
          refine va_iald hx hb hK hP 4 0 rfl rfl (by unfold vp_in; decide) dX6_next_159 ?_
          refine W.eq (g2 := F0 m 160 ls [.int (nI b1), .int 1, .ref mo]) rfl ?_
          refine vp_callSi (va_Run.run (va_runV (As := [.int 1, .int (nI b1)]) (rest := []) ⟨hx, hb, hml, hown, hts⟩ (gM_key_1 l D cI cL cQ mo g q1 q3 q4 q5 q6 q11 0 1 gr kd mk wl w13 w14 m3 m5 b1 (by first | assumption | decide | omega) (by rw [nI_leI (by omega) (by omega)] at cr1; omega)) (cwV 2 hts gX6_next_X6_key rfl rfl rfl (by decide +kernel) ⟨Nat.le_of_ble_eq_true rfl, Nat.le_of_ble_eq_true rfl⟩) (jr_V hK hN hP [0, 1, 2] rfl 6 0 rfl rfl rfl) rfl rfl hl.1 rfl (lv_room (Nat.le_of_ble_eq_true rfl)) dX6_next_160 ⟨Nat.le_of_ble_eq_true rfl, Nat.le_of_ble_eq_true rfl⟩)) (fun r f_25 => ?_)
          obtain rfl := f_25
          refine lv_istore (lv' := [(4, .int (jmk 400 m3 m5 b1)), (3, .int (jmk 0 m3 m5 b0)), (2, .int 1), (1, .int 1), (0, .ref mo)]) hx hb dX6_next_163 hl (by decide) rfl (fun ls hl => ?_)
          refine lv_aload_n hx hb dX6_next_165 rfl (lv_at hl 4 rfl) ?_
          refine lv_dup hx hb dX6_next_166 rfl ?_
          refine va_get (D := D) (ci := 6) (v := .long wl) (C := RX6) (T := TX6) (N := 15) hx hb hts (by decide +kernel) hown hK hP 0 rfl rfl 10 (by decide) (hts (.fieldLink RX6 53 "JoinDeskModel" "cells" "J") (by decide +kernel)) (fun _ h9 => h9) rfl dX6_next_167 ?_
          refine lv_ldc2 (v := (2)) hx hb hown (hts (.constantLong RX6 71 (2)) (by decide +kernel)) dX6_next_170 ?_
          refine lv_ladd hx hb dX6_next_173 ?_
          refine va_put (D := D) (ci := 6) (v := .long (wl + (2))) (ty := .long) (C := RX6) (T := TX6) (N := 15) hx hb hts (by decide +kernel) tyX6 tyX6_ok nmX6 hown hK hP hD hS 0 rfl rfl 10 (by decide) (hts (.fieldLink RX6 53 "JoinDeskModel" "cells" "J") (by decide +kernel)) (fun _ h9 => h9) rfl (by decide +kernel) rfl rfl (Nat.le_of_ble_eq_true rfl) dX6_next_174 (fun H locs hP hD hS => ?_)
          have hP : va_P D vwCl [(mo, .inr (6, [.int 0, .ref q1, .int (nI g), .ref q3, .ref q4, .ref q5, .ref q6, .int 1, .int gr, .int kd, .long (wl + (2)), .ref q11, .int mk, .long w13, .long w14])), (q3, .inl (cI, 800, .inl m3)), (q5, .inl (cI, 800, .inl m5)), (q6, .inl (cI, 2, .inl (jl [nI n, nI n2]))), (q11, .inl (cI, 24, .inl (jl [nI b0, nI b1, l2, l3, l4, l5, l6, l7, l8, 0, l10, l11, t12, t13, t14, t15, t16, t17, t18, t19, t20, t21, t22, t23])))] H := hP
          have hD : va_D A [(mo, .inr (6, [.int 0, .ref q1, .int (nI g), .ref q3, .ref q4, .ref q5, .ref q6, .int 1, .int gr, .int kd, .long (wl + (2)), .ref q11, .int mk, .long w13, .long w14])), (q3, .inl (cI, 800, .inl m3)), (q5, .inl (cI, 800, .inl m5)), (q6, .inl (cI, 2, .inl (jl [nI n, nI n2]))), (q11, .inl (cI, 24, .inl (jl [nI b0, nI b1, l2, l3, l4, l5, l6, l7, l8, 0, l10, l11, t12, t13, t14, t15, t16, t17, t18, t19, t20, t21, t22, t23])))] := hD
          refine lv_iload_n hx hb dX6_next_177 rfl (lv_at hl 1 rfl) ?_
          refine lv_iload hx hb dX6_next_178 (lv_at hl 0 rfl) ?_
          refine lv_icmp_gt (tgt := 187) hx hb dX6_next_180 (by decide) (fun ck => ?_) (fun ck => ?_)
          · refine lv_iconst (v := 0) hx hb dX6_next_187 (by decide) ?_
            refine lv_istore_n (lv' := [(1, .int 0), (4, .int (jmk 400 m3 m5 b1)), (3, .int (jmk 0 m3 m5 b0)), (2, .int 1), (0, .ref mo)]) hx hb dX6_next_188 rfl hl (by decide) rfl (fun ls hl => ?_)
            refine lv_iload hx hb dX6_next_189 (lv_at hl 1 rfl) ?_
            refine lv_iload_n hx hb dX6_next_191 rfl (lv_at hl 2 rfl) ?_
            refine lv_icmp_gt (tgt := 199) hx hb dX6_next_192 (by decide) (fun c_26 => absurd c_26 (by exact j_asym ck)) (fun c_26 => ?_)
            refine lv_iconst (v := 1) hx hb dX6_next_195 (by decide) ?_
            refine lv_goto (tgt := 200) hx hb dX6_next_196 (by decide) ?_
            refine lv_istore_n (lv' := [(2, .int 1), (1, .int 0), (4, .int (jmk 400 m3 m5 b1)), (3, .int (jmk 0 m3 m5 b0)), (0, .ref mo)]) hx hb dX6_next_200 rfl hl (by decide) rfl (fun ls hl => ?_)
            refine lv_iload_n hx hb dX6_next_201 rfl (lv_at hl 1 rfl) ?_
            refine lv_if_eq (tgt := 210) hx hb dX6_next_202 (by decide) (fun c_27 => ?_) (fun c_27 => absurd c_27 (by decide))
            refine lv_iload_n hx hb dX6_next_210 rfl (lv_at hl 0 rfl) ?_
            refine lv_if_eq (tgt := 219) hx hb dX6_next_211 (by decide) (fun c_28 => absurd c_28 (by decide)) (fun c_28 => ?_)
            refine lv_aload_n hx hb dX6_next_214 rfl (lv_at hl 4 rfl) ?_
            refine lv_iconst (v := 1) hx hb dX6_next_215 (by decide) ?_
            refine jw_v (wr := []) (va_runV (As := [.int 1]) (rest := []) ⟨hx, hb, hml, hown, hts⟩ (gM_goes_1 l D cI cL cQ mo g n n2 q1 q3 q4 q5 q6 q11 0 1 gr kd mk (wl + (2)) w13 w14 m3 m5 (nI b0) l2 l3 l4 l5 l6 l7 l8 0 l10 l11 t12 t13 t14 t15 t16 t17 t18 t19 t20 t21 t22 t23 b1 _ (by first | assumption | decide | omega) (by first | assumption | decide | omega) (by rw [nI_leI (by omega) (by omega)] at cr1; omega)) (cwV 1 hts gX6_next_X6_goes rfl rfl rfl (by decide +kernel) ⟨Nat.le_of_ble_eq_true rfl, Nat.le_of_ble_eq_true rfl⟩) (jw_V hK hN hP hD [0, 1, 2, 3, 4] (by decide) rfl 6 0 rfl rfl rfl) rfl rfl hl.1 rfl (lv_room (Nat.le_of_ble_eq_true rfl)) dX6_next_216 ⟨Nat.le_of_ble_eq_true rfl, Nat.le_of_ble_eq_true rfl⟩) hP hD hS hA [0, 1, 2, 3, 4] [] rfl rfl (by decide) (by decide) (fun u H locs f_29 hP hD hS => ?_)
            obtain ⟨to9_30, w9_31, rfl, f_32, f_33⟩ := f_29
            have hP : va_P D vwCl [(mo, .inr (6, [.int 0, .ref q1, .int (nI g), .ref q3, .ref q4, .ref q5, .ref q6, .int 1, .int gr, .int kd, .long w9_31, .ref q11, .int mk, .long w13, .long w14])), (q3, .inl (cI, 800, .inl m3)), (q5, .inl (cI, 800, .inl m5)), (q6, .inl (cI, 2, .inl (jl [nI n, nI n2]))), (q11, .inl (cI, 24, .inl (jl [(nI b0), nI to9_30, l2, nI b1, l4, nI to9_30, l6, nI b1, l8, 0, l10, l11, t12, t13, t14, t15, t16, t17, t18, t19, t20, t21, t22, t23])))] H := hP
            have hD : va_D A [(mo, .inr (6, [.int 0, .ref q1, .int (nI g), .ref q3, .ref q4, .ref q5, .ref q6, .int 1, .int gr, .int kd, .long w9_31, .ref q11, .int mk, .long w13, .long w14])), (q3, .inl (cI, 800, .inl m3)), (q5, .inl (cI, 800, .inl m5)), (q6, .inl (cI, 2, .inl (jl [nI n, nI n2]))), (q11, .inl (cI, 24, .inl (jl [(nI b0), nI to9_30, l2, nI b1, l4, nI to9_30, l6, nI b1, l8, 0, l10, l11, t12, t13, t14, t15, t16, t17, t18, t19, t20, t21, t22, t23])))] := hD
            refine lv_aload_n hx hb dX6_next_219 rfl (lv_at hl 4 rfl) ?_
            refine va_get (D := D) (ci := 6) (v := .ref q11) (C := RX6) (T := TX6) (N := 15) hx hb hts (by decide +kernel) hown hK hP 0 rfl rfl 11 (by decide) (hts (.fieldLink RX6 25 "JoinDeskModel" "at" "[I") (by decide +kernel)) (fun _ h9 => h9) rfl dX6_next_220 ?_
            refine lv_bipush (v := 8) hx hb dX6_next_223 (by decide) ?_
            refine lv_iload_n hx hb dX6_next_225 rfl (lv_at hl 1 rfl) ?_
            refine lv_if_eq (tgt := 237) hx hb dX6_next_226 (by decide) (fun c_34 => ?_) (fun c_34 => absurd c_34 (by decide))
            refine lv_iload_n hx hb dX6_next_237 rfl (lv_at hl 1 rfl) ?_
            refine lv_if_eq (tgt := 245) hx hb dX6_next_238 (by decide) (fun c_35 => ?_) (fun c_35 => absurd c_35 (by decide))
            refine lv_iconst (v := 2) hx hb dX6_next_245 (by decide) ?_
            refine va_iast hx hb hK hP hD hS 4 0 rfl rfl (by unfold vp_in; decide) dX6_next_246 (fun H locs hP hD hS => ?_)
            rw [jl_upd (show (8 : Int32).toNatClampNeg = 8 by decide) (Nat.le_of_ble_eq_true rfl)] at hP hD
            have hP : va_P D vwCl [(mo, .inr (6, [.int 0, .ref q1, .int (nI g), .ref q3, .ref q4, .ref q5, .ref q6, .int 1, .int gr, .int kd, .long w9_31, .ref q11, .int mk, .long w13, .long w14])), (q3, .inl (cI, 800, .inl m3)), (q5, .inl (cI, 800, .inl m5)), (q6, .inl (cI, 2, .inl (jl [nI n, nI n2]))), (q11, .inl (cI, 24, .inl (jl [(nI b0), nI to9_30, l2, nI b1, l4, nI to9_30, l6, nI b1, 2, 0, l10, l11, t12, t13, t14, t15, t16, t17, t18, t19, t20, t21, t22, t23])))] H := hP
            have hD : va_D A [(mo, .inr (6, [.int 0, .ref q1, .int (nI g), .ref q3, .ref q4, .ref q5, .ref q6, .int 1, .int gr, .int kd, .long w9_31, .ref q11, .int mk, .long w13, .long w14])), (q3, .inl (cI, 800, .inl m3)), (q5, .inl (cI, 800, .inl m5)), (q6, .inl (cI, 2, .inl (jl [nI n, nI n2]))), (q11, .inl (cI, 24, .inl (jl [(nI b0), nI to9_30, l2, nI b1, l4, nI to9_30, l6, nI b1, 2, 0, l10, l11, t12, t13, t14, t15, t16, t17, t18, t19, t20, t21, t22, t23])))] := hD
            refine lv_aload_n hx hb dX6_next_247 rfl (lv_at hl 4 rfl) ?_
            refine va_get (D := D) (ci := 6) (v := .int kd) (C := RX6) (T := TX6) (N := 15) hx hb hts (by decide +kernel) hown hK hP 0 rfl rfl 9 (by decide) (hts (.fieldLink RX6 60 "JoinDeskModel" "kind" "I") (by decide +kernel)) (fun _ h9 => h9) rfl dX6_next_248 ?_
            refine lv_aload_n hx hb dX6_next_251 rfl (lv_at hl 4 rfl) ?_
            refine va_get (D := D) (ci := 6) (v := .ref q11) (C := RX6) (T := TX6) (N := 15) hx hb hts (by decide +kernel) hown hK hP 0 rfl rfl 11 (by decide) (hts (.fieldLink RX6 25 "JoinDeskModel" "at" "[I") (by decide +kernel)) (fun _ h9 => h9) rfl dX6_next_252 ?_
            refine lv_bipush (v := 8) hx hb dX6_next_255 (by decide) ?_
            refine va_iald hx hb hK hP 4 0 rfl rfl (by unfold vp_in; decide) dX6_next_257 ?_
            refine W.eq (g2 := F0 m 258 ls [.int 2, .int kd]) rfl ?_
            refine vp_callSi (va_Run.run (va_runS (As := [.int kd, .int 2]) (rest := []) ⟨hx, hb, hml, hown, hts⟩ (gM_tells_2 l D cI cL cQ kd (by first | assumption | decide | omega)) (va_cwS 2 hts gX6_next_X6_tells rfl rfl rfl (by decide +kernel) ⟨Nat.le_of_ble_eq_true rfl, Nat.le_of_ble_eq_true rfl⟩) (jr_S hK hN hP [] rfl) rfl rfl hl.1 rfl (lv_room (Nat.le_of_ble_eq_true rfl)) dX6_next_258 ⟨Nat.le_of_ble_eq_true rfl, Nat.le_of_ble_eq_true rfl⟩)) (fun r f_36 => ?_)
            rcases f_36 with ⟨rfl, f_37⟩ | ⟨rfl, f_38⟩
            · refine lv_if_eq (tgt := 285) hx hb dX6_next_261 (by decide) (fun c_39 => absurd c_39 (by decide)) (fun c_39 => ?_)
              refine lv_aload_n hx hb dX6_next_264 rfl (lv_at hl 4 rfl) ?_
              refine va_get (D := D) (ci := 6) (v := .ref q11) (C := RX6) (T := TX6) (N := 15) hx hb hts (by decide +kernel) hown hK hP 0 rfl rfl 11 (by decide) (hts (.fieldLink RX6 25 "JoinDeskModel" "at" "[I") (by decide +kernel)) (fun _ h9 => h9) rfl dX6_next_265 ?_
              refine lv_bipush (v := 9) hx hb dX6_next_268 (by decide) ?_
              refine lv_iconst (v := 1) hx hb dX6_next_270 (by decide) ?_
              refine va_iast hx hb hK hP hD hS 4 0 rfl rfl (by unfold vp_in; decide) dX6_next_271 (fun H locs hP hD hS => ?_)
              rw [jl_upd (show (9 : Int32).toNatClampNeg = 9 by decide) (Nat.le_of_ble_eq_true rfl)] at hP hD
              have hP : va_P D vwCl [(mo, .inr (6, [.int 0, .ref q1, .int (nI g), .ref q3, .ref q4, .ref q5, .ref q6, .int 1, .int gr, .int kd, .long w9_31, .ref q11, .int mk, .long w13, .long w14])), (q3, .inl (cI, 800, .inl m3)), (q5, .inl (cI, 800, .inl m5)), (q6, .inl (cI, 2, .inl (jl [nI n, nI n2]))), (q11, .inl (cI, 24, .inl (jl [(nI b0), nI to9_30, l2, nI b1, l4, nI to9_30, l6, nI b1, 2, 1, l10, l11, t12, t13, t14, t15, t16, t17, t18, t19, t20, t21, t22, t23])))] H := hP
              have hD : va_D A [(mo, .inr (6, [.int 0, .ref q1, .int (nI g), .ref q3, .ref q4, .ref q5, .ref q6, .int 1, .int gr, .int kd, .long w9_31, .ref q11, .int mk, .long w13, .long w14])), (q3, .inl (cI, 800, .inl m3)), (q5, .inl (cI, 800, .inl m5)), (q6, .inl (cI, 2, .inl (jl [nI n, nI n2]))), (q11, .inl (cI, 24, .inl (jl [(nI b0), nI to9_30, l2, nI b1, l4, nI to9_30, l6, nI b1, 2, 1, l10, l11, t12, t13, t14, t15, t16, t17, t18, t19, t20, t21, t22, t23])))] := hD
              refine lv_aload_n hx hb dX6_next_272 rfl (lv_at hl 4 rfl) ?_
              refine va_get (D := D) (ci := 6) (v := .ref q11) (C := RX6) (T := TX6) (N := 15) hx hb hts (by decide +kernel) hown hK hP 0 rfl rfl 11 (by decide) (hts (.fieldLink RX6 25 "JoinDeskModel" "at" "[I") (by decide +kernel)) (fun _ h9 => h9) rfl dX6_next_273 ?_
              refine lv_bipush (v := 10) hx hb dX6_next_276 (by decide) ?_
              refine lv_dup2_11 hx hb dX6_next_278 rfl rfl ?_
              refine va_iald hx hb hK hP 4 0 rfl rfl (by unfold vp_in; decide) dX6_next_279 ?_
              refine W.eq (g2 := F0 m 280 ls [.int l10, .int 10, .ref q11]) rfl ?_
              refine lv_iconst (v := 1) hx hb dX6_next_280 (by decide) ?_
              refine lv_iadd hx hb dX6_next_281 ?_
              refine va_iast hx hb hK hP hD hS 4 0 rfl rfl (by unfold vp_in; decide) dX6_next_282 (fun H locs hP hD hS => ?_)
              rw [jl_upd (show (10 : Int32).toNatClampNeg = 10 by decide) (Nat.le_of_ble_eq_true rfl)] at hP hD
              have hP : va_P D vwCl [(mo, .inr (6, [.int 0, .ref q1, .int (nI g), .ref q3, .ref q4, .ref q5, .ref q6, .int 1, .int gr, .int kd, .long w9_31, .ref q11, .int mk, .long w13, .long w14])), (q3, .inl (cI, 800, .inl m3)), (q5, .inl (cI, 800, .inl m5)), (q6, .inl (cI, 2, .inl (jl [nI n, nI n2]))), (q11, .inl (cI, 24, .inl (jl [(nI b0), nI to9_30, l2, nI b1, l4, nI to9_30, l6, nI b1, 2, 1, l10 + 1, l11, t12, t13, t14, t15, t16, t17, t18, t19, t20, t21, t22, t23])))] H := hP
              have hD : va_D A [(mo, .inr (6, [.int 0, .ref q1, .int (nI g), .ref q3, .ref q4, .ref q5, .ref q6, .int 1, .int gr, .int kd, .long w9_31, .ref q11, .int mk, .long w13, .long w14])), (q3, .inl (cI, 800, .inl m3)), (q5, .inl (cI, 800, .inl m5)), (q6, .inl (cI, 2, .inl (jl [nI n, nI n2]))), (q11, .inl (cI, 24, .inl (jl [(nI b0), nI to9_30, l2, nI b1, l4, nI to9_30, l6, nI b1, 2, 1, l10 + 1, l11, t12, t13, t14, t15, t16, t17, t18, t19, t20, t21, t22, t23])))] := hD
              refine lv_iconst (v := 1) hx hb dX6_next_283 (by decide) ?_
              refine W.widen (k := 0) (n := 0) (by omega) (by omega) ?_
              exact W.zret (v := 1) (ty := .boolean) hx hb hr rfl (fun t ht hW => ⟨⟨1, [(mo, .inr (6, [.int 0, .ref q1, .int (nI g), .ref q3, .ref q4, .ref q5, .ref q6, .int 1, .int gr, .int kd, .long w9_31, .ref q11, .int mk, .long w13, .long w14])), (q3, .inl (cI, 800, .inl m3)), (q5, .inl (cI, 800, .inl m5)), (q6, .inl (cI, 2, .inl (jl [nI n, nI n2]))), (q11, .inl (cI, 24, .inl (jl [(nI b0), nI to9_30, l2, nI b1, l4, nI to9_30, l6, nI b1, 2, 1, l10 + 1, l11, t12, t13, t14, t15, t16, t17, t18, t19, t20, t21, t22, t23])))], rfl, (by exact (Or.inr (Or.inr (Or.inl ⟨_, _, _, _, _, _, _, _, _, _, _, rfl, rfl, by omega, by omega, by omega, by omega⟩)))), by rw [ht]; exact hP, hD⟩, hS.F ht⟩) hS.2.2 dX6_next_284
            · refine lv_if_eq (tgt := 285) hx hb dX6_next_261 (by decide) (fun c_40 => ?_) (fun c_40 => absurd c_40 (by decide))
              refine lv_goto (tgt := 60) hx hb dX6_next_285 (by decide) ?_
              exact ih_1 b0 to9_30 l2 (nI b1) l4 (nI to9_30) l6 (nI b1) 2 l10 l11 w9_31 (by omega) (by omega) (by omega) _ _ hP hD hS ls (lv_sub hl [4] rfl)
          · refine lv_iconst (v := 1) hx hb dX6_next_183 (by decide) ?_
            refine lv_goto (tgt := 188) hx hb dX6_next_184 (by decide) ?_
            refine lv_istore_n (lv' := [(1, .int 1), (4, .int (jmk 400 m3 m5 b1)), (3, .int (jmk 0 m3 m5 b0)), (2, .int 1), (0, .ref mo)]) hx hb dX6_next_188 rfl hl (by decide) rfl (fun ls hl => ?_)
            refine lv_iload hx hb dX6_next_189 (lv_at hl 1 rfl) ?_
            refine lv_iload_n hx hb dX6_next_191 rfl (lv_at hl 2 rfl) ?_
            refine lv_icmp_gt (tgt := 199) hx hb dX6_next_192 (by decide) (fun c_41 => ?_) (fun c_41 => ?_)
            · refine lv_iconst (v := 0) hx hb dX6_next_199 (by decide) ?_
              refine lv_istore_n (lv' := [(2, .int 0), (1, .int 1), (4, .int (jmk 400 m3 m5 b1)), (3, .int (jmk 0 m3 m5 b0)), (0, .ref mo)]) hx hb dX6_next_200 rfl hl (by decide) rfl (fun ls hl => ?_)
              refine lv_iload_n hx hb dX6_next_201 rfl (lv_at hl 1 rfl) ?_
              refine lv_if_eq (tgt := 210) hx hb dX6_next_202 (by decide) (fun c_42 => absurd c_42 (by decide)) (fun c_42 => ?_)
              refine lv_aload_n hx hb dX6_next_205 rfl (lv_at hl 4 rfl) ?_
              refine lv_iconst (v := 0) hx hb dX6_next_206 (by decide) ?_
              refine jw_v (wr := []) (va_runV (As := [.int 0]) (rest := []) ⟨hx, hb, hml, hown, hts⟩ (gM_goes_0 l D cI cL cQ mo g n n2 q1 q3 q4 q5 q6 q11 0 1 gr kd mk (wl + (2)) w13 w14 m3 m5 (nI b1) l2 l3 l4 l5 l6 l7 l8 0 l10 l11 t12 t13 t14 t15 t16 t17 t18 t19 t20 t21 t22 t23 b0 _ (by first | assumption | decide | omega) (by first | assumption | decide | omega) (by rw [nI_leI (by omega) (by omega)] at cl1; omega)) (cwV 1 hts gX6_next_X6_goes rfl rfl rfl (by decide +kernel) ⟨Nat.le_of_ble_eq_true rfl, Nat.le_of_ble_eq_true rfl⟩) (jw_V hK hN hP hD [0, 1, 2, 3, 4] (by decide) rfl 6 0 rfl rfl rfl) rfl rfl hl.1 rfl (lv_room (Nat.le_of_ble_eq_true rfl)) dX6_next_207 ⟨Nat.le_of_ble_eq_true rfl, Nat.le_of_ble_eq_true rfl⟩) hP hD hS hA [0, 1, 2, 3, 4] [] rfl rfl (by decide) (by decide) (fun u H locs f_43 hP hD hS => ?_)
              obtain ⟨to9_44, w9_45, rfl, f_46, f_47⟩ := f_43
              have hP : va_P D vwCl [(mo, .inr (6, [.int 0, .ref q1, .int (nI g), .ref q3, .ref q4, .ref q5, .ref q6, .int 1, .int gr, .int kd, .long w9_45, .ref q11, .int mk, .long w13, .long w14])), (q3, .inl (cI, 800, .inl m3)), (q5, .inl (cI, 800, .inl m5)), (q6, .inl (cI, 2, .inl (jl [nI n, nI n2]))), (q11, .inl (cI, 24, .inl (jl [nI to9_44, (nI b1), nI b0, l3, nI to9_44, l5, nI b0, l7, l8, 0, l10, l11, t12, t13, t14, t15, t16, t17, t18, t19, t20, t21, t22, t23])))] H := hP
              have hD : va_D A [(mo, .inr (6, [.int 0, .ref q1, .int (nI g), .ref q3, .ref q4, .ref q5, .ref q6, .int 1, .int gr, .int kd, .long w9_45, .ref q11, .int mk, .long w13, .long w14])), (q3, .inl (cI, 800, .inl m3)), (q5, .inl (cI, 800, .inl m5)), (q6, .inl (cI, 2, .inl (jl [nI n, nI n2]))), (q11, .inl (cI, 24, .inl (jl [nI to9_44, (nI b1), nI b0, l3, nI to9_44, l5, nI b0, l7, l8, 0, l10, l11, t12, t13, t14, t15, t16, t17, t18, t19, t20, t21, t22, t23])))] := hD
              refine lv_iload_n hx hb dX6_next_210 rfl (lv_at hl 0 rfl) ?_
              refine lv_if_eq (tgt := 219) hx hb dX6_next_211 (by decide) (fun c_48 => ?_) (fun c_48 => absurd c_48 (by decide))
              refine lv_aload_n hx hb dX6_next_219 rfl (lv_at hl 4 rfl) ?_
              refine va_get (D := D) (ci := 6) (v := .ref q11) (C := RX6) (T := TX6) (N := 15) hx hb hts (by decide +kernel) hown hK hP 0 rfl rfl 11 (by decide) (hts (.fieldLink RX6 25 "JoinDeskModel" "at" "[I") (by decide +kernel)) (fun _ h9 => h9) rfl dX6_next_220 ?_
              refine lv_bipush (v := 8) hx hb dX6_next_223 (by decide) ?_
              refine lv_iload_n hx hb dX6_next_225 rfl (lv_at hl 1 rfl) ?_
              refine lv_if_eq (tgt := 237) hx hb dX6_next_226 (by decide) (fun c_49 => absurd c_49 (by decide)) (fun c_49 => ?_)
              refine lv_iload_n hx hb dX6_next_229 rfl (lv_at hl 0 rfl) ?_
              refine lv_if_eq (tgt := 237) hx hb dX6_next_230 (by decide) (fun c_50 => ?_) (fun c_50 => absurd c_50 (by decide))
              refine lv_iload_n hx hb dX6_next_237 rfl (lv_at hl 1 rfl) ?_
              refine lv_if_eq (tgt := 245) hx hb dX6_next_238 (by decide) (fun c_51 => absurd c_51 (by decide)) (fun c_51 => ?_)
              refine lv_iconst (v := 1) hx hb dX6_next_241 (by decide) ?_
              refine lv_goto (tgt := 246) hx hb dX6_next_242 (by decide) ?_
              refine va_iast hx hb hK hP hD hS 4 0 rfl rfl (by unfold vp_in; decide) dX6_next_246 (fun H locs hP hD hS => ?_)
              rw [jl_upd (show (8 : Int32).toNatClampNeg = 8 by decide) (Nat.le_of_ble_eq_true rfl)] at hP hD
              have hP : va_P D vwCl [(mo, .inr (6, [.int 0, .ref q1, .int (nI g), .ref q3, .ref q4, .ref q5, .ref q6, .int 1, .int gr, .int kd, .long w9_45, .ref q11, .int mk, .long w13, .long w14])), (q3, .inl (cI, 800, .inl m3)), (q5, .inl (cI, 800, .inl m5)), (q6, .inl (cI, 2, .inl (jl [nI n, nI n2]))), (q11, .inl (cI, 24, .inl (jl [nI to9_44, (nI b1), nI b0, l3, nI to9_44, l5, nI b0, l7, 1, 0, l10, l11, t12, t13, t14, t15, t16, t17, t18, t19, t20, t21, t22, t23])))] H := hP
              have hD : va_D A [(mo, .inr (6, [.int 0, .ref q1, .int (nI g), .ref q3, .ref q4, .ref q5, .ref q6, .int 1, .int gr, .int kd, .long w9_45, .ref q11, .int mk, .long w13, .long w14])), (q3, .inl (cI, 800, .inl m3)), (q5, .inl (cI, 800, .inl m5)), (q6, .inl (cI, 2, .inl (jl [nI n, nI n2]))), (q11, .inl (cI, 24, .inl (jl [nI to9_44, (nI b1), nI b0, l3, nI to9_44, l5, nI b0, l7, 1, 0, l10, l11, t12, t13, t14, t15, t16, t17, t18, t19, t20, t21, t22, t23])))] := hD
              refine lv_aload_n hx hb dX6_next_247 rfl (lv_at hl 4 rfl) ?_
              refine va_get (D := D) (ci := 6) (v := .int kd) (C := RX6) (T := TX6) (N := 15) hx hb hts (by decide +kernel) hown hK hP 0 rfl rfl 9 (by decide) (hts (.fieldLink RX6 60 "JoinDeskModel" "kind" "I") (by decide +kernel)) (fun _ h9 => h9) rfl dX6_next_248 ?_
              refine lv_aload_n hx hb dX6_next_251 rfl (lv_at hl 4 rfl) ?_
              refine va_get (D := D) (ci := 6) (v := .ref q11) (C := RX6) (T := TX6) (N := 15) hx hb hts (by decide +kernel) hown hK hP 0 rfl rfl 11 (by decide) (hts (.fieldLink RX6 25 "JoinDeskModel" "at" "[I") (by decide +kernel)) (fun _ h9 => h9) rfl dX6_next_252 ?_
              refine lv_bipush (v := 8) hx hb dX6_next_255 (by decide) ?_
              refine va_iald hx hb hK hP 4 0 rfl rfl (by unfold vp_in; decide) dX6_next_257 ?_
              refine W.eq (g2 := F0 m 258 ls [.int 1, .int kd]) rfl ?_
              refine vp_callSi (va_Run.run (va_runS (As := [.int kd, .int 1]) (rest := []) ⟨hx, hb, hml, hown, hts⟩ (gM_tells_1 l D cI cL cQ kd (by first | assumption | decide | omega)) (va_cwS 2 hts gX6_next_X6_tells rfl rfl rfl (by decide +kernel) ⟨Nat.le_of_ble_eq_true rfl, Nat.le_of_ble_eq_true rfl⟩) (jr_S hK hN hP [] rfl) rfl rfl hl.1 rfl (lv_room (Nat.le_of_ble_eq_true rfl)) dX6_next_258 ⟨Nat.le_of_ble_eq_true rfl, Nat.le_of_ble_eq_true rfl⟩)) (fun r f_52 => ?_)
              rcases f_52 with ⟨rfl, f_53⟩ | ⟨rfl, f_54⟩
              · refine lv_if_eq (tgt := 285) hx hb dX6_next_261 (by decide) (fun c_55 => absurd c_55 (by decide)) (fun c_55 => ?_)
                refine lv_aload_n hx hb dX6_next_264 rfl (lv_at hl 4 rfl) ?_
                refine va_get (D := D) (ci := 6) (v := .ref q11) (C := RX6) (T := TX6) (N := 15) hx hb hts (by decide +kernel) hown hK hP 0 rfl rfl 11 (by decide) (hts (.fieldLink RX6 25 "JoinDeskModel" "at" "[I") (by decide +kernel)) (fun _ h9 => h9) rfl dX6_next_265 ?_
                refine lv_bipush (v := 9) hx hb dX6_next_268 (by decide) ?_
                refine lv_iconst (v := 1) hx hb dX6_next_270 (by decide) ?_
                refine va_iast hx hb hK hP hD hS 4 0 rfl rfl (by unfold vp_in; decide) dX6_next_271 (fun H locs hP hD hS => ?_)
                rw [jl_upd (show (9 : Int32).toNatClampNeg = 9 by decide) (Nat.le_of_ble_eq_true rfl)] at hP hD
                have hP : va_P D vwCl [(mo, .inr (6, [.int 0, .ref q1, .int (nI g), .ref q3, .ref q4, .ref q5, .ref q6, .int 1, .int gr, .int kd, .long w9_45, .ref q11, .int mk, .long w13, .long w14])), (q3, .inl (cI, 800, .inl m3)), (q5, .inl (cI, 800, .inl m5)), (q6, .inl (cI, 2, .inl (jl [nI n, nI n2]))), (q11, .inl (cI, 24, .inl (jl [nI to9_44, (nI b1), nI b0, l3, nI to9_44, l5, nI b0, l7, 1, 1, l10, l11, t12, t13, t14, t15, t16, t17, t18, t19, t20, t21, t22, t23])))] H := hP
                have hD : va_D A [(mo, .inr (6, [.int 0, .ref q1, .int (nI g), .ref q3, .ref q4, .ref q5, .ref q6, .int 1, .int gr, .int kd, .long w9_45, .ref q11, .int mk, .long w13, .long w14])), (q3, .inl (cI, 800, .inl m3)), (q5, .inl (cI, 800, .inl m5)), (q6, .inl (cI, 2, .inl (jl [nI n, nI n2]))), (q11, .inl (cI, 24, .inl (jl [nI to9_44, (nI b1), nI b0, l3, nI to9_44, l5, nI b0, l7, 1, 1, l10, l11, t12, t13, t14, t15, t16, t17, t18, t19, t20, t21, t22, t23])))] := hD
                refine lv_aload_n hx hb dX6_next_272 rfl (lv_at hl 4 rfl) ?_
                refine va_get (D := D) (ci := 6) (v := .ref q11) (C := RX6) (T := TX6) (N := 15) hx hb hts (by decide +kernel) hown hK hP 0 rfl rfl 11 (by decide) (hts (.fieldLink RX6 25 "JoinDeskModel" "at" "[I") (by decide +kernel)) (fun _ h9 => h9) rfl dX6_next_273 ?_
                refine lv_bipush (v := 10) hx hb dX6_next_276 (by decide) ?_
                refine lv_dup2_11 hx hb dX6_next_278 rfl rfl ?_
                refine va_iald hx hb hK hP 4 0 rfl rfl (by unfold vp_in; decide) dX6_next_279 ?_
                refine W.eq (g2 := F0 m 280 ls [.int l10, .int 10, .ref q11]) rfl ?_
                refine lv_iconst (v := 1) hx hb dX6_next_280 (by decide) ?_
                refine lv_iadd hx hb dX6_next_281 ?_
                refine va_iast hx hb hK hP hD hS 4 0 rfl rfl (by unfold vp_in; decide) dX6_next_282 (fun H locs hP hD hS => ?_)
                rw [jl_upd (show (10 : Int32).toNatClampNeg = 10 by decide) (Nat.le_of_ble_eq_true rfl)] at hP hD
                have hP : va_P D vwCl [(mo, .inr (6, [.int 0, .ref q1, .int (nI g), .ref q3, .ref q4, .ref q5, .ref q6, .int 1, .int gr, .int kd, .long w9_45, .ref q11, .int mk, .long w13, .long w14])), (q3, .inl (cI, 800, .inl m3)), (q5, .inl (cI, 800, .inl m5)), (q6, .inl (cI, 2, .inl (jl [nI n, nI n2]))), (q11, .inl (cI, 24, .inl (jl [nI to9_44, (nI b1), nI b0, l3, nI to9_44, l5, nI b0, l7, 1, 1, l10 + 1, l11, t12, t13, t14, t15, t16, t17, t18, t19, t20, t21, t22, t23])))] H := hP
                have hD : va_D A [(mo, .inr (6, [.int 0, .ref q1, .int (nI g), .ref q3, .ref q4, .ref q5, .ref q6, .int 1, .int gr, .int kd, .long w9_45, .ref q11, .int mk, .long w13, .long w14])), (q3, .inl (cI, 800, .inl m3)), (q5, .inl (cI, 800, .inl m5)), (q6, .inl (cI, 2, .inl (jl [nI n, nI n2]))), (q11, .inl (cI, 24, .inl (jl [nI to9_44, (nI b1), nI b0, l3, nI to9_44, l5, nI b0, l7, 1, 1, l10 + 1, l11, t12, t13, t14, t15, t16, t17, t18, t19, t20, t21, t22, t23])))] := hD
                refine lv_iconst (v := 1) hx hb dX6_next_283 (by decide) ?_
                refine W.widen (k := 0) (n := 0) (by omega) (by omega) ?_
                exact W.zret (v := 1) (ty := .boolean) hx hb hr rfl (fun t ht hW => ⟨⟨1, [(mo, .inr (6, [.int 0, .ref q1, .int (nI g), .ref q3, .ref q4, .ref q5, .ref q6, .int 1, .int gr, .int kd, .long w9_45, .ref q11, .int mk, .long w13, .long w14])), (q3, .inl (cI, 800, .inl m3)), (q5, .inl (cI, 800, .inl m5)), (q6, .inl (cI, 2, .inl (jl [nI n, nI n2]))), (q11, .inl (cI, 24, .inl (jl [nI to9_44, (nI b1), nI b0, l3, nI to9_44, l5, nI b0, l7, 1, 1, l10 + 1, l11, t12, t13, t14, t15, t16, t17, t18, t19, t20, t21, t22, t23])))], rfl, (by exact (Or.inr (Or.inl ⟨_, _, _, _, _, _, _, _, _, _, _, rfl, rfl, by omega, by omega, by omega, by omega⟩))), by rw [ht]; exact hP, hD⟩, hS.F ht⟩) hS.2.2 dX6_next_284
              · refine lv_if_eq (tgt := 285) hx hb dX6_next_261 (by decide) (fun c_56 => ?_) (fun c_56 => absurd c_56 (by decide))
                refine lv_goto (tgt := 60) hx hb dX6_next_285 (by decide) ?_
                exact ih_1 to9_44 b1 (nI b0) l3 (nI to9_44) l5 (nI b0) l7 1 l10 l11 w9_45 (by omega) (by omega) (by omega) _ _ hP hD hS ls (lv_sub hl [4] rfl)
            · refine lv_iconst (v := 1) hx hb dX6_next_195 (by decide) ?_
              refine lv_goto (tgt := 200) hx hb dX6_next_196 (by decide) ?_
              refine lv_istore_n (lv' := [(2, .int 1), (1, .int 1), (4, .int (jmk 400 m3 m5 b1)), (3, .int (jmk 0 m3 m5 b0)), (0, .ref mo)]) hx hb dX6_next_200 rfl hl (by decide) rfl (fun ls hl => ?_)
              refine lv_iload_n hx hb dX6_next_201 rfl (lv_at hl 1 rfl) ?_
              refine lv_if_eq (tgt := 210) hx hb dX6_next_202 (by decide) (fun c_57 => absurd c_57 (by decide)) (fun c_57 => ?_)
              refine lv_aload_n hx hb dX6_next_205 rfl (lv_at hl 4 rfl) ?_
              refine lv_iconst (v := 0) hx hb dX6_next_206 (by decide) ?_
              refine jw_v (wr := []) (va_runV (As := [.int 0]) (rest := []) ⟨hx, hb, hml, hown, hts⟩ (gM_goes_0 l D cI cL cQ mo g n n2 q1 q3 q4 q5 q6 q11 0 1 gr kd mk (wl + (2)) w13 w14 m3 m5 (nI b1) l2 l3 l4 l5 l6 l7 l8 0 l10 l11 t12 t13 t14 t15 t16 t17 t18 t19 t20 t21 t22 t23 b0 _ (by first | assumption | decide | omega) (by first | assumption | decide | omega) (by rw [nI_leI (by omega) (by omega)] at cl1; omega)) (cwV 1 hts gX6_next_X6_goes rfl rfl rfl (by decide +kernel) ⟨Nat.le_of_ble_eq_true rfl, Nat.le_of_ble_eq_true rfl⟩) (jw_V hK hN hP hD [0, 1, 2, 3, 4] (by decide) rfl 6 0 rfl rfl rfl) rfl rfl hl.1 rfl (lv_room (Nat.le_of_ble_eq_true rfl)) dX6_next_207 ⟨Nat.le_of_ble_eq_true rfl, Nat.le_of_ble_eq_true rfl⟩) hP hD hS hA [0, 1, 2, 3, 4] [] rfl rfl (by decide) (by decide) (fun u H locs f_58 hP hD hS => ?_)
              obtain ⟨to9_59, w9_60, rfl, f_61, f_62⟩ := f_58
              have hP : va_P D vwCl [(mo, .inr (6, [.int 0, .ref q1, .int (nI g), .ref q3, .ref q4, .ref q5, .ref q6, .int 1, .int gr, .int kd, .long w9_60, .ref q11, .int mk, .long w13, .long w14])), (q3, .inl (cI, 800, .inl m3)), (q5, .inl (cI, 800, .inl m5)), (q6, .inl (cI, 2, .inl (jl [nI n, nI n2]))), (q11, .inl (cI, 24, .inl (jl [nI to9_59, (nI b1), nI b0, l3, nI to9_59, l5, nI b0, l7, l8, 0, l10, l11, t12, t13, t14, t15, t16, t17, t18, t19, t20, t21, t22, t23])))] H := hP
              have hD : va_D A [(mo, .inr (6, [.int 0, .ref q1, .int (nI g), .ref q3, .ref q4, .ref q5, .ref q6, .int 1, .int gr, .int kd, .long w9_60, .ref q11, .int mk, .long w13, .long w14])), (q3, .inl (cI, 800, .inl m3)), (q5, .inl (cI, 800, .inl m5)), (q6, .inl (cI, 2, .inl (jl [nI n, nI n2]))), (q11, .inl (cI, 24, .inl (jl [nI to9_59, (nI b1), nI b0, l3, nI to9_59, l5, nI b0, l7, l8, 0, l10, l11, t12, t13, t14, t15, t16, t17, t18, t19, t20, t21, t22, t23])))] := hD
              refine lv_iload_n hx hb dX6_next_210 rfl (lv_at hl 0 rfl) ?_
              refine lv_if_eq (tgt := 219) hx hb dX6_next_211 (by decide) (fun c_63 => absurd c_63 (by decide)) (fun c_63 => ?_)
              refine lv_aload_n hx hb dX6_next_214 rfl (lv_at hl 4 rfl) ?_
              refine lv_iconst (v := 1) hx hb dX6_next_215 (by decide) ?_
              refine jw_v (wr := []) (va_runV (As := [.int 1]) (rest := []) ⟨hx, hb, hml, hown, hts⟩ (gM_goes_1 l D cI cL cQ mo g n n2 q1 q3 q4 q5 q6 q11 0 1 gr kd mk w9_60 w13 w14 m3 m5 (nI to9_59) (nI b0) l3 (nI to9_59) l5 (nI b0) l7 l8 0 l10 l11 t12 t13 t14 t15 t16 t17 t18 t19 t20 t21 t22 t23 b1 _ (by first | assumption | decide | omega) (by first | assumption | decide | omega) (by rw [nI_leI (by omega) (by omega)] at cr1; omega)) (cwV 1 hts gX6_next_X6_goes rfl rfl rfl (by decide +kernel) ⟨Nat.le_of_ble_eq_true rfl, Nat.le_of_ble_eq_true rfl⟩) (jw_V hK hN hP hD [0, 1, 2, 3, 4] (by decide) rfl 6 0 rfl rfl rfl) rfl rfl hl.1 rfl (lv_room (Nat.le_of_ble_eq_true rfl)) dX6_next_216 ⟨Nat.le_of_ble_eq_true rfl, Nat.le_of_ble_eq_true rfl⟩) hP hD hS hA [0, 1, 2, 3, 4] [] rfl rfl (by decide) (by decide) (fun u H locs f_64 hP hD hS => ?_)
              obtain ⟨to9_65, w9_66, rfl, f_67, f_68⟩ := f_64
              have hP : va_P D vwCl [(mo, .inr (6, [.int 0, .ref q1, .int (nI g), .ref q3, .ref q4, .ref q5, .ref q6, .int 1, .int gr, .int kd, .long w9_66, .ref q11, .int mk, .long w13, .long w14])), (q3, .inl (cI, 800, .inl m3)), (q5, .inl (cI, 800, .inl m5)), (q6, .inl (cI, 2, .inl (jl [nI n, nI n2]))), (q11, .inl (cI, 24, .inl (jl [(nI to9_59), nI to9_65, (nI b0), nI b1, (nI to9_59), nI to9_65, (nI b0), nI b1, l8, 0, l10, l11, t12, t13, t14, t15, t16, t17, t18, t19, t20, t21, t22, t23])))] H := hP
              have hD : va_D A [(mo, .inr (6, [.int 0, .ref q1, .int (nI g), .ref q3, .ref q4, .ref q5, .ref q6, .int 1, .int gr, .int kd, .long w9_66, .ref q11, .int mk, .long w13, .long w14])), (q3, .inl (cI, 800, .inl m3)), (q5, .inl (cI, 800, .inl m5)), (q6, .inl (cI, 2, .inl (jl [nI n, nI n2]))), (q11, .inl (cI, 24, .inl (jl [(nI to9_59), nI to9_65, (nI b0), nI b1, (nI to9_59), nI to9_65, (nI b0), nI b1, l8, 0, l10, l11, t12, t13, t14, t15, t16, t17, t18, t19, t20, t21, t22, t23])))] := hD
              refine lv_aload_n hx hb dX6_next_219 rfl (lv_at hl 4 rfl) ?_
              refine va_get (D := D) (ci := 6) (v := .ref q11) (C := RX6) (T := TX6) (N := 15) hx hb hts (by decide +kernel) hown hK hP 0 rfl rfl 11 (by decide) (hts (.fieldLink RX6 25 "JoinDeskModel" "at" "[I") (by decide +kernel)) (fun _ h9 => h9) rfl dX6_next_220 ?_
              refine lv_bipush (v := 8) hx hb dX6_next_223 (by decide) ?_
              refine lv_iload_n hx hb dX6_next_225 rfl (lv_at hl 1 rfl) ?_
              refine lv_if_eq (tgt := 237) hx hb dX6_next_226 (by decide) (fun c_69 => absurd c_69 (by decide)) (fun c_69 => ?_)
              refine lv_iload_n hx hb dX6_next_229 rfl (lv_at hl 0 rfl) ?_
              refine lv_if_eq (tgt := 237) hx hb dX6_next_230 (by decide) (fun c_70 => absurd c_70 (by decide)) (fun c_70 => ?_)
              refine lv_iconst (v := 0) hx hb dX6_next_233 (by decide) ?_
              refine lv_goto (tgt := 246) hx hb dX6_next_234 (by decide) ?_
              refine va_iast hx hb hK hP hD hS 4 0 rfl rfl (by unfold vp_in; decide) dX6_next_246 (fun H locs hP hD hS => ?_)
              rw [jl_upd (show (8 : Int32).toNatClampNeg = 8 by decide) (Nat.le_of_ble_eq_true rfl)] at hP hD
              have hP : va_P D vwCl [(mo, .inr (6, [.int 0, .ref q1, .int (nI g), .ref q3, .ref q4, .ref q5, .ref q6, .int 1, .int gr, .int kd, .long w9_66, .ref q11, .int mk, .long w13, .long w14])), (q3, .inl (cI, 800, .inl m3)), (q5, .inl (cI, 800, .inl m5)), (q6, .inl (cI, 2, .inl (jl [nI n, nI n2]))), (q11, .inl (cI, 24, .inl (jl [(nI to9_59), nI to9_65, (nI b0), nI b1, (nI to9_59), nI to9_65, (nI b0), nI b1, 0, 0, l10, l11, t12, t13, t14, t15, t16, t17, t18, t19, t20, t21, t22, t23])))] H := hP
              have hD : va_D A [(mo, .inr (6, [.int 0, .ref q1, .int (nI g), .ref q3, .ref q4, .ref q5, .ref q6, .int 1, .int gr, .int kd, .long w9_66, .ref q11, .int mk, .long w13, .long w14])), (q3, .inl (cI, 800, .inl m3)), (q5, .inl (cI, 800, .inl m5)), (q6, .inl (cI, 2, .inl (jl [nI n, nI n2]))), (q11, .inl (cI, 24, .inl (jl [(nI to9_59), nI to9_65, (nI b0), nI b1, (nI to9_59), nI to9_65, (nI b0), nI b1, 0, 0, l10, l11, t12, t13, t14, t15, t16, t17, t18, t19, t20, t21, t22, t23])))] := hD
              refine lv_aload_n hx hb dX6_next_247 rfl (lv_at hl 4 rfl) ?_
              refine va_get (D := D) (ci := 6) (v := .int kd) (C := RX6) (T := TX6) (N := 15) hx hb hts (by decide +kernel) hown hK hP 0 rfl rfl 9 (by decide) (hts (.fieldLink RX6 60 "JoinDeskModel" "kind" "I") (by decide +kernel)) (fun _ h9 => h9) rfl dX6_next_248 ?_
              refine lv_aload_n hx hb dX6_next_251 rfl (lv_at hl 4 rfl) ?_
              refine va_get (D := D) (ci := 6) (v := .ref q11) (C := RX6) (T := TX6) (N := 15) hx hb hts (by decide +kernel) hown hK hP 0 rfl rfl 11 (by decide) (hts (.fieldLink RX6 25 "JoinDeskModel" "at" "[I") (by decide +kernel)) (fun _ h9 => h9) rfl dX6_next_252 ?_
              refine lv_bipush (v := 8) hx hb dX6_next_255 (by decide) ?_
              refine va_iald hx hb hK hP 4 0 rfl rfl (by unfold vp_in; decide) dX6_next_257 ?_
              refine W.eq (g2 := F0 m 258 ls [.int 0, .int kd]) rfl ?_
              refine vp_callSi (va_Run.run (va_runS (As := [.int kd, .int 0]) (rest := []) ⟨hx, hb, hml, hown, hts⟩ (gM_tells_0 l D cI cL cQ kd) (va_cwS 2 hts gX6_next_X6_tells rfl rfl rfl (by decide +kernel) ⟨Nat.le_of_ble_eq_true rfl, Nat.le_of_ble_eq_true rfl⟩) (jr_S hK hN hP [] rfl) rfl rfl hl.1 rfl (lv_room (Nat.le_of_ble_eq_true rfl)) dX6_next_258 ⟨Nat.le_of_ble_eq_true rfl, Nat.le_of_ble_eq_true rfl⟩)) (fun r f_71 => ?_)
              obtain rfl := f_71
              refine lv_if_eq (tgt := 285) hx hb dX6_next_261 (by decide) (fun c_72 => absurd c_72 (by decide)) (fun c_72 => ?_)
              refine lv_aload_n hx hb dX6_next_264 rfl (lv_at hl 4 rfl) ?_
              refine va_get (D := D) (ci := 6) (v := .ref q11) (C := RX6) (T := TX6) (N := 15) hx hb hts (by decide +kernel) hown hK hP 0 rfl rfl 11 (by decide) (hts (.fieldLink RX6 25 "JoinDeskModel" "at" "[I") (by decide +kernel)) (fun _ h9 => h9) rfl dX6_next_265 ?_
              refine lv_bipush (v := 9) hx hb dX6_next_268 (by decide) ?_
              refine lv_iconst (v := 1) hx hb dX6_next_270 (by decide) ?_
              refine va_iast hx hb hK hP hD hS 4 0 rfl rfl (by unfold vp_in; decide) dX6_next_271 (fun H locs hP hD hS => ?_)
              rw [jl_upd (show (9 : Int32).toNatClampNeg = 9 by decide) (Nat.le_of_ble_eq_true rfl)] at hP hD
              have hP : va_P D vwCl [(mo, .inr (6, [.int 0, .ref q1, .int (nI g), .ref q3, .ref q4, .ref q5, .ref q6, .int 1, .int gr, .int kd, .long w9_66, .ref q11, .int mk, .long w13, .long w14])), (q3, .inl (cI, 800, .inl m3)), (q5, .inl (cI, 800, .inl m5)), (q6, .inl (cI, 2, .inl (jl [nI n, nI n2]))), (q11, .inl (cI, 24, .inl (jl [(nI to9_59), nI to9_65, (nI b0), nI b1, (nI to9_59), nI to9_65, (nI b0), nI b1, 0, 1, l10, l11, t12, t13, t14, t15, t16, t17, t18, t19, t20, t21, t22, t23])))] H := hP
              have hD : va_D A [(mo, .inr (6, [.int 0, .ref q1, .int (nI g), .ref q3, .ref q4, .ref q5, .ref q6, .int 1, .int gr, .int kd, .long w9_66, .ref q11, .int mk, .long w13, .long w14])), (q3, .inl (cI, 800, .inl m3)), (q5, .inl (cI, 800, .inl m5)), (q6, .inl (cI, 2, .inl (jl [nI n, nI n2]))), (q11, .inl (cI, 24, .inl (jl [(nI to9_59), nI to9_65, (nI b0), nI b1, (nI to9_59), nI to9_65, (nI b0), nI b1, 0, 1, l10, l11, t12, t13, t14, t15, t16, t17, t18, t19, t20, t21, t22, t23])))] := hD
              refine lv_aload_n hx hb dX6_next_272 rfl (lv_at hl 4 rfl) ?_
              refine va_get (D := D) (ci := 6) (v := .ref q11) (C := RX6) (T := TX6) (N := 15) hx hb hts (by decide +kernel) hown hK hP 0 rfl rfl 11 (by decide) (hts (.fieldLink RX6 25 "JoinDeskModel" "at" "[I") (by decide +kernel)) (fun _ h9 => h9) rfl dX6_next_273 ?_
              refine lv_bipush (v := 10) hx hb dX6_next_276 (by decide) ?_
              refine lv_dup2_11 hx hb dX6_next_278 rfl rfl ?_
              refine va_iald hx hb hK hP 4 0 rfl rfl (by unfold vp_in; decide) dX6_next_279 ?_
              refine W.eq (g2 := F0 m 280 ls [.int l10, .int 10, .ref q11]) rfl ?_
              refine lv_iconst (v := 1) hx hb dX6_next_280 (by decide) ?_
              refine lv_iadd hx hb dX6_next_281 ?_
              refine va_iast hx hb hK hP hD hS 4 0 rfl rfl (by unfold vp_in; decide) dX6_next_282 (fun H locs hP hD hS => ?_)
              rw [jl_upd (show (10 : Int32).toNatClampNeg = 10 by decide) (Nat.le_of_ble_eq_true rfl)] at hP hD
              have hP : va_P D vwCl [(mo, .inr (6, [.int 0, .ref q1, .int (nI g), .ref q3, .ref q4, .ref q5, .ref q6, .int 1, .int gr, .int kd, .long w9_66, .ref q11, .int mk, .long w13, .long w14])), (q3, .inl (cI, 800, .inl m3)), (q5, .inl (cI, 800, .inl m5)), (q6, .inl (cI, 2, .inl (jl [nI n, nI n2]))), (q11, .inl (cI, 24, .inl (jl [(nI to9_59), nI to9_65, (nI b0), nI b1, (nI to9_59), nI to9_65, (nI b0), nI b1, 0, 1, l10 + 1, l11, t12, t13, t14, t15, t16, t17, t18, t19, t20, t21, t22, t23])))] H := hP
              have hD : va_D A [(mo, .inr (6, [.int 0, .ref q1, .int (nI g), .ref q3, .ref q4, .ref q5, .ref q6, .int 1, .int gr, .int kd, .long w9_66, .ref q11, .int mk, .long w13, .long w14])), (q3, .inl (cI, 800, .inl m3)), (q5, .inl (cI, 800, .inl m5)), (q6, .inl (cI, 2, .inl (jl [nI n, nI n2]))), (q11, .inl (cI, 24, .inl (jl [(nI to9_59), nI to9_65, (nI b0), nI b1, (nI to9_59), nI to9_65, (nI b0), nI b1, 0, 1, l10 + 1, l11, t12, t13, t14, t15, t16, t17, t18, t19, t20, t21, t22, t23])))] := hD
              refine lv_iconst (v := 1) hx hb dX6_next_283 (by decide) ?_
              refine W.widen (k := 0) (n := 0) (by omega) (by omega) ?_
              exact W.zret (v := 1) (ty := .boolean) hx hb hr rfl (fun t ht hW => ⟨⟨1, [(mo, .inr (6, [.int 0, .ref q1, .int (nI g), .ref q3, .ref q4, .ref q5, .ref q6, .int 1, .int gr, .int kd, .long w9_66, .ref q11, .int mk, .long w13, .long w14])), (q3, .inl (cI, 800, .inl m3)), (q5, .inl (cI, 800, .inl m5)), (q6, .inl (cI, 2, .inl (jl [nI n, nI n2]))), (q11, .inl (cI, 24, .inl (jl [(nI to9_59), nI to9_65, (nI b0), nI b1, (nI to9_59), nI to9_65, (nI b0), nI b1, 0, 1, l10 + 1, l11, t12, t13, t14, t15, t16, t17, t18, t19, t20, t21, t22, t23])))], rfl, (by exact (Or.inl ⟨_, _, _, _, _, _, _, _, _, _, _, rfl, rfl, by omega, by omega, by omega, by omega, by omega, by omega, by omega⟩)), by rw [ht]; exact hP, hD⟩, hS.F ht⟩) hS.2.2 dX6_next_284
      · refine lv_aload_n hx hb dX6_next_75 rfl (lv_at hl 0 rfl) ?_
        refine va_get (D := D) (ci := 6) (v := .ref q11) (C := RX6) (T := TX6) (N := 15) hx hb hts (by decide +kernel) hown hK hP 0 rfl rfl 11 (by decide) (hts (.fieldLink RX6 25 "JoinDeskModel" "at" "[I") (by decide +kernel)) (fun _ h9 => h9) rfl dX6_next_76 ?_
        refine lv_iconst (v := 1) hx hb dX6_next_79 (by decide) ?_
        refine va_iald hx hb hK hP 4 0 rfl rfl (by unfold vp_in; decide) dX6_next_80 ?_
        refine W.eq (g2 := F0 m 81 ls [.int (nI b1)]) rfl ?_
        refine lv_aload_n hx hb dX6_next_81 rfl (lv_at hl 0 rfl) ?_
        refine va_get (D := D) (ci := 6) (v := .ref q6) (C := RX6) (T := TX6) (N := 15) hx hb hts (by decide +kernel) hown hK hP 0 rfl rfl 6 (by decide) (hts (.fieldLink RX6 22 "JoinDeskModel" "many" "[I") (by decide +kernel)) (fun _ h9 => h9) rfl dX6_next_82 ?_
        refine lv_iconst (v := 1) hx hb dX6_next_85 (by decide) ?_
        refine va_iald hx hb hK hP 3 0 rfl rfl (by unfold vp_in; decide) dX6_next_86 ?_
        refine W.eq (g2 := F0 m 87 ls [.int (nI n2), .int (nI b1)]) rfl ?_
        refine lv_icmp_ge (tgt := 288) hx hb dX6_next_87 (by decide) (fun cr0 => ?_) (fun cr0 => ?_)
        · refine lv_iconst (v := 0) hx hb dX6_next_288 (by decide) ?_
          refine W.widen (k := 0) (n := 0) (by omega) (by omega) ?_
          exact W.zret (v := 0) (ty := .boolean) hx hb hr rfl (fun t ht hW => ⟨⟨0, [(mo, .inr (6, [.int 0, .ref q1, .int (nI g), .ref q3, .ref q4, .ref q5, .ref q6, .int 1, .int gr, .int kd, .long wl, .ref q11, .int mk, .long w13, .long w14])), (q3, .inl (cI, 800, .inl m3)), (q5, .inl (cI, 800, .inl m5)), (q6, .inl (cI, 2, .inl (jl [nI n, nI n2]))), (q11, .inl (cI, 24, .inl (jl [nI b0, nI b1, l2, l3, l4, l5, l6, l7, l8, 0, l10, l11, t12, t13, t14, t15, t16, t17, t18, t19, t20, t21, t22, t23])))], rfl, (by exact (Or.inr (Or.inr (Or.inr (⟨_, _, _, _, _, _, _, _, _, _, _, _, rfl, rfl, by omega, by omega⟩))))), by rw [ht]; exact hP, hD⟩, hS.F ht⟩) hS.2.2 dX6_next_289
        · refine lv_aload_n hx hb dX6_next_90 rfl (lv_at hl 0 rfl) ?_
          refine va_get (D := D) (ci := 6) (v := .ref q11) (C := RX6) (T := TX6) (N := 15) hx hb hts (by decide +kernel) hown hK hP 0 rfl rfl 11 (by decide) (hts (.fieldLink RX6 25 "JoinDeskModel" "at" "[I") (by decide +kernel)) (fun _ h9 => h9) rfl dX6_next_91 ?_
          refine lv_iconst (v := 0) hx hb dX6_next_94 (by decide) ?_
          refine va_iald hx hb hK hP 4 0 rfl rfl (by unfold vp_in; decide) dX6_next_95 ?_
          refine W.eq (g2 := F0 m 96 ls [.int (nI b0)]) rfl ?_
          refine lv_aload_n hx hb dX6_next_96 rfl (lv_at hl 0 rfl) ?_
          refine va_get (D := D) (ci := 6) (v := .ref q6) (C := RX6) (T := TX6) (N := 15) hx hb hts (by decide +kernel) hown hK hP 0 rfl rfl 6 (by decide) (hts (.fieldLink RX6 22 "JoinDeskModel" "many" "[I") (by decide +kernel)) (fun _ h9 => h9) rfl dX6_next_97 ?_
          refine lv_iconst (v := 0) hx hb dX6_next_100 (by decide) ?_
          refine va_iald hx hb hK hP 3 0 rfl rfl (by unfold vp_in; decide) dX6_next_101 ?_
          refine W.eq (g2 := F0 m 102 ls [.int (nI n), .int (nI b0)]) rfl ?_
          refine lv_icmp_ge (tgt := 109) hx hb dX6_next_102 (by decide) (fun cl1 => ?_) (fun cl1 => absurd cl1 (by exact fun h => h (by rw [nI_leI (by omega) (by omega)]; rw [nI_ltI (by omega) (by omega)] at cl0; omega)))
          refine lv_iconst (v := 0) hx hb dX6_next_109 (by decide) ?_
          refine lv_istore_n (lv' := [(1, .int 0), (0, .ref mo)]) hx hb dX6_next_110 rfl hl (by decide) rfl (fun ls hl => ?_)
          refine lv_aload_n hx hb dX6_next_111 rfl (lv_at hl 1 rfl) ?_
          refine va_get (D := D) (ci := 6) (v := .ref q11) (C := RX6) (T := TX6) (N := 15) hx hb hts (by decide +kernel) hown hK hP 0 rfl rfl 11 (by decide) (hts (.fieldLink RX6 25 "JoinDeskModel" "at" "[I") (by decide +kernel)) (fun _ h9 => h9) rfl dX6_next_112 ?_
          refine lv_iconst (v := 1) hx hb dX6_next_115 (by decide) ?_
          refine va_iald hx hb hK hP 4 0 rfl rfl (by unfold vp_in; decide) dX6_next_116 ?_
          refine W.eq (g2 := F0 m 117 ls [.int (nI b1)]) rfl ?_
          refine lv_aload_n hx hb dX6_next_117 rfl (lv_at hl 1 rfl) ?_
          refine va_get (D := D) (ci := 6) (v := .ref q6) (C := RX6) (T := TX6) (N := 15) hx hb hts (by decide +kernel) hown hK hP 0 rfl rfl 6 (by decide) (hts (.fieldLink RX6 22 "JoinDeskModel" "many" "[I") (by decide +kernel)) (fun _ h9 => h9) rfl dX6_next_118 ?_
          refine lv_iconst (v := 1) hx hb dX6_next_121 (by decide) ?_
          refine va_iald hx hb hK hP 3 0 rfl rfl (by unfold vp_in; decide) dX6_next_122 ?_
          refine W.eq (g2 := F0 m 123 ls [.int (nI n2), .int (nI b1)]) rfl ?_
          refine lv_icmp_ge (tgt := 130) hx hb dX6_next_123 (by decide) (fun cr1 => absurd cr1 (by exact cr0)) (fun cr1 => ?_)
          refine lv_iconst (v := 1) hx hb dX6_next_126 (by decide) ?_
          refine lv_goto (tgt := 131) hx hb dX6_next_127 (by decide) ?_
          refine lv_istore_n (lv' := [(2, .int 1), (1, .int 0), (0, .ref mo)]) hx hb dX6_next_131 rfl hl (by decide) rfl (fun ls hl => ?_)
          refine lv_iload_n hx hb dX6_next_132 rfl (lv_at hl 1 rfl) ?_
          refine lv_if_eq (tgt := 201) hx hb dX6_next_133 (by decide) (fun c_73 => ?_) (fun c_73 => absurd c_73 (by decide))
          refine lv_iload_n hx hb dX6_next_201 rfl (lv_at hl 1 rfl) ?_
          refine lv_if_eq (tgt := 210) hx hb dX6_next_202 (by decide) (fun c_74 => ?_) (fun c_74 => absurd c_74 (by decide))
          refine lv_iload_n hx hb dX6_next_210 rfl (lv_at hl 0 rfl) ?_
          refine lv_if_eq (tgt := 219) hx hb dX6_next_211 (by decide) (fun c_75 => absurd c_75 (by decide)) (fun c_75 => ?_)
          refine lv_aload_n hx hb dX6_next_214 rfl (lv_at hl 2 rfl) ?_
          refine lv_iconst (v := 1) hx hb dX6_next_215 (by decide) ?_
          refine jw_v (wr := []) (va_runV (As := [.int 1]) (rest := []) ⟨hx, hb, hml, hown, hts⟩ (gM_goes_1 l D cI cL cQ mo g n n2 q1 q3 q4 q5 q6 q11 0 1 gr kd mk wl w13 w14 m3 m5 (nI b0) l2 l3 l4 l5 l6 l7 l8 0 l10 l11 t12 t13 t14 t15 t16 t17 t18 t19 t20 t21 t22 t23 b1 _ (by first | assumption | decide | omega) (by first | assumption | decide | omega) (by rw [nI_leI (by omega) (by omega)] at cr1; omega)) (cwV 1 hts gX6_next_X6_goes rfl rfl rfl (by decide +kernel) ⟨Nat.le_of_ble_eq_true rfl, Nat.le_of_ble_eq_true rfl⟩) (jw_V hK hN hP hD [0, 1, 2, 3, 4] (by decide) rfl 6 0 rfl rfl rfl) rfl rfl hl.1 rfl (lv_room (Nat.le_of_ble_eq_true rfl)) dX6_next_216 ⟨Nat.le_of_ble_eq_true rfl, Nat.le_of_ble_eq_true rfl⟩) hP hD hS hA [0, 1, 2, 3, 4] [] rfl rfl (by decide) (by decide) (fun u H locs f_76 hP hD hS => ?_)
          obtain ⟨to9_77, w9_78, rfl, f_79, f_80⟩ := f_76
          have hP : va_P D vwCl [(mo, .inr (6, [.int 0, .ref q1, .int (nI g), .ref q3, .ref q4, .ref q5, .ref q6, .int 1, .int gr, .int kd, .long w9_78, .ref q11, .int mk, .long w13, .long w14])), (q3, .inl (cI, 800, .inl m3)), (q5, .inl (cI, 800, .inl m5)), (q6, .inl (cI, 2, .inl (jl [nI n, nI n2]))), (q11, .inl (cI, 24, .inl (jl [(nI b0), nI to9_77, l2, nI b1, l4, nI to9_77, l6, nI b1, l8, 0, l10, l11, t12, t13, t14, t15, t16, t17, t18, t19, t20, t21, t22, t23])))] H := hP
          have hD : va_D A [(mo, .inr (6, [.int 0, .ref q1, .int (nI g), .ref q3, .ref q4, .ref q5, .ref q6, .int 1, .int gr, .int kd, .long w9_78, .ref q11, .int mk, .long w13, .long w14])), (q3, .inl (cI, 800, .inl m3)), (q5, .inl (cI, 800, .inl m5)), (q6, .inl (cI, 2, .inl (jl [nI n, nI n2]))), (q11, .inl (cI, 24, .inl (jl [(nI b0), nI to9_77, l2, nI b1, l4, nI to9_77, l6, nI b1, l8, 0, l10, l11, t12, t13, t14, t15, t16, t17, t18, t19, t20, t21, t22, t23])))] := hD
          refine lv_aload_n hx hb dX6_next_219 rfl (lv_at hl 2 rfl) ?_
          refine va_get (D := D) (ci := 6) (v := .ref q11) (C := RX6) (T := TX6) (N := 15) hx hb hts (by decide +kernel) hown hK hP 0 rfl rfl 11 (by decide) (hts (.fieldLink RX6 25 "JoinDeskModel" "at" "[I") (by decide +kernel)) (fun _ h9 => h9) rfl dX6_next_220 ?_
          refine lv_bipush (v := 8) hx hb dX6_next_223 (by decide) ?_
          refine lv_iload_n hx hb dX6_next_225 rfl (lv_at hl 1 rfl) ?_
          refine lv_if_eq (tgt := 237) hx hb dX6_next_226 (by decide) (fun c_81 => ?_) (fun c_81 => absurd c_81 (by decide))
          refine lv_iload_n hx hb dX6_next_237 rfl (lv_at hl 1 rfl) ?_
          refine lv_if_eq (tgt := 245) hx hb dX6_next_238 (by decide) (fun c_82 => ?_) (fun c_82 => absurd c_82 (by decide))
          refine lv_iconst (v := 2) hx hb dX6_next_245 (by decide) ?_
          refine va_iast hx hb hK hP hD hS 4 0 rfl rfl (by unfold vp_in; decide) dX6_next_246 (fun H locs hP hD hS => ?_)
          rw [jl_upd (show (8 : Int32).toNatClampNeg = 8 by decide) (Nat.le_of_ble_eq_true rfl)] at hP hD
          have hP : va_P D vwCl [(mo, .inr (6, [.int 0, .ref q1, .int (nI g), .ref q3, .ref q4, .ref q5, .ref q6, .int 1, .int gr, .int kd, .long w9_78, .ref q11, .int mk, .long w13, .long w14])), (q3, .inl (cI, 800, .inl m3)), (q5, .inl (cI, 800, .inl m5)), (q6, .inl (cI, 2, .inl (jl [nI n, nI n2]))), (q11, .inl (cI, 24, .inl (jl [(nI b0), nI to9_77, l2, nI b1, l4, nI to9_77, l6, nI b1, 2, 0, l10, l11, t12, t13, t14, t15, t16, t17, t18, t19, t20, t21, t22, t23])))] H := hP
          have hD : va_D A [(mo, .inr (6, [.int 0, .ref q1, .int (nI g), .ref q3, .ref q4, .ref q5, .ref q6, .int 1, .int gr, .int kd, .long w9_78, .ref q11, .int mk, .long w13, .long w14])), (q3, .inl (cI, 800, .inl m3)), (q5, .inl (cI, 800, .inl m5)), (q6, .inl (cI, 2, .inl (jl [nI n, nI n2]))), (q11, .inl (cI, 24, .inl (jl [(nI b0), nI to9_77, l2, nI b1, l4, nI to9_77, l6, nI b1, 2, 0, l10, l11, t12, t13, t14, t15, t16, t17, t18, t19, t20, t21, t22, t23])))] := hD
          refine lv_aload_n hx hb dX6_next_247 rfl (lv_at hl 2 rfl) ?_
          refine va_get (D := D) (ci := 6) (v := .int kd) (C := RX6) (T := TX6) (N := 15) hx hb hts (by decide +kernel) hown hK hP 0 rfl rfl 9 (by decide) (hts (.fieldLink RX6 60 "JoinDeskModel" "kind" "I") (by decide +kernel)) (fun _ h9 => h9) rfl dX6_next_248 ?_
          refine lv_aload_n hx hb dX6_next_251 rfl (lv_at hl 2 rfl) ?_
          refine va_get (D := D) (ci := 6) (v := .ref q11) (C := RX6) (T := TX6) (N := 15) hx hb hts (by decide +kernel) hown hK hP 0 rfl rfl 11 (by decide) (hts (.fieldLink RX6 25 "JoinDeskModel" "at" "[I") (by decide +kernel)) (fun _ h9 => h9) rfl dX6_next_252 ?_
          refine lv_bipush (v := 8) hx hb dX6_next_255 (by decide) ?_
          refine va_iald hx hb hK hP 4 0 rfl rfl (by unfold vp_in; decide) dX6_next_257 ?_
          refine W.eq (g2 := F0 m 258 ls [.int 2, .int kd]) rfl ?_
          refine vp_callSi (va_Run.run (va_runS (As := [.int kd, .int 2]) (rest := []) ⟨hx, hb, hml, hown, hts⟩ (gM_tells_2 l D cI cL cQ kd (by first | assumption | decide | omega)) (va_cwS 2 hts gX6_next_X6_tells rfl rfl rfl (by decide +kernel) ⟨Nat.le_of_ble_eq_true rfl, Nat.le_of_ble_eq_true rfl⟩) (jr_S hK hN hP [] rfl) rfl rfl hl.1 rfl (lv_room (Nat.le_of_ble_eq_true rfl)) dX6_next_258 ⟨Nat.le_of_ble_eq_true rfl, Nat.le_of_ble_eq_true rfl⟩)) (fun r f_83 => ?_)
          rcases f_83 with ⟨rfl, f_84⟩ | ⟨rfl, f_85⟩
          · refine lv_if_eq (tgt := 285) hx hb dX6_next_261 (by decide) (fun c_86 => absurd c_86 (by decide)) (fun c_86 => ?_)
            refine lv_aload_n hx hb dX6_next_264 rfl (lv_at hl 2 rfl) ?_
            refine va_get (D := D) (ci := 6) (v := .ref q11) (C := RX6) (T := TX6) (N := 15) hx hb hts (by decide +kernel) hown hK hP 0 rfl rfl 11 (by decide) (hts (.fieldLink RX6 25 "JoinDeskModel" "at" "[I") (by decide +kernel)) (fun _ h9 => h9) rfl dX6_next_265 ?_
            refine lv_bipush (v := 9) hx hb dX6_next_268 (by decide) ?_
            refine lv_iconst (v := 1) hx hb dX6_next_270 (by decide) ?_
            refine va_iast hx hb hK hP hD hS 4 0 rfl rfl (by unfold vp_in; decide) dX6_next_271 (fun H locs hP hD hS => ?_)
            rw [jl_upd (show (9 : Int32).toNatClampNeg = 9 by decide) (Nat.le_of_ble_eq_true rfl)] at hP hD
            have hP : va_P D vwCl [(mo, .inr (6, [.int 0, .ref q1, .int (nI g), .ref q3, .ref q4, .ref q5, .ref q6, .int 1, .int gr, .int kd, .long w9_78, .ref q11, .int mk, .long w13, .long w14])), (q3, .inl (cI, 800, .inl m3)), (q5, .inl (cI, 800, .inl m5)), (q6, .inl (cI, 2, .inl (jl [nI n, nI n2]))), (q11, .inl (cI, 24, .inl (jl [(nI b0), nI to9_77, l2, nI b1, l4, nI to9_77, l6, nI b1, 2, 1, l10, l11, t12, t13, t14, t15, t16, t17, t18, t19, t20, t21, t22, t23])))] H := hP
            have hD : va_D A [(mo, .inr (6, [.int 0, .ref q1, .int (nI g), .ref q3, .ref q4, .ref q5, .ref q6, .int 1, .int gr, .int kd, .long w9_78, .ref q11, .int mk, .long w13, .long w14])), (q3, .inl (cI, 800, .inl m3)), (q5, .inl (cI, 800, .inl m5)), (q6, .inl (cI, 2, .inl (jl [nI n, nI n2]))), (q11, .inl (cI, 24, .inl (jl [(nI b0), nI to9_77, l2, nI b1, l4, nI to9_77, l6, nI b1, 2, 1, l10, l11, t12, t13, t14, t15, t16, t17, t18, t19, t20, t21, t22, t23])))] := hD
            refine lv_aload_n hx hb dX6_next_272 rfl (lv_at hl 2 rfl) ?_
            refine va_get (D := D) (ci := 6) (v := .ref q11) (C := RX6) (T := TX6) (N := 15) hx hb hts (by decide +kernel) hown hK hP 0 rfl rfl 11 (by decide) (hts (.fieldLink RX6 25 "JoinDeskModel" "at" "[I") (by decide +kernel)) (fun _ h9 => h9) rfl dX6_next_273 ?_
            refine lv_bipush (v := 10) hx hb dX6_next_276 (by decide) ?_
            refine lv_dup2_11 hx hb dX6_next_278 rfl rfl ?_
            refine va_iald hx hb hK hP 4 0 rfl rfl (by unfold vp_in; decide) dX6_next_279 ?_
            refine W.eq (g2 := F0 m 280 ls [.int l10, .int 10, .ref q11]) rfl ?_
            refine lv_iconst (v := 1) hx hb dX6_next_280 (by decide) ?_
            refine lv_iadd hx hb dX6_next_281 ?_
            refine va_iast hx hb hK hP hD hS 4 0 rfl rfl (by unfold vp_in; decide) dX6_next_282 (fun H locs hP hD hS => ?_)
            rw [jl_upd (show (10 : Int32).toNatClampNeg = 10 by decide) (Nat.le_of_ble_eq_true rfl)] at hP hD
            have hP : va_P D vwCl [(mo, .inr (6, [.int 0, .ref q1, .int (nI g), .ref q3, .ref q4, .ref q5, .ref q6, .int 1, .int gr, .int kd, .long w9_78, .ref q11, .int mk, .long w13, .long w14])), (q3, .inl (cI, 800, .inl m3)), (q5, .inl (cI, 800, .inl m5)), (q6, .inl (cI, 2, .inl (jl [nI n, nI n2]))), (q11, .inl (cI, 24, .inl (jl [(nI b0), nI to9_77, l2, nI b1, l4, nI to9_77, l6, nI b1, 2, 1, l10 + 1, l11, t12, t13, t14, t15, t16, t17, t18, t19, t20, t21, t22, t23])))] H := hP
            have hD : va_D A [(mo, .inr (6, [.int 0, .ref q1, .int (nI g), .ref q3, .ref q4, .ref q5, .ref q6, .int 1, .int gr, .int kd, .long w9_78, .ref q11, .int mk, .long w13, .long w14])), (q3, .inl (cI, 800, .inl m3)), (q5, .inl (cI, 800, .inl m5)), (q6, .inl (cI, 2, .inl (jl [nI n, nI n2]))), (q11, .inl (cI, 24, .inl (jl [(nI b0), nI to9_77, l2, nI b1, l4, nI to9_77, l6, nI b1, 2, 1, l10 + 1, l11, t12, t13, t14, t15, t16, t17, t18, t19, t20, t21, t22, t23])))] := hD
            refine lv_iconst (v := 1) hx hb dX6_next_283 (by decide) ?_
            refine W.widen (k := 0) (n := 0) (by omega) (by omega) ?_
            exact W.zret (v := 1) (ty := .boolean) hx hb hr rfl (fun t ht hW => ⟨⟨1, [(mo, .inr (6, [.int 0, .ref q1, .int (nI g), .ref q3, .ref q4, .ref q5, .ref q6, .int 1, .int gr, .int kd, .long w9_78, .ref q11, .int mk, .long w13, .long w14])), (q3, .inl (cI, 800, .inl m3)), (q5, .inl (cI, 800, .inl m5)), (q6, .inl (cI, 2, .inl (jl [nI n, nI n2]))), (q11, .inl (cI, 24, .inl (jl [(nI b0), nI to9_77, l2, nI b1, l4, nI to9_77, l6, nI b1, 2, 1, l10 + 1, l11, t12, t13, t14, t15, t16, t17, t18, t19, t20, t21, t22, t23])))], rfl, (by exact (Or.inr (Or.inr (Or.inl ⟨_, _, _, _, _, _, _, _, _, _, _, rfl, rfl, by omega, by omega, by omega, by omega⟩)))), by rw [ht]; exact hP, hD⟩, hS.F ht⟩) hS.2.2 dX6_next_284
          · refine lv_if_eq (tgt := 285) hx hb dX6_next_261 (by decide) (fun c_87 => ?_) (fun c_87 => absurd c_87 (by decide))
            refine lv_goto (tgt := 60) hx hb dX6_next_285 (by decide) ?_
            exact ih_1 b0 to9_77 l2 (nI b1) l4 (nI to9_77) l6 (nI b1) 2 l10 l11 w9_78 (by omega) (by omega) (by omega) _ _ hP hD hS ls (lv_sub hl [2] rfl)
  exact hloop_1 ((n - e0) + (n2 - e1) + 1) e0 e1 t2 t3 t4 t5 t6 t7 t8 t10 t11 w10 (Nat.lt_succ_self _) (by first | assumption | omega) (by first | assumption | omega) _ _ hP hD hS ls (lv_sub hl [0] rfl)
set_option maxHeartbeats 1000000 in
set_option maxRecDepth 100000 in
theorem gM_next_10 (l : Launch) (D : va_G) (cI cL cQ : ClassId) (mo : Nat) (g : Nat) (n : Nat) (n2 : Nat) (q1 : Nat) (q3 : Nat) (q4 : Nat) (q5 : Nat) (q6 : Nat) (q11 : Nat) (z0 : Int32) (gr : Int32) (kd : Int32) (mk : Int32) (w10 : Int64) (w13 : Int64) (w14 : Int64) (m3 : Nat → Int32) (m5 : Nat → Int32) (t2 : Int32) (t10 : Int32) (t11 : Int32) (t12 : Int32) (t13 : Int32) (t14 : Int32) (t15 : Int32) (t16 : Int32) (t17 : Int32) (t18 : Int32) (t19 : Int32) (t20 : Int32) (t21 : Int32) (t22 : Int32) (t23 : Int32) (e0 : Nat) (e1 : Nat) (f1 : Nat) (d0 : Nat) (d1 : Nat) (r0 : Nat) (r1 : Nat) (sz : Nat) (hn : n ≤ 400) (hn2 : n2 ≤ 400) (h5 : jo5 m5) (hk4 : jk4 kd) (he0 : e0 ≤ 400) (he1 : e1 ≤ 400) (hf1 : f1 < d1) (hr0 : r0 < d0) (hr1 : r1 < d1) (hd0 : d0 ≤ 400) (hd1 : d1 ≤ 400) : Met l yX6_next wsX6_next ({ frames := 2, cells := 0, slots := 0, locals := 45 }) (jw_P D vwCl (jT cI cL cQ) cL cQ [.ref mo] [(mo, .inr (6, [.int z0, .ref q1, .int (nI g), .ref q3, .ref q4, .ref q5, .ref q6, .int 1, .int gr, .int kd, .long w10, .ref q11, .int mk, .long w13, .long w14])), (q3, .inl (cI, 800, .inl m3)), (q5, .inl (cI, 800, .inl m5)), (q6, .inl (cI, 2, .inl (jl [nI n, nI n2]))), (q11, .inl (cI, 24, .inl (jl [nI e0, nI e1, t2, nI f1, nI d0, nI d1, nI r0, nI r1, 0, 1, t10, t11, t12, t13, t14, t15, t16, t17, t18, t19, t20, t21, t22, t23])))] sz) (va_Qi (fun (r : Int32) (u : va_W) => (∃ (d0x : Nat) (d1x : Nat) (e0x : Nat) (e1x : Nat) (f1x : Nat) (r0x : Nat) (r1x : Nat) (j10 : Int32) (j11 : Int32) (j2 : Int32) (wx : Int64), r = 1 ∧ u = [(mo, .inr (6, [.int 0, .ref q1, .int (nI g), .ref q3, .ref q4, .ref q5, .ref q6, .int 1, .int gr, .int kd, .long wx, .ref q11, .int mk, .long w13, .long w14])), (q3, .inl (cI, 800, .inl m3)), (q5, .inl (cI, 800, .inl m5)), (q6, .inl (cI, 2, .inl (jl [nI n, nI n2]))), (q11, .inl (cI, 24, .inl (jl [nI e0x, nI e1x, j2, nI f1x, nI d0x, nI d1x, nI r0x, nI r1x, 0, 1, j10, j11, t12, t13, t14, t15, t16, t17, t18, t19, t20, t21, t22, t23])))] ∧ (e0x ≤ 400) ∧ (e1x ≤ 400) ∧ (f1x < d1x) ∧ (r0x < d0x) ∧ (r1x < d1x) ∧ (d0x ≤ 400) ∧ (d1x ≤ 400)) ∨ (∃ (d0x : Nat) (e0x : Nat) (e1x : Nat) (r0x : Nat) (j10 : Int32) (j11 : Int32) (j2 : Int32) (j3 : Int32) (j5 : Int32) (j7 : Int32) (wx : Int64), r = 1 ∧ u = [(mo, .inr (6, [.int 0, .ref q1, .int (nI g), .ref q3, .ref q4, .ref q5, .ref q6, .int 1, .int gr, .int kd, .long wx, .ref q11, .int mk, .long w13, .long w14])), (q3, .inl (cI, 800, .inl m3)), (q5, .inl (cI, 800, .inl m5)), (q6, .inl (cI, 2, .inl (jl [nI n, nI n2]))), (q11, .inl (cI, 24, .inl (jl [nI e0x, nI e1x, j2, j3, nI d0x, j5, nI r0x, j7, 1, 1, j10, j11, t12, t13, t14, t15, t16, t17, t18, t19, t20, t21, t22, t23])))] ∧ (e0x ≤ 400) ∧ (e1x ≤ 400) ∧ (r0x < d0x) ∧ (d0x ≤ 400)) ∨ (∃ (d1x : Nat) (e0x : Nat) (e1x : Nat) (r1x : Nat) (j10 : Int32) (j11 : Int32) (j2 : Int32) (j3 : Int32) (j4 : Int32) (j6 : Int32) (wx : Int64), r = 1 ∧ u = [(mo, .inr (6, [.int 0, .ref q1, .int (nI g), .ref q3, .ref q4, .ref q5, .ref q6, .int 1, .int gr, .int kd, .long wx, .ref q11, .int mk, .long w13, .long w14])), (q3, .inl (cI, 800, .inl m3)), (q5, .inl (cI, 800, .inl m5)), (q6, .inl (cI, 2, .inl (jl [nI n, nI n2]))), (q11, .inl (cI, 24, .inl (jl [nI e0x, nI e1x, j2, j3, j4, nI d1x, j6, nI r1x, 2, 1, j10, j11, t12, t13, t14, t15, t16, t17, t18, t19, t20, t21, t22, t23])))] ∧ (e0x ≤ 400) ∧ (e1x ≤ 400) ∧ (r1x < d1x) ∧ (d1x ≤ 400)) ∨ (∃ (e0x : Nat) (e1x : Nat) (j10 : Int32) (j11 : Int32) (j2 : Int32) (j3 : Int32) (j4 : Int32) (j5 : Int32) (j6 : Int32) (j7 : Int32) (j8 : Int32) (wx : Int64), r = 0 ∧ u = [(mo, .inr (6, [.int 0, .ref q1, .int (nI g), .ref q3, .ref q4, .ref q5, .ref q6, .int 1, .int gr, .int kd, .long wx, .ref q11, .int mk, .long w13, .long w14])), (q3, .inl (cI, 800, .inl m3)), (q5, .inl (cI, 800, .inl m5)), (q6, .inl (cI, 2, .inl (jl [nI n, nI n2]))), (q11, .inl (cI, 24, .inl (jl [nI e0x, nI e1x, j2, j3, j4, j5, j6, j7, j8, 0, j10, j11, t12, t13, t14, t15, t16, t17, t18, t19, t20, t21, t22, t23])))] ∧ (e0x ≤ 400) ∧ (e1x ≤ 400))) (jw_B D vwCl (va_A [(mo, .inr (6, [.int z0, .ref q1, .int (nI g), .ref q3, .ref q4, .ref q5, .ref q6, .int 1, .int gr, .int kd, .long w10, .ref q11, .int mk, .long w13, .long w14])), (q3, .inl (cI, 800, .inl m3)), (q5, .inl (cI, 800, .inl m5)), (q6, .inl (cI, 2, .inl (jl [nI n, nI n2]))), (q11, .inl (cI, 24, .inl (jl [nI e0, nI e1, t2, nI f1, nI d0, nI d1, nI r0, nI r1, 0, 1, t10, t11, t12, t13, t14, t15, t16, t17, t18, t19, t20, t21, t22, t23])))] sz) (fun u : va_W => u)) (va_A [(mo, .inr (6, [.int z0, .ref q1, .int (nI g), .ref q3, .ref q4, .ref q5, .ref q6, .int 1, .int gr, .int kd, .long w10, .ref q11, .int mk, .long w13, .long w14])), (q3, .inl (cI, 800, .inl m3)), (q5, .inl (cI, 800, .inl m5)), (q6, .inl (cI, 2, .inl (jl [nI n, nI n2]))), (q11, .inl (cI, 24, .inl (jl [nI e0, nI e1, t2, nI f1, nI d0, nI d1, nI r0, nI r1, 0, 1, t10, t11, t12, t13, t14, t15, t16, t17, t18, t19, t20, t21, t22, t23])))] sz)) 0 0 (va_A [(mo, .inr (6, [.int z0, .ref q1, .int (nI g), .ref q3, .ref q4, .ref q5, .ref q6, .int 1, .int gr, .int kd, .long w10, .ref q11, .int mk, .long w13, .long w14])), (q3, .inl (cI, 800, .inl m3)), (q5, .inl (cI, 800, .inl m5)), (q6, .inl (cI, 2, .inl (jl [nI n, nI n2]))), (q11, .inl (cI, 24, .inl (jl [nI e0, nI e1, t2, nI f1, nI d0, nI d1, nI r0, nI r1, 0, 1, t10, t11, t12, t13, t14, t15, t16, t17, t18, t19, t20, t21, t22, t23])))] sz) := by
  refine Met.ofW (cc := cX6_next) (maxL := 5) (ret := (some .boolean)) (by decide) rfl ?_
  intro p e s m args below meth c s₁ B hml hv
  obtain ⟨rfl, hsz, hP, hK, hN, hD0⟩ := hv
  have hx := B.exec
  have hb := B.bytes
  have hr := B.returns
  have hts := atoms_spec (ws := wsX6_next) B.pre
  have hown : s.vm.findClass RX6 = some m.cls := findClass_of_methodNamed B.named
  have hlocks := B.notSynchronized
  subst hsz
  have hD := hD0.self (sz := s.heap.size)
  generalize hAe : va_A [(mo, .inr (6, [.int z0, .ref q1, .int (nI g), .ref q3, .ref q4, .ref q5, .ref q6, .int 1, .int gr, .int kd, .long w10, .ref q11, .int mk, .long w13, .long w14])), (q3, .inl (cI, 800, .inl m3)), (q5, .inl (cI, 800, .inl m5)), (q6, .inl (cI, 2, .inl (jl [nI n, nI n2]))), (q11, .inl (cI, 24, .inl (jl [nI e0, nI e1, t2, nI f1, nI d0, nI d1, nI r0, nI r1, 0, 1, t10, t11, t12, t13, t14, t15, t16, t17, t18, t19, t20, t21, t22, t23])))] s.heap.size = A at hD ⊢
  have hA : ∀ q : Nat, s.heap.size ≤ q → A q := fun q h => by rw [← hAe]; exact Or.inr h
  have hS : va_S A s.heap s.heap [] := va_S.rf
  have hl := lv_entry ([.ref mo]) (n := 5) (Nat.le_of_ble_eq_true rfl)
  rw [lg_entry_eq]
  generalize (lg_sl ([.ref mo]) ++ List.replicate (5 - (lg_sl ([.ref mo])).length) Slot.unset).toArray = ls at hl ⊢
  have hl : lv_has ls 5 [(0, .ref mo)] := hl
  refine lv_aload_n hx hb dX6_next_0 rfl (lv_at hl 0 rfl) ?_
  refine lv_aload_n hx hb dX6_next_1 rfl (lv_at hl 0 rfl) ?_
  refine va_get (D := D) (ci := 6) (v := .int 1) (C := RX6) (T := TX6) (N := 15) hx hb hts (by decide +kernel) hown hK hP 0 rfl rfl 7 (by decide) (hts (.fieldLink RX6 43 "JoinDeskModel" "prepared" "Z") (by decide +kernel)) (fun _ h9 => h9) rfl dX6_next_2 ?_
  refine lv_if_eq (tgt := 12) hx hb dX6_next_5 (by decide) (fun c_1 => absurd c_1 (by decide)) (fun c_1 => ?_)
  refine lv_iconst (v := 0) hx hb dX6_next_8 (by decide) ?_
  refine lv_goto (tgt := 13) hx hb dX6_next_9 (by decide) ?_
  refine jw_i (wr := [(q3, .inl (cI, 800, .inl m3)), (q5, .inl (cI, 800, .inl m5)), (q6, .inl (cI, 2, .inl (jl [nI n, nI n2]))), (q11, .inl (cI, 24, .inl (jl [nI e0, nI e1, t2, nI f1, nI d0, nI d1, nI r0, nI r1, 0, 1, t10, t11, t12, t13, t14, t15, t16, t17, t18, t19, t20, t21, t22, t23])))]) (va_runV (As := [.int 0]) (rest := []) ⟨hx, hb, hml, hown, hts⟩ (gM_refuses_0 l D cI cL cQ mo g q1 q3 q4 q5 q6 q11 z0 1 gr kd mk w10 w13 w14 _) (cwV 1 hts gX6_next_X6_refuses rfl rfl rfl (by decide +kernel) ⟨Nat.le_of_ble_eq_true rfl, Nat.le_of_ble_eq_true rfl⟩) (jw_V hK hN hP hD [0] (by decide) rfl 6 0 rfl rfl rfl) rfl rfl hl.1 rfl (lv_room (Nat.le_of_ble_eq_true rfl)) dX6_next_13 ⟨Nat.le_of_ble_eq_true rfl, Nat.le_of_ble_eq_true rfl⟩) hP hD hS hA [0] [1, 2, 3, 4] rfl rfl (by decide) (by decide) (fun r u H locs f_2 hP hD hS => ?_)
  obtain ⟨rfl, rfl⟩ := f_2
  have hP : va_P D vwCl [(q3, .inl (cI, 800, .inl m3)), (q5, .inl (cI, 800, .inl m5)), (q6, .inl (cI, 2, .inl (jl [nI n, nI n2]))), (q11, .inl (cI, 24, .inl (jl [nI e0, nI e1, t2, nI f1, nI d0, nI d1, nI r0, nI r1, 0, 1, t10, t11, t12, t13, t14, t15, t16, t17, t18, t19, t20, t21, t22, t23]))), (mo, .inr (6, [.int 0, .ref q1, .int (nI g), .ref q3, .ref q4, .ref q5, .ref q6, .int 1, .int gr, .int kd, .long w10, .ref q11, .int mk, .long w13, .long w14]))] H := hP
  have hD : va_D A [(q3, .inl (cI, 800, .inl m3)), (q5, .inl (cI, 800, .inl m5)), (q6, .inl (cI, 2, .inl (jl [nI n, nI n2]))), (q11, .inl (cI, 24, .inl (jl [nI e0, nI e1, t2, nI f1, nI d0, nI d1, nI r0, nI r1, 0, 1, t10, t11, t12, t13, t14, t15, t16, t17, t18, t19, t20, t21, t22, t23]))), (mo, .inr (6, [.int 0, .ref q1, .int (nI g), .ref q3, .ref q4, .ref q5, .ref q6, .int 1, .int gr, .int kd, .long w10, .ref q11, .int mk, .long w13, .long w14]))] := hD
  refine lv_if_eq (tgt := 21) hx hb dX6_next_16 (by decide) (fun c_3 => ?_) (fun c_3 => absurd c_3 (by decide))
  refine lv_aload_n hx hb dX6_next_21 rfl (lv_at hl 0 rfl) ?_
  refine va_get (D := D) (ci := 6) (v := .ref q11) (C := RX6) (T := TX6) (N := 15) hx hb hts (by decide +kernel) hown hK hP 4 rfl rfl 11 (by decide) (hts (.fieldLink RX6 25 "JoinDeskModel" "at" "[I") (by decide +kernel)) (fun _ h9 => h9) rfl dX6_next_22 ?_
  refine lv_bipush (v := 9) hx hb dX6_next_25 (by decide) ?_
  refine va_iald hx hb hK hP 3 0 rfl rfl (by unfold vp_in; decide) dX6_next_27 ?_
  refine W.eq (g2 := F0 m 28 ls [.int 1]) rfl ?_
  refine lv_iconst (v := 1) hx hb dX6_next_28 (by decide) ?_
  refine lv_icmp_ne (tgt := 52) hx hb dX6_next_29 (by decide) (fun c_4 => absurd c_4 (by decide)) (fun c_4 => ?_)
  refine lv_aload_n hx hb dX6_next_32 rfl (lv_at hl 0 rfl) ?_
  refine jw_i (wr := [(q3, .inl (cI, 800, .inl m3)), (q5, .inl (cI, 800, .inl m5)), (q6, .inl (cI, 2, .inl (jl [nI n, nI n2])))]) (va_runV (As := []) (rest := []) ⟨hx, hb, hml, hown, hts⟩ (gM_steps_0 l D cI cL cQ mo g q1 q3 q4 q5 q6 q11 0 1 gr kd mk w10 w13 w14 t2 t10 t11 t12 t13 t14 t15 t16 t17 t18 t19 t20 t21 t22 t23 e0 e1 f1 d0 d1 r0 r1 _ (by first | assumption | decide | omega) (by first | assumption | decide | omega) (by first | assumption | decide | omega) (by first | assumption | decide | omega) (by first | assumption | decide | omega)) (cwV 0 hts gX6_next_X6_steps rfl rfl rfl (by decide +kernel) ⟨Nat.le_of_ble_eq_true rfl, Nat.le_of_ble_eq_true rfl⟩) (jw_V hK hN hP hD [4, 3] (by decide) rfl 6 4 rfl rfl rfl) rfl rfl hl.1 rfl (lv_room (Nat.le_of_ble_eq_true rfl)) dX6_next_33 ⟨Nat.le_of_ble_eq_true rfl, Nat.le_of_ble_eq_true rfl⟩) hP hD hS hA [4, 3] [0, 1, 2] rfl rfl (by decide) (by decide) (fun r u H locs f_5 hP hD hS => ?_)
  rcases f_5 with ⟨y0_6, y1_7, rfl, rfl, f_8, f_9⟩ | ⟨y0_10, y1_11, rfl, rfl⟩
  · have hP : va_P D vwCl [(q3, .inl (cI, 800, .inl m3)), (q5, .inl (cI, 800, .inl m5)), (q6, .inl (cI, 2, .inl (jl [nI n, nI n2]))), (mo, .inr (6, [.int 0, .ref q1, .int (nI g), .ref q3, .ref q4, .ref q5, .ref q6, .int 1, .int gr, .int kd, .long w10, .ref q11, .int mk, .long w13, .long w14])), (q11, .inl (cI, 24, .inl (jl [nI e0, nI e1, t2, nI f1, nI d0, nI d1, nI y0_6, nI y1_7, 0, 1, t10, t11, t12, t13, t14, t15, t16, t17, t18, t19, t20, t21, t22, t23])))] H := hP
    have hD : va_D A [(q3, .inl (cI, 800, .inl m3)), (q5, .inl (cI, 800, .inl m5)), (q6, .inl (cI, 2, .inl (jl [nI n, nI n2]))), (mo, .inr (6, [.int 0, .ref q1, .int (nI g), .ref q3, .ref q4, .ref q5, .ref q6, .int 1, .int gr, .int kd, .long w10, .ref q11, .int mk, .long w13, .long w14])), (q11, .inl (cI, 24, .inl (jl [nI e0, nI e1, t2, nI f1, nI d0, nI d1, nI y0_6, nI y1_7, 0, 1, t10, t11, t12, t13, t14, t15, t16, t17, t18, t19, t20, t21, t22, t23])))] := hD
    refine lv_if_eq (tgt := 52) hx hb dX6_next_36 (by decide) (fun c_12 => absurd c_12 (by decide)) (fun c_12 => ?_)
    refine lv_aload_n hx hb dX6_next_39 rfl (lv_at hl 0 rfl) ?_
    refine va_get (D := D) (ci := 6) (v := .ref q11) (C := RX6) (T := TX6) (N := 15) hx hb hts (by decide +kernel) hown hK hP 3 rfl rfl 11 (by decide) (hts (.fieldLink RX6 25 "JoinDeskModel" "at" "[I") (by decide +kernel)) (fun _ h9 => h9) rfl dX6_next_40 ?_
    refine lv_bipush (v := 10) hx hb dX6_next_43 (by decide) ?_
    refine lv_dup2_11 hx hb dX6_next_45 rfl rfl ?_
    refine va_iald hx hb hK hP 4 0 rfl rfl (by unfold vp_in; decide) dX6_next_46 ?_
    refine W.eq (g2 := F0 m 47 ls [.int t10, .int 10, .ref q11]) rfl ?_
    refine lv_iconst (v := 1) hx hb dX6_next_47 (by decide) ?_
    refine lv_iadd hx hb dX6_next_48 ?_
    refine va_iast hx hb hK hP hD hS 4 0 rfl rfl (by unfold vp_in; decide) dX6_next_49 (fun H locs hP hD hS => ?_)
    rw [jl_upd (show (10 : Int32).toNatClampNeg = 10 by decide) (Nat.le_of_ble_eq_true rfl)] at hP hD
    have hP : va_P D vwCl [(q3, .inl (cI, 800, .inl m3)), (q5, .inl (cI, 800, .inl m5)), (q6, .inl (cI, 2, .inl (jl [nI n, nI n2]))), (mo, .inr (6, [.int 0, .ref q1, .int (nI g), .ref q3, .ref q4, .ref q5, .ref q6, .int 1, .int gr, .int kd, .long w10, .ref q11, .int mk, .long w13, .long w14])), (q11, .inl (cI, 24, .inl (jl [nI e0, nI e1, t2, nI f1, nI d0, nI d1, nI y0_6, nI y1_7, 0, 1, t10 + 1, t11, t12, t13, t14, t15, t16, t17, t18, t19, t20, t21, t22, t23])))] H := hP
    have hD : va_D A [(q3, .inl (cI, 800, .inl m3)), (q5, .inl (cI, 800, .inl m5)), (q6, .inl (cI, 2, .inl (jl [nI n, nI n2]))), (mo, .inr (6, [.int 0, .ref q1, .int (nI g), .ref q3, .ref q4, .ref q5, .ref q6, .int 1, .int gr, .int kd, .long w10, .ref q11, .int mk, .long w13, .long w14])), (q11, .inl (cI, 24, .inl (jl [nI e0, nI e1, t2, nI f1, nI d0, nI d1, nI y0_6, nI y1_7, 0, 1, t10 + 1, t11, t12, t13, t14, t15, t16, t17, t18, t19, t20, t21, t22, t23])))] := hD
    refine lv_iconst (v := 1) hx hb dX6_next_50 (by decide) ?_
    have hP := hP.sub (ws' := [(mo, .inr (6, [.int 0, .ref q1, .int (nI g), .ref q3, .ref q4, .ref q5, .ref q6, .int 1, .int gr, .int kd, .long w10, .ref q11, .int mk, .long w13, .long w14])), (q3, .inl (cI, 800, .inl m3)), (q5, .inl (cI, 800, .inl m5)), (q6, .inl (cI, 2, .inl (jl [nI n, nI n2]))), (q11, .inl (cI, 24, .inl (jl [nI e0, nI e1, t2, nI f1, nI d0, nI d1, nI y0_6, nI y1_7, 0, 1, t10 + 1, t11, t12, t13, t14, t15, t16, t17, t18, t19, t20, t21, t22, t23])))]) [3, 0, 1, 2, 4] rfl
    have hD := hD.sub (ws' := [(mo, .inr (6, [.int 0, .ref q1, .int (nI g), .ref q3, .ref q4, .ref q5, .ref q6, .int 1, .int gr, .int kd, .long w10, .ref q11, .int mk, .long w13, .long w14])), (q3, .inl (cI, 800, .inl m3)), (q5, .inl (cI, 800, .inl m5)), (q6, .inl (cI, 2, .inl (jl [nI n, nI n2]))), (q11, .inl (cI, 24, .inl (jl [nI e0, nI e1, t2, nI f1, nI d0, nI d1, nI y0_6, nI y1_7, 0, 1, t10 + 1, t11, t12, t13, t14, t15, t16, t17, t18, t19, t20, t21, t22, t23])))]) [3, 0, 1, 2, 4] (by decide) rfl
    refine W.widen (k := 0) (n := 0) (by omega) (by omega) ?_
    exact W.zret (v := 1) (ty := .boolean) hx hb hr rfl (fun t ht hW => ⟨⟨1, [(mo, .inr (6, [.int 0, .ref q1, .int (nI g), .ref q3, .ref q4, .ref q5, .ref q6, .int 1, .int gr, .int kd, .long w10, .ref q11, .int mk, .long w13, .long w14])), (q3, .inl (cI, 800, .inl m3)), (q5, .inl (cI, 800, .inl m5)), (q6, .inl (cI, 2, .inl (jl [nI n, nI n2]))), (q11, .inl (cI, 24, .inl (jl [nI e0, nI e1, t2, nI f1, nI d0, nI d1, nI y0_6, nI y1_7, 0, 1, t10 + 1, t11, t12, t13, t14, t15, t16, t17, t18, t19, t20, t21, t22, t23])))], rfl, (by exact (Or.inl ⟨_, _, _, _, _, _, _, _, _, _, _, rfl, rfl, by omega, by omega, by omega, by omega, by omega, by omega, by omega⟩)), by rw [ht]; exact hP, hD⟩, hS.F ht⟩) hS.2.2 dX6_next_51
  · have hP : va_P D vwCl [(q3, .inl (cI, 800, .inl m3)), (q5, .inl (cI, 800, .inl m5)), (q6, .inl (cI, 2, .inl (jl [nI n, nI n2]))), (mo, .inr (6, [.int 0, .ref q1, .int (nI g), .ref q3, .ref q4, .ref q5, .ref q6, .int 1, .int gr, .int kd, .long w10, .ref q11, .int mk, .long w13, .long w14])), (q11, .inl (cI, 24, .inl (jl [nI e0, nI e1, t2, nI f1, nI d0, nI d1, nI y0_10, nI y1_11, 0, 1, t10, t11, t12, t13, t14, t15, t16, t17, t18, t19, t20, t21, t22, t23])))] H := hP
    have hD : va_D A [(q3, .inl (cI, 800, .inl m3)), (q5, .inl (cI, 800, .inl m5)), (q6, .inl (cI, 2, .inl (jl [nI n, nI n2]))), (mo, .inr (6, [.int 0, .ref q1, .int (nI g), .ref q3, .ref q4, .ref q5, .ref q6, .int 1, .int gr, .int kd, .long w10, .ref q11, .int mk, .long w13, .long w14])), (q11, .inl (cI, 24, .inl (jl [nI e0, nI e1, t2, nI f1, nI d0, nI d1, nI y0_10, nI y1_11, 0, 1, t10, t11, t12, t13, t14, t15, t16, t17, t18, t19, t20, t21, t22, t23])))] := hD
    refine lv_if_eq (tgt := 52) hx hb dX6_next_36 (by decide) (fun c_13 => ?_) (fun c_13 => absurd c_13 (by decide))
    refine lv_aload_n hx hb dX6_next_52 rfl (lv_at hl 0 rfl) ?_
    refine va_get (D := D) (ci := 6) (v := .ref q11) (C := RX6) (T := TX6) (N := 15) hx hb hts (by decide +kernel) hown hK hP 3 rfl rfl 11 (by decide) (hts (.fieldLink RX6 25 "JoinDeskModel" "at" "[I") (by decide +kernel)) (fun _ h9 => h9) rfl dX6_next_53 ?_
    refine lv_bipush (v := 9) hx hb dX6_next_56 (by decide) ?_
    refine lv_iconst (v := 0) hx hb dX6_next_58 (by decide) ?_
    refine va_iast hx hb hK hP hD hS 4 0 rfl rfl (by unfold vp_in; decide) dX6_next_59 (fun H locs hP hD hS => ?_)
    rw [jl_upd (show (9 : Int32).toNatClampNeg = 9 by decide) (Nat.le_of_ble_eq_true rfl)] at hP hD
    have hP : va_P D vwCl [(q3, .inl (cI, 800, .inl m3)), (q5, .inl (cI, 800, .inl m5)), (q6, .inl (cI, 2, .inl (jl [nI n, nI n2]))), (mo, .inr (6, [.int 0, .ref q1, .int (nI g), .ref q3, .ref q4, .ref q5, .ref q6, .int 1, .int gr, .int kd, .long w10, .ref q11, .int mk, .long w13, .long w14])), (q11, .inl (cI, 24, .inl (jl [nI e0, nI e1, t2, nI f1, nI d0, nI d1, nI y0_10, nI y1_11, 0, 0, t10, t11, t12, t13, t14, t15, t16, t17, t18, t19, t20, t21, t22, t23])))] H := hP
    have hD : va_D A [(q3, .inl (cI, 800, .inl m3)), (q5, .inl (cI, 800, .inl m5)), (q6, .inl (cI, 2, .inl (jl [nI n, nI n2]))), (mo, .inr (6, [.int 0, .ref q1, .int (nI g), .ref q3, .ref q4, .ref q5, .ref q6, .int 1, .int gr, .int kd, .long w10, .ref q11, .int mk, .long w13, .long w14])), (q11, .inl (cI, 24, .inl (jl [nI e0, nI e1, t2, nI f1, nI d0, nI d1, nI y0_10, nI y1_11, 0, 0, t10, t11, t12, t13, t14, t15, t16, t17, t18, t19, t20, t21, t22, t23])))] := hD
    have hP := hP.sub (ws' := [(mo, .inr (6, [.int 0, .ref q1, .int (nI g), .ref q3, .ref q4, .ref q5, .ref q6, .int 1, .int gr, .int kd, .long w10, .ref q11, .int mk, .long w13, .long w14])), (q3, .inl (cI, 800, .inl m3)), (q5, .inl (cI, 800, .inl m5)), (q6, .inl (cI, 2, .inl (jl [nI n, nI n2]))), (q11, .inl (cI, 24, .inl (jl [nI e0, nI e1, t2, nI f1, nI d0, nI d1, nI y0_10, nI y1_11, 0, 0, t10, t11, t12, t13, t14, t15, t16, t17, t18, t19, t20, t21, t22, t23])))]) [3, 0, 1, 2, 4] rfl
    have hD := hD.sub (ws' := [(mo, .inr (6, [.int 0, .ref q1, .int (nI g), .ref q3, .ref q4, .ref q5, .ref q6, .int 1, .int gr, .int kd, .long w10, .ref q11, .int mk, .long w13, .long w14])), (q3, .inl (cI, 800, .inl m3)), (q5, .inl (cI, 800, .inl m5)), (q6, .inl (cI, 2, .inl (jl [nI n, nI n2]))), (q11, .inl (cI, 24, .inl (jl [nI e0, nI e1, t2, nI f1, nI d0, nI d1, nI y0_10, nI y1_11, 0, 0, t10, t11, t12, t13, t14, t15, t16, t17, t18, t19, t20, t21, t22, t23])))]) [3, 0, 1, 2, 4] (by decide) rfl
    have hloop_1 : ∀ (k_1 : Nat) (b0 : Nat) (b1 : Nat) (l2 : Int32) (l3 : Int32) (l4 : Int32) (l5 : Int32) (l6 : Int32) (l7 : Int32) (l8 : Int32) (l10 : Int32) (l11 : Int32) (wl : Int64), (n - b0) + (n2 - b1) < k_1 → (b0 ≤ 400) → (b1 ≤ 400) → ∀ (H : Heap) (locs : List Loc), va_P D vwCl [(mo, .inr (6, [.int 0, .ref q1, .int (nI g), .ref q3, .ref q4, .ref q5, .ref q6, .int 1, .int gr, .int kd, .long wl, .ref q11, .int mk, .long w13, .long w14])), (q3, .inl (cI, 800, .inl m3)), (q5, .inl (cI, 800, .inl m5)), (q6, .inl (cI, 2, .inl (jl [nI n, nI n2]))), (q11, .inl (cI, 24, .inl (jl [nI b0, nI b1, l2, l3, l4, l5, l6, l7, l8, 0, l10, l11, t12, t13, t14, t15, t16, t17, t18, t19, t20, t21, t22, t23])))] H → va_D A [(mo, .inr (6, [.int 0, .ref q1, .int (nI g), .ref q3, .ref q4, .ref q5, .ref q6, .int 1, .int gr, .int kd, .long wl, .ref q11, .int mk, .long w13, .long w14])), (q3, .inl (cI, 800, .inl m3)), (q5, .inl (cI, 800, .inl m5)), (q6, .inl (cI, 2, .inl (jl [nI n, nI n2]))), (q11, .inl (cI, 24, .inl (jl [nI b0, nI b1, l2, l3, l4, l5, l6, l7, l8, 0, l10, l11, t12, t13, t14, t15, t16, t17, t18, t19, t20, t21, t22, t23])))] → va_S A s.heap H locs → ∀ ls : Array Slot, lv_has ls 5 [(0, .ref mo)] → W p l e (headSpec wsX6_next ({ frames := 2, cells := 0, slots := 0, locals := 45 })).room s m #[.ref mo] below meth c H locs 0 0 (MQ below (va_Qi (fun (r : Int32) (u : va_W) => (∃ (d0x : Nat) (d1x : Nat) (e0x : Nat) (e1x : Nat) (f1x : Nat) (r0x : Nat) (r1x : Nat) (j10 : Int32) (j11 : Int32) (j2 : Int32) (wx : Int64), r = 1 ∧ u = [(mo, .inr (6, [.int 0, .ref q1, .int (nI g), .ref q3, .ref q4, .ref q5, .ref q6, .int 1, .int gr, .int kd, .long wx, .ref q11, .int mk, .long w13, .long w14])), (q3, .inl (cI, 800, .inl m3)), (q5, .inl (cI, 800, .inl m5)), (q6, .inl (cI, 2, .inl (jl [nI n, nI n2]))), (q11, .inl (cI, 24, .inl (jl [nI e0x, nI e1x, j2, nI f1x, nI d0x, nI d1x, nI r0x, nI r1x, 0, 1, j10, j11, t12, t13, t14, t15, t16, t17, t18, t19, t20, t21, t22, t23])))] ∧ (e0x ≤ 400) ∧ (e1x ≤ 400) ∧ (f1x < d1x) ∧ (r0x < d0x) ∧ (r1x < d1x) ∧ (d0x ≤ 400) ∧ (d1x ≤ 400)) ∨ (∃ (d0x : Nat) (e0x : Nat) (e1x : Nat) (r0x : Nat) (j10 : Int32) (j11 : Int32) (j2 : Int32) (j3 : Int32) (j5 : Int32) (j7 : Int32) (wx : Int64), r = 1 ∧ u = [(mo, .inr (6, [.int 0, .ref q1, .int (nI g), .ref q3, .ref q4, .ref q5, .ref q6, .int 1, .int gr, .int kd, .long wx, .ref q11, .int mk, .long w13, .long w14])), (q3, .inl (cI, 800, .inl m3)), (q5, .inl (cI, 800, .inl m5)), (q6, .inl (cI, 2, .inl (jl [nI n, nI n2]))), (q11, .inl (cI, 24, .inl (jl [nI e0x, nI e1x, j2, j3, nI d0x, j5, nI r0x, j7, 1, 1, j10, j11, t12, t13, t14, t15, t16, t17, t18, t19, t20, t21, t22, t23])))] ∧ (e0x ≤ 400) ∧ (e1x ≤ 400) ∧ (r0x < d0x) ∧ (d0x ≤ 400)) ∨ (∃ (d1x : Nat) (e0x : Nat) (e1x : Nat) (r1x : Nat) (j10 : Int32) (j11 : Int32) (j2 : Int32) (j3 : Int32) (j4 : Int32) (j6 : Int32) (wx : Int64), r = 1 ∧ u = [(mo, .inr (6, [.int 0, .ref q1, .int (nI g), .ref q3, .ref q4, .ref q5, .ref q6, .int 1, .int gr, .int kd, .long wx, .ref q11, .int mk, .long w13, .long w14])), (q3, .inl (cI, 800, .inl m3)), (q5, .inl (cI, 800, .inl m5)), (q6, .inl (cI, 2, .inl (jl [nI n, nI n2]))), (q11, .inl (cI, 24, .inl (jl [nI e0x, nI e1x, j2, j3, j4, nI d1x, j6, nI r1x, 2, 1, j10, j11, t12, t13, t14, t15, t16, t17, t18, t19, t20, t21, t22, t23])))] ∧ (e0x ≤ 400) ∧ (e1x ≤ 400) ∧ (r1x < d1x) ∧ (d1x ≤ 400)) ∨ (∃ (e0x : Nat) (e1x : Nat) (j10 : Int32) (j11 : Int32) (j2 : Int32) (j3 : Int32) (j4 : Int32) (j5 : Int32) (j6 : Int32) (j7 : Int32) (j8 : Int32) (wx : Int64), r = 0 ∧ u = [(mo, .inr (6, [.int 0, .ref q1, .int (nI g), .ref q3, .ref q4, .ref q5, .ref q6, .int 1, .int gr, .int kd, .long wx, .ref q11, .int mk, .long w13, .long w14])), (q3, .inl (cI, 800, .inl m3)), (q5, .inl (cI, 800, .inl m5)), (q6, .inl (cI, 2, .inl (jl [nI n, nI n2]))), (q11, .inl (cI, 24, .inl (jl [nI e0x, nI e1x, j2, j3, j4, j5, j6, j7, j8, 0, j10, j11, t12, t13, t14, t15, t16, t17, t18, t19, t20, t21, t22, t23])))] ∧ (e0x ≤ 400) ∧ (e1x ≤ 400))) (jw_B D vwCl A (fun u : va_W => u)) A) #[.ref mo] s 0 0 A) (F0 m 60 ls []) := by
      intro k_1
      induction k_1 with
      | zero => exact fun _ _ _ _ _ _ _ _ _ _ _ _ hm => absurd hm (Nat.not_lt_zero _)
      | succ k_1 ih_1 =>
        intro b0 b1 l2 l3 l4 l5 l6 l7 l8 l10 l11 wl hm1 hb0 hb1 H locs hP hD hS ls hl
        refine lv_aload_n hx hb dX6_next_60 rfl (lv_at hl 0 rfl) ?_
        refine va_get (D := D) (ci := 6) (v := .ref q11) (C := RX6) (T := TX6) (N := 15) hx hb hts (by decide +kernel) hown hK hP 0 rfl rfl 11 (by decide) (hts (.fieldLink RX6 25 "JoinDeskModel" "at" "[I") (by decide +kernel)) (fun _ h9 => h9) rfl dX6_next_61 ?_
        refine lv_iconst (v := 0) hx hb dX6_next_64 (by decide) ?_
        refine va_iald hx hb hK hP 4 0 rfl rfl (by unfold vp_in; decide) dX6_next_65 ?_
        refine W.eq (g2 := F0 m 66 ls [.int (nI b0)]) rfl ?_
        refine lv_aload_n hx hb dX6_next_66 rfl (lv_at hl 0 rfl) ?_
        refine va_get (D := D) (ci := 6) (v := .ref q6) (C := RX6) (T := TX6) (N := 15) hx hb hts (by decide +kernel) hown hK hP 0 rfl rfl 6 (by decide) (hts (.fieldLink RX6 22 "JoinDeskModel" "many" "[I") (by decide +kernel)) (fun _ h9 => h9) rfl dX6_next_67 ?_
        refine lv_iconst (v := 0) hx hb dX6_next_70 (by decide) ?_
        refine va_iald hx hb hK hP 3 0 rfl rfl (by unfold vp_in; decide) dX6_next_71 ?_
        refine W.eq (g2 := F0 m 72 ls [.int (nI n), .int (nI b0)]) rfl ?_
        refine lv_icmp_lt (tgt := 90) hx hb dX6_next_72 (by decide) (fun cl0 => ?_) (fun cl0 => ?_)
        · refine lv_aload_n hx hb dX6_next_90 rfl (lv_at hl 0 rfl) ?_
          refine va_get (D := D) (ci := 6) (v := .ref q11) (C := RX6) (T := TX6) (N := 15) hx hb hts (by decide +kernel) hown hK hP 0 rfl rfl 11 (by decide) (hts (.fieldLink RX6 25 "JoinDeskModel" "at" "[I") (by decide +kernel)) (fun _ h9 => h9) rfl dX6_next_91 ?_
          refine lv_iconst (v := 0) hx hb dX6_next_94 (by decide) ?_
          refine va_iald hx hb hK hP 4 0 rfl rfl (by unfold vp_in; decide) dX6_next_95 ?_
          refine W.eq (g2 := F0 m 96 ls [.int (nI b0)]) rfl ?_
          refine lv_aload_n hx hb dX6_next_96 rfl (lv_at hl 0 rfl) ?_
          refine va_get (D := D) (ci := 6) (v := .ref q6) (C := RX6) (T := TX6) (N := 15) hx hb hts (by decide +kernel) hown hK hP 0 rfl rfl 6 (by decide) (hts (.fieldLink RX6 22 "JoinDeskModel" "many" "[I") (by decide +kernel)) (fun _ h9 => h9) rfl dX6_next_97 ?_
          refine lv_iconst (v := 0) hx hb dX6_next_100 (by decide) ?_
          refine va_iald hx hb hK hP 3 0 rfl rfl (by unfold vp_in; decide) dX6_next_101 ?_
          refine W.eq (g2 := F0 m 102 ls [.int (nI n), .int (nI b0)]) rfl ?_
          refine lv_icmp_ge (tgt := 109) hx hb dX6_next_102 (by decide) (fun cl1 => absurd cl1 (by exact j_nle cl0)) (fun cl1 => ?_)
          refine lv_iconst (v := 1) hx hb dX6_next_105 (by decide) ?_
          refine lv_goto (tgt := 110) hx hb dX6_next_106 (by decide) ?_
          refine lv_istore_n (lv' := [(1, .int 1), (0, .ref mo)]) hx hb dX6_next_110 rfl hl (by decide) rfl (fun ls hl => ?_)
          refine lv_aload_n hx hb dX6_next_111 rfl (lv_at hl 1 rfl) ?_
          refine va_get (D := D) (ci := 6) (v := .ref q11) (C := RX6) (T := TX6) (N := 15) hx hb hts (by decide +kernel) hown hK hP 0 rfl rfl 11 (by decide) (hts (.fieldLink RX6 25 "JoinDeskModel" "at" "[I") (by decide +kernel)) (fun _ h9 => h9) rfl dX6_next_112 ?_
          refine lv_iconst (v := 1) hx hb dX6_next_115 (by decide) ?_
          refine va_iald hx hb hK hP 4 0 rfl rfl (by unfold vp_in; decide) dX6_next_116 ?_
          refine W.eq (g2 := F0 m 117 ls [.int (nI b1)]) rfl ?_
          refine lv_aload_n hx hb dX6_next_117 rfl (lv_at hl 1 rfl) ?_
          refine va_get (D := D) (ci := 6) (v := .ref q6) (C := RX6) (T := TX6) (N := 15) hx hb hts (by decide +kernel) hown hK hP 0 rfl rfl 6 (by decide) (hts (.fieldLink RX6 22 "JoinDeskModel" "many" "[I") (by decide +kernel)) (fun _ h9 => h9) rfl dX6_next_118 ?_
          refine lv_iconst (v := 1) hx hb dX6_next_121 (by decide) ?_
          refine va_iald hx hb hK hP 3 0 rfl rfl (by unfold vp_in; decide) dX6_next_122 ?_
          refine W.eq (g2 := F0 m 123 ls [.int (nI n2), .int (nI b1)]) rfl ?_
          refine lv_icmp_ge (tgt := 130) hx hb dX6_next_123 (by decide) (fun cr1 => ?_) (fun cr1 => ?_)
          · refine lv_iconst (v := 0) hx hb dX6_next_130 (by decide) ?_
            refine lv_istore_n (lv' := [(2, .int 0), (1, .int 1), (0, .ref mo)]) hx hb dX6_next_131 rfl hl (by decide) rfl (fun ls hl => ?_)
            refine lv_iload_n hx hb dX6_next_132 rfl (lv_at hl 1 rfl) ?_
            refine lv_if_eq (tgt := 201) hx hb dX6_next_133 (by decide) (fun c_14 => absurd c_14 (by decide)) (fun c_14 => ?_)
            refine lv_iload_n hx hb dX6_next_136 rfl (lv_at hl 0 rfl) ?_
            refine lv_if_eq (tgt := 201) hx hb dX6_next_137 (by decide) (fun c_15 => ?_) (fun c_15 => absurd c_15 (by decide))
            refine lv_iload_n hx hb dX6_next_201 rfl (lv_at hl 1 rfl) ?_
            refine lv_if_eq (tgt := 210) hx hb dX6_next_202 (by decide) (fun c_16 => absurd c_16 (by decide)) (fun c_16 => ?_)
            refine lv_aload_n hx hb dX6_next_205 rfl (lv_at hl 2 rfl) ?_
            refine lv_iconst (v := 0) hx hb dX6_next_206 (by decide) ?_
            refine jw_v (wr := []) (va_runV (As := [.int 0]) (rest := []) ⟨hx, hb, hml, hown, hts⟩ (gM_goes_0 l D cI cL cQ mo g n n2 q1 q3 q4 q5 q6 q11 0 1 gr kd mk wl w13 w14 m3 m5 (nI b1) l2 l3 l4 l5 l6 l7 l8 0 l10 l11 t12 t13 t14 t15 t16 t17 t18 t19 t20 t21 t22 t23 b0 _ (by first | assumption | decide | omega) (by first | assumption | decide | omega) (by rw [nI_leI (by omega) (by omega)] at cl1; omega)) (cwV 1 hts gX6_next_X6_goes rfl rfl rfl (by decide +kernel) ⟨Nat.le_of_ble_eq_true rfl, Nat.le_of_ble_eq_true rfl⟩) (jw_V hK hN hP hD [0, 1, 2, 3, 4] (by decide) rfl 6 0 rfl rfl rfl) rfl rfl hl.1 rfl (lv_room (Nat.le_of_ble_eq_true rfl)) dX6_next_207 ⟨Nat.le_of_ble_eq_true rfl, Nat.le_of_ble_eq_true rfl⟩) hP hD hS hA [0, 1, 2, 3, 4] [] rfl rfl (by decide) (by decide) (fun u H locs f_17 hP hD hS => ?_)
            obtain ⟨to9_18, w9_19, rfl, f_20, f_21⟩ := f_17
            have hP : va_P D vwCl [(mo, .inr (6, [.int 0, .ref q1, .int (nI g), .ref q3, .ref q4, .ref q5, .ref q6, .int 1, .int gr, .int kd, .long w9_19, .ref q11, .int mk, .long w13, .long w14])), (q3, .inl (cI, 800, .inl m3)), (q5, .inl (cI, 800, .inl m5)), (q6, .inl (cI, 2, .inl (jl [nI n, nI n2]))), (q11, .inl (cI, 24, .inl (jl [nI to9_18, (nI b1), nI b0, l3, nI to9_18, l5, nI b0, l7, l8, 0, l10, l11, t12, t13, t14, t15, t16, t17, t18, t19, t20, t21, t22, t23])))] H := hP
            have hD : va_D A [(mo, .inr (6, [.int 0, .ref q1, .int (nI g), .ref q3, .ref q4, .ref q5, .ref q6, .int 1, .int gr, .int kd, .long w9_19, .ref q11, .int mk, .long w13, .long w14])), (q3, .inl (cI, 800, .inl m3)), (q5, .inl (cI, 800, .inl m5)), (q6, .inl (cI, 2, .inl (jl [nI n, nI n2]))), (q11, .inl (cI, 24, .inl (jl [nI to9_18, (nI b1), nI b0, l3, nI to9_18, l5, nI b0, l7, l8, 0, l10, l11, t12, t13, t14, t15, t16, t17, t18, t19, t20, t21, t22, t23])))] := hD
            refine lv_iload_n hx hb dX6_next_210 rfl (lv_at hl 0 rfl) ?_
            refine lv_if_eq (tgt := 219) hx hb dX6_next_211 (by decide) (fun c_22 => ?_) (fun c_22 => absurd c_22 (by decide))
            refine lv_aload_n hx hb dX6_next_219 rfl (lv_at hl 2 rfl) ?_
            refine va_get (D := D) (ci := 6) (v := .ref q11) (C := RX6) (T := TX6) (N := 15) hx hb hts (by decide +kernel) hown hK hP 0 rfl rfl 11 (by decide) (hts (.fieldLink RX6 25 "JoinDeskModel" "at" "[I") (by decide +kernel)) (fun _ h9 => h9) rfl dX6_next_220 ?_
            refine lv_bipush (v := 8) hx hb dX6_next_223 (by decide) ?_
            refine lv_iload_n hx hb dX6_next_225 rfl (lv_at hl 1 rfl) ?_
            refine lv_if_eq (tgt := 237) hx hb dX6_next_226 (by decide) (fun c_23 => absurd c_23 (by decide)) (fun c_23 => ?_)
            refine lv_iload_n hx hb dX6_next_229 rfl (lv_at hl 0 rfl) ?_
            refine lv_if_eq (tgt := 237) hx hb dX6_next_230 (by decide) (fun c_24 => ?_) (fun c_24 => absurd c_24 (by decide))
            refine lv_iload_n hx hb dX6_next_237 rfl (lv_at hl 1 rfl) ?_
            refine lv_if_eq (tgt := 245) hx hb dX6_next_238 (by decide) (fun c_25 => absurd c_25 (by decide)) (fun c_25 => ?_)
            refine lv_iconst (v := 1) hx hb dX6_next_241 (by decide) ?_
            refine lv_goto (tgt := 246) hx hb dX6_next_242 (by decide) ?_
            refine va_iast hx hb hK hP hD hS 4 0 rfl rfl (by unfold vp_in; decide) dX6_next_246 (fun H locs hP hD hS => ?_)
            rw [jl_upd (show (8 : Int32).toNatClampNeg = 8 by decide) (Nat.le_of_ble_eq_true rfl)] at hP hD
            have hP : va_P D vwCl [(mo, .inr (6, [.int 0, .ref q1, .int (nI g), .ref q3, .ref q4, .ref q5, .ref q6, .int 1, .int gr, .int kd, .long w9_19, .ref q11, .int mk, .long w13, .long w14])), (q3, .inl (cI, 800, .inl m3)), (q5, .inl (cI, 800, .inl m5)), (q6, .inl (cI, 2, .inl (jl [nI n, nI n2]))), (q11, .inl (cI, 24, .inl (jl [nI to9_18, (nI b1), nI b0, l3, nI to9_18, l5, nI b0, l7, 1, 0, l10, l11, t12, t13, t14, t15, t16, t17, t18, t19, t20, t21, t22, t23])))] H := hP
            have hD : va_D A [(mo, .inr (6, [.int 0, .ref q1, .int (nI g), .ref q3, .ref q4, .ref q5, .ref q6, .int 1, .int gr, .int kd, .long w9_19, .ref q11, .int mk, .long w13, .long w14])), (q3, .inl (cI, 800, .inl m3)), (q5, .inl (cI, 800, .inl m5)), (q6, .inl (cI, 2, .inl (jl [nI n, nI n2]))), (q11, .inl (cI, 24, .inl (jl [nI to9_18, (nI b1), nI b0, l3, nI to9_18, l5, nI b0, l7, 1, 0, l10, l11, t12, t13, t14, t15, t16, t17, t18, t19, t20, t21, t22, t23])))] := hD
            refine lv_aload_n hx hb dX6_next_247 rfl (lv_at hl 2 rfl) ?_
            refine va_get (D := D) (ci := 6) (v := .int kd) (C := RX6) (T := TX6) (N := 15) hx hb hts (by decide +kernel) hown hK hP 0 rfl rfl 9 (by decide) (hts (.fieldLink RX6 60 "JoinDeskModel" "kind" "I") (by decide +kernel)) (fun _ h9 => h9) rfl dX6_next_248 ?_
            refine lv_aload_n hx hb dX6_next_251 rfl (lv_at hl 2 rfl) ?_
            refine va_get (D := D) (ci := 6) (v := .ref q11) (C := RX6) (T := TX6) (N := 15) hx hb hts (by decide +kernel) hown hK hP 0 rfl rfl 11 (by decide) (hts (.fieldLink RX6 25 "JoinDeskModel" "at" "[I") (by decide +kernel)) (fun _ h9 => h9) rfl dX6_next_252 ?_
            refine lv_bipush (v := 8) hx hb dX6_next_255 (by decide) ?_
            refine va_iald hx hb hK hP 4 0 rfl rfl (by unfold vp_in; decide) dX6_next_257 ?_
            refine W.eq (g2 := F0 m 258 ls [.int 1, .int kd]) rfl ?_
            refine vp_callSi (va_Run.run (va_runS (As := [.int kd, .int 1]) (rest := []) ⟨hx, hb, hml, hown, hts⟩ (gM_tells_1 l D cI cL cQ kd (by first | assumption | decide | omega)) (va_cwS 2 hts gX6_next_X6_tells rfl rfl rfl (by decide +kernel) ⟨Nat.le_of_ble_eq_true rfl, Nat.le_of_ble_eq_true rfl⟩) (jr_S hK hN hP [] rfl) rfl rfl hl.1 rfl (lv_room (Nat.le_of_ble_eq_true rfl)) dX6_next_258 ⟨Nat.le_of_ble_eq_true rfl, Nat.le_of_ble_eq_true rfl⟩)) (fun r f_26 => ?_)
            rcases f_26 with ⟨rfl, f_27⟩ | ⟨rfl, f_28⟩
            · refine lv_if_eq (tgt := 285) hx hb dX6_next_261 (by decide) (fun c_29 => absurd c_29 (by decide)) (fun c_29 => ?_)
              refine lv_aload_n hx hb dX6_next_264 rfl (lv_at hl 2 rfl) ?_
              refine va_get (D := D) (ci := 6) (v := .ref q11) (C := RX6) (T := TX6) (N := 15) hx hb hts (by decide +kernel) hown hK hP 0 rfl rfl 11 (by decide) (hts (.fieldLink RX6 25 "JoinDeskModel" "at" "[I") (by decide +kernel)) (fun _ h9 => h9) rfl dX6_next_265 ?_
              refine lv_bipush (v := 9) hx hb dX6_next_268 (by decide) ?_
              refine lv_iconst (v := 1) hx hb dX6_next_270 (by decide) ?_
              refine va_iast hx hb hK hP hD hS 4 0 rfl rfl (by unfold vp_in; decide) dX6_next_271 (fun H locs hP hD hS => ?_)
              rw [jl_upd (show (9 : Int32).toNatClampNeg = 9 by decide) (Nat.le_of_ble_eq_true rfl)] at hP hD
              have hP : va_P D vwCl [(mo, .inr (6, [.int 0, .ref q1, .int (nI g), .ref q3, .ref q4, .ref q5, .ref q6, .int 1, .int gr, .int kd, .long w9_19, .ref q11, .int mk, .long w13, .long w14])), (q3, .inl (cI, 800, .inl m3)), (q5, .inl (cI, 800, .inl m5)), (q6, .inl (cI, 2, .inl (jl [nI n, nI n2]))), (q11, .inl (cI, 24, .inl (jl [nI to9_18, (nI b1), nI b0, l3, nI to9_18, l5, nI b0, l7, 1, 1, l10, l11, t12, t13, t14, t15, t16, t17, t18, t19, t20, t21, t22, t23])))] H := hP
              have hD : va_D A [(mo, .inr (6, [.int 0, .ref q1, .int (nI g), .ref q3, .ref q4, .ref q5, .ref q6, .int 1, .int gr, .int kd, .long w9_19, .ref q11, .int mk, .long w13, .long w14])), (q3, .inl (cI, 800, .inl m3)), (q5, .inl (cI, 800, .inl m5)), (q6, .inl (cI, 2, .inl (jl [nI n, nI n2]))), (q11, .inl (cI, 24, .inl (jl [nI to9_18, (nI b1), nI b0, l3, nI to9_18, l5, nI b0, l7, 1, 1, l10, l11, t12, t13, t14, t15, t16, t17, t18, t19, t20, t21, t22, t23])))] := hD
              refine lv_aload_n hx hb dX6_next_272 rfl (lv_at hl 2 rfl) ?_
              refine va_get (D := D) (ci := 6) (v := .ref q11) (C := RX6) (T := TX6) (N := 15) hx hb hts (by decide +kernel) hown hK hP 0 rfl rfl 11 (by decide) (hts (.fieldLink RX6 25 "JoinDeskModel" "at" "[I") (by decide +kernel)) (fun _ h9 => h9) rfl dX6_next_273 ?_
              refine lv_bipush (v := 10) hx hb dX6_next_276 (by decide) ?_
              refine lv_dup2_11 hx hb dX6_next_278 rfl rfl ?_
              refine va_iald hx hb hK hP 4 0 rfl rfl (by unfold vp_in; decide) dX6_next_279 ?_
              refine W.eq (g2 := F0 m 280 ls [.int l10, .int 10, .ref q11]) rfl ?_
              refine lv_iconst (v := 1) hx hb dX6_next_280 (by decide) ?_
              refine lv_iadd hx hb dX6_next_281 ?_
              refine va_iast hx hb hK hP hD hS 4 0 rfl rfl (by unfold vp_in; decide) dX6_next_282 (fun H locs hP hD hS => ?_)
              rw [jl_upd (show (10 : Int32).toNatClampNeg = 10 by decide) (Nat.le_of_ble_eq_true rfl)] at hP hD
              have hP : va_P D vwCl [(mo, .inr (6, [.int 0, .ref q1, .int (nI g), .ref q3, .ref q4, .ref q5, .ref q6, .int 1, .int gr, .int kd, .long w9_19, .ref q11, .int mk, .long w13, .long w14])), (q3, .inl (cI, 800, .inl m3)), (q5, .inl (cI, 800, .inl m5)), (q6, .inl (cI, 2, .inl (jl [nI n, nI n2]))), (q11, .inl (cI, 24, .inl (jl [nI to9_18, (nI b1), nI b0, l3, nI to9_18, l5, nI b0, l7, 1, 1, l10 + 1, l11, t12, t13, t14, t15, t16, t17, t18, t19, t20, t21, t22, t23])))] H := hP
              have hD : va_D A [(mo, .inr (6, [.int 0, .ref q1, .int (nI g), .ref q3, .ref q4, .ref q5, .ref q6, .int 1, .int gr, .int kd, .long w9_19, .ref q11, .int mk, .long w13, .long w14])), (q3, .inl (cI, 800, .inl m3)), (q5, .inl (cI, 800, .inl m5)), (q6, .inl (cI, 2, .inl (jl [nI n, nI n2]))), (q11, .inl (cI, 24, .inl (jl [nI to9_18, (nI b1), nI b0, l3, nI to9_18, l5, nI b0, l7, 1, 1, l10 + 1, l11, t12, t13, t14, t15, t16, t17, t18, t19, t20, t21, t22, t23])))] := hD
              refine lv_iconst (v := 1) hx hb dX6_next_283 (by decide) ?_
              refine W.widen (k := 0) (n := 0) (by omega) (by omega) ?_
              exact W.zret (v := 1) (ty := .boolean) hx hb hr rfl (fun t ht hW => ⟨⟨1, [(mo, .inr (6, [.int 0, .ref q1, .int (nI g), .ref q3, .ref q4, .ref q5, .ref q6, .int 1, .int gr, .int kd, .long w9_19, .ref q11, .int mk, .long w13, .long w14])), (q3, .inl (cI, 800, .inl m3)), (q5, .inl (cI, 800, .inl m5)), (q6, .inl (cI, 2, .inl (jl [nI n, nI n2]))), (q11, .inl (cI, 24, .inl (jl [nI to9_18, (nI b1), nI b0, l3, nI to9_18, l5, nI b0, l7, 1, 1, l10 + 1, l11, t12, t13, t14, t15, t16, t17, t18, t19, t20, t21, t22, t23])))], rfl, (by exact (Or.inr (Or.inl ⟨_, _, _, _, _, _, _, _, _, _, _, rfl, rfl, by omega, by omega, by omega, by omega⟩))), by rw [ht]; exact hP, hD⟩, hS.F ht⟩) hS.2.2 dX6_next_284
            · refine lv_if_eq (tgt := 285) hx hb dX6_next_261 (by decide) (fun c_30 => ?_) (fun c_30 => absurd c_30 (by decide))
              refine lv_goto (tgt := 60) hx hb dX6_next_285 (by decide) ?_
              exact ih_1 to9_18 b1 (nI b0) l3 (nI to9_18) l5 (nI b0) l7 1 l10 l11 w9_19 (by omega) (by omega) (by omega) _ _ hP hD hS ls (lv_sub hl [2] rfl)
          · refine lv_iconst (v := 1) hx hb dX6_next_126 (by decide) ?_
            refine lv_goto (tgt := 131) hx hb dX6_next_127 (by decide) ?_
            refine lv_istore_n (lv' := [(2, .int 1), (1, .int 1), (0, .ref mo)]) hx hb dX6_next_131 rfl hl (by decide) rfl (fun ls hl => ?_)
            refine lv_iload_n hx hb dX6_next_132 rfl (lv_at hl 1 rfl) ?_
            refine lv_if_eq (tgt := 201) hx hb dX6_next_133 (by decide) (fun c_31 => absurd c_31 (by decide)) (fun c_31 => ?_)
            refine lv_iload_n hx hb dX6_next_136 rfl (lv_at hl 0 rfl) ?_
            refine lv_if_eq (tgt := 201) hx hb dX6_next_137 (by decide) (fun c_32 => absurd c_32 (by decide)) (fun c_32 => ?_)
            refine lv_aload_n hx hb dX6_next_140 rfl (lv_at hl 2 rfl) ?_
            refine lv_iconst (v := 0) hx hb dX6_next_141 (by decide) ?_
            refine lv_aload_n hx hb dX6_next_142 rfl (lv_at hl 2 rfl) ?_
            refine va_get (D := D) (ci := 6) (v := .ref q11) (C := RX6) (T := TX6) (N := 15) hx hb hts (by decide +kernel) hown hK hP 0 rfl rfl 11 (by decide) (hts (.fieldLink RX6 25 "JoinDeskModel" "at" "[I") (by decide +kernel)) (fun _ h9 => h9) rfl dX6_next_143 ?_
            refine lv_iconst (v := 0) hx hb dX6_next_146 (by decide) ?_
            refine va_iald hx hb hK hP 4 0 rfl rfl (by unfold vp_in; decide) dX6_next_147 ?_
            refine W.eq (g2 := F0 m 148 ls [.int (nI b0), .int 0, .ref mo]) rfl ?_
            refine vp_callSi (va_Run.run (va_runV (As := [.int 0, .int (nI b0)]) (rest := []) ⟨hx, hb, hml, hown, hts⟩ (gM_key_0 l D cI cL cQ mo g q1 q3 q4 q5 q6 q11 0 1 gr kd mk wl w13 w14 m3 m5 b0 (by first | assumption | decide | omega) (by rw [nI_leI (by omega) (by omega)] at cl1; omega)) (cwV 2 hts gX6_next_X6_key rfl rfl rfl (by decide +kernel) ⟨Nat.le_of_ble_eq_true rfl, Nat.le_of_ble_eq_true rfl⟩) (jr_V hK hN hP [0, 1, 2] rfl 6 0 rfl rfl rfl) rfl rfl hl.1 rfl (lv_room (Nat.le_of_ble_eq_true rfl)) dX6_next_148 ⟨Nat.le_of_ble_eq_true rfl, Nat.le_of_ble_eq_true rfl⟩)) (fun r f_33 => ?_)
            obtain rfl := f_33
            refine lv_istore_n (lv' := [(3, .int (jmk 0 m3 m5 b0)), (2, .int 1), (1, .int 1), (0, .ref mo)]) hx hb dX6_next_151 rfl hl (by decide) rfl (fun ls hl => ?_)
            refine lv_aload_n hx hb dX6_next_152 rfl (lv_at hl 3 rfl) ?_
            refine lv_iconst (v := 1) hx hb dX6_next_153 (by decide) ?_
            refine lv_aload_n hx hb dX6_next_154 rfl (lv_at hl 3 rfl) ?_
            refine va_get (D := D) (ci := 6) (v := .ref q11) (C := RX6) (T := TX6) (N := 15) hx hb hts (by decide +kernel) hown hK hP 0 rfl rfl 11 (by decide) (hts (.fieldLink RX6 25 "JoinDeskModel" "at" "[I") (by decide +kernel)) (fun _ h9 => h9) rfl dX6_next_155 ?_
            refine lv_iconst (v := 1) hx hb dX6_next_158 (by decide) ?_
            refine va_iald hx hb hK hP 4 0 rfl rfl (by unfold vp_in; decide) dX6_next_159 ?_
            refine W.eq (g2 := F0 m 160 ls [.int (nI b1), .int 1, .ref mo]) rfl ?_
            refine vp_callSi (va_Run.run (va_runV (As := [.int 1, .int (nI b1)]) (rest := []) ⟨hx, hb, hml, hown, hts⟩ (gM_key_1 l D cI cL cQ mo g q1 q3 q4 q5 q6 q11 0 1 gr kd mk wl w13 w14 m3 m5 b1 (by first | assumption | decide | omega) (by rw [nI_leI (by omega) (by omega)] at cr1; omega)) (cwV 2 hts gX6_next_X6_key rfl rfl rfl (by decide +kernel) ⟨Nat.le_of_ble_eq_true rfl, Nat.le_of_ble_eq_true rfl⟩) (jr_V hK hN hP [0, 1, 2] rfl 6 0 rfl rfl rfl) rfl rfl hl.1 rfl (lv_room (Nat.le_of_ble_eq_true rfl)) dX6_next_160 ⟨Nat.le_of_ble_eq_true rfl, Nat.le_of_ble_eq_true rfl⟩)) (fun r f_34 => ?_)
            obtain rfl := f_34
            refine lv_istore (lv' := [(4, .int (jmk 400 m3 m5 b1)), (3, .int (jmk 0 m3 m5 b0)), (2, .int 1), (1, .int 1), (0, .ref mo)]) hx hb dX6_next_163 hl (by decide) rfl (fun ls hl => ?_)
            refine lv_aload_n hx hb dX6_next_165 rfl (lv_at hl 4 rfl) ?_
            refine lv_dup hx hb dX6_next_166 rfl ?_
            refine va_get (D := D) (ci := 6) (v := .long wl) (C := RX6) (T := TX6) (N := 15) hx hb hts (by decide +kernel) hown hK hP 0 rfl rfl 10 (by decide) (hts (.fieldLink RX6 53 "JoinDeskModel" "cells" "J") (by decide +kernel)) (fun _ h9 => h9) rfl dX6_next_167 ?_
            refine lv_ldc2 (v := (2)) hx hb hown (hts (.constantLong RX6 71 (2)) (by decide +kernel)) dX6_next_170 ?_
            refine lv_ladd hx hb dX6_next_173 ?_
            refine va_put (D := D) (ci := 6) (v := .long (wl + (2))) (ty := .long) (C := RX6) (T := TX6) (N := 15) hx hb hts (by decide +kernel) tyX6 tyX6_ok nmX6 hown hK hP hD hS 0 rfl rfl 10 (by decide) (hts (.fieldLink RX6 53 "JoinDeskModel" "cells" "J") (by decide +kernel)) (fun _ h9 => h9) rfl (by decide +kernel) rfl rfl (Nat.le_of_ble_eq_true rfl) dX6_next_174 (fun H locs hP hD hS => ?_)
            have hP : va_P D vwCl [(mo, .inr (6, [.int 0, .ref q1, .int (nI g), .ref q3, .ref q4, .ref q5, .ref q6, .int 1, .int gr, .int kd, .long (wl + (2)), .ref q11, .int mk, .long w13, .long w14])), (q3, .inl (cI, 800, .inl m3)), (q5, .inl (cI, 800, .inl m5)), (q6, .inl (cI, 2, .inl (jl [nI n, nI n2]))), (q11, .inl (cI, 24, .inl (jl [nI b0, nI b1, l2, l3, l4, l5, l6, l7, l8, 0, l10, l11, t12, t13, t14, t15, t16, t17, t18, t19, t20, t21, t22, t23])))] H := hP
            have hD : va_D A [(mo, .inr (6, [.int 0, .ref q1, .int (nI g), .ref q3, .ref q4, .ref q5, .ref q6, .int 1, .int gr, .int kd, .long (wl + (2)), .ref q11, .int mk, .long w13, .long w14])), (q3, .inl (cI, 800, .inl m3)), (q5, .inl (cI, 800, .inl m5)), (q6, .inl (cI, 2, .inl (jl [nI n, nI n2]))), (q11, .inl (cI, 24, .inl (jl [nI b0, nI b1, l2, l3, l4, l5, l6, l7, l8, 0, l10, l11, t12, t13, t14, t15, t16, t17, t18, t19, t20, t21, t22, t23])))] := hD
            refine lv_iload_n hx hb dX6_next_177 rfl (lv_at hl 1 rfl) ?_
            refine lv_iload hx hb dX6_next_178 (lv_at hl 0 rfl) ?_
            refine lv_icmp_gt (tgt := 187) hx hb dX6_next_180 (by decide) (fun ck => ?_) (fun ck => ?_)
            · refine lv_iconst (v := 0) hx hb dX6_next_187 (by decide) ?_
              refine lv_istore_n (lv' := [(1, .int 0), (4, .int (jmk 400 m3 m5 b1)), (3, .int (jmk 0 m3 m5 b0)), (2, .int 1), (0, .ref mo)]) hx hb dX6_next_188 rfl hl (by decide) rfl (fun ls hl => ?_)
              refine lv_iload hx hb dX6_next_189 (lv_at hl 1 rfl) ?_
              refine lv_iload_n hx hb dX6_next_191 rfl (lv_at hl 2 rfl) ?_
              refine lv_icmp_gt (tgt := 199) hx hb dX6_next_192 (by decide) (fun c_35 => absurd c_35 (by exact j_asym ck)) (fun c_35 => ?_)
              refine lv_iconst (v := 1) hx hb dX6_next_195 (by decide) ?_
              refine lv_goto (tgt := 200) hx hb dX6_next_196 (by decide) ?_
              refine lv_istore_n (lv' := [(2, .int 1), (1, .int 0), (4, .int (jmk 400 m3 m5 b1)), (3, .int (jmk 0 m3 m5 b0)), (0, .ref mo)]) hx hb dX6_next_200 rfl hl (by decide) rfl (fun ls hl => ?_)
              refine lv_iload_n hx hb dX6_next_201 rfl (lv_at hl 1 rfl) ?_
              refine lv_if_eq (tgt := 210) hx hb dX6_next_202 (by decide) (fun c_36 => ?_) (fun c_36 => absurd c_36 (by decide))
              refine lv_iload_n hx hb dX6_next_210 rfl (lv_at hl 0 rfl) ?_
              refine lv_if_eq (tgt := 219) hx hb dX6_next_211 (by decide) (fun c_37 => absurd c_37 (by decide)) (fun c_37 => ?_)
              refine lv_aload_n hx hb dX6_next_214 rfl (lv_at hl 4 rfl) ?_
              refine lv_iconst (v := 1) hx hb dX6_next_215 (by decide) ?_
              refine jw_v (wr := []) (va_runV (As := [.int 1]) (rest := []) ⟨hx, hb, hml, hown, hts⟩ (gM_goes_1 l D cI cL cQ mo g n n2 q1 q3 q4 q5 q6 q11 0 1 gr kd mk (wl + (2)) w13 w14 m3 m5 (nI b0) l2 l3 l4 l5 l6 l7 l8 0 l10 l11 t12 t13 t14 t15 t16 t17 t18 t19 t20 t21 t22 t23 b1 _ (by first | assumption | decide | omega) (by first | assumption | decide | omega) (by rw [nI_leI (by omega) (by omega)] at cr1; omega)) (cwV 1 hts gX6_next_X6_goes rfl rfl rfl (by decide +kernel) ⟨Nat.le_of_ble_eq_true rfl, Nat.le_of_ble_eq_true rfl⟩) (jw_V hK hN hP hD [0, 1, 2, 3, 4] (by decide) rfl 6 0 rfl rfl rfl) rfl rfl hl.1 rfl (lv_room (Nat.le_of_ble_eq_true rfl)) dX6_next_216 ⟨Nat.le_of_ble_eq_true rfl, Nat.le_of_ble_eq_true rfl⟩) hP hD hS hA [0, 1, 2, 3, 4] [] rfl rfl (by decide) (by decide) (fun u H locs f_38 hP hD hS => ?_)
              obtain ⟨to9_39, w9_40, rfl, f_41, f_42⟩ := f_38
              have hP : va_P D vwCl [(mo, .inr (6, [.int 0, .ref q1, .int (nI g), .ref q3, .ref q4, .ref q5, .ref q6, .int 1, .int gr, .int kd, .long w9_40, .ref q11, .int mk, .long w13, .long w14])), (q3, .inl (cI, 800, .inl m3)), (q5, .inl (cI, 800, .inl m5)), (q6, .inl (cI, 2, .inl (jl [nI n, nI n2]))), (q11, .inl (cI, 24, .inl (jl [(nI b0), nI to9_39, l2, nI b1, l4, nI to9_39, l6, nI b1, l8, 0, l10, l11, t12, t13, t14, t15, t16, t17, t18, t19, t20, t21, t22, t23])))] H := hP
              have hD : va_D A [(mo, .inr (6, [.int 0, .ref q1, .int (nI g), .ref q3, .ref q4, .ref q5, .ref q6, .int 1, .int gr, .int kd, .long w9_40, .ref q11, .int mk, .long w13, .long w14])), (q3, .inl (cI, 800, .inl m3)), (q5, .inl (cI, 800, .inl m5)), (q6, .inl (cI, 2, .inl (jl [nI n, nI n2]))), (q11, .inl (cI, 24, .inl (jl [(nI b0), nI to9_39, l2, nI b1, l4, nI to9_39, l6, nI b1, l8, 0, l10, l11, t12, t13, t14, t15, t16, t17, t18, t19, t20, t21, t22, t23])))] := hD
              refine lv_aload_n hx hb dX6_next_219 rfl (lv_at hl 4 rfl) ?_
              refine va_get (D := D) (ci := 6) (v := .ref q11) (C := RX6) (T := TX6) (N := 15) hx hb hts (by decide +kernel) hown hK hP 0 rfl rfl 11 (by decide) (hts (.fieldLink RX6 25 "JoinDeskModel" "at" "[I") (by decide +kernel)) (fun _ h9 => h9) rfl dX6_next_220 ?_
              refine lv_bipush (v := 8) hx hb dX6_next_223 (by decide) ?_
              refine lv_iload_n hx hb dX6_next_225 rfl (lv_at hl 1 rfl) ?_
              refine lv_if_eq (tgt := 237) hx hb dX6_next_226 (by decide) (fun c_43 => ?_) (fun c_43 => absurd c_43 (by decide))
              refine lv_iload_n hx hb dX6_next_237 rfl (lv_at hl 1 rfl) ?_
              refine lv_if_eq (tgt := 245) hx hb dX6_next_238 (by decide) (fun c_44 => ?_) (fun c_44 => absurd c_44 (by decide))
              refine lv_iconst (v := 2) hx hb dX6_next_245 (by decide) ?_
              refine va_iast hx hb hK hP hD hS 4 0 rfl rfl (by unfold vp_in; decide) dX6_next_246 (fun H locs hP hD hS => ?_)
              rw [jl_upd (show (8 : Int32).toNatClampNeg = 8 by decide) (Nat.le_of_ble_eq_true rfl)] at hP hD
              have hP : va_P D vwCl [(mo, .inr (6, [.int 0, .ref q1, .int (nI g), .ref q3, .ref q4, .ref q5, .ref q6, .int 1, .int gr, .int kd, .long w9_40, .ref q11, .int mk, .long w13, .long w14])), (q3, .inl (cI, 800, .inl m3)), (q5, .inl (cI, 800, .inl m5)), (q6, .inl (cI, 2, .inl (jl [nI n, nI n2]))), (q11, .inl (cI, 24, .inl (jl [(nI b0), nI to9_39, l2, nI b1, l4, nI to9_39, l6, nI b1, 2, 0, l10, l11, t12, t13, t14, t15, t16, t17, t18, t19, t20, t21, t22, t23])))] H := hP
              have hD : va_D A [(mo, .inr (6, [.int 0, .ref q1, .int (nI g), .ref q3, .ref q4, .ref q5, .ref q6, .int 1, .int gr, .int kd, .long w9_40, .ref q11, .int mk, .long w13, .long w14])), (q3, .inl (cI, 800, .inl m3)), (q5, .inl (cI, 800, .inl m5)), (q6, .inl (cI, 2, .inl (jl [nI n, nI n2]))), (q11, .inl (cI, 24, .inl (jl [(nI b0), nI to9_39, l2, nI b1, l4, nI to9_39, l6, nI b1, 2, 0, l10, l11, t12, t13, t14, t15, t16, t17, t18, t19, t20, t21, t22, t23])))] := hD
              refine lv_aload_n hx hb dX6_next_247 rfl (lv_at hl 4 rfl) ?_
              refine va_get (D := D) (ci := 6) (v := .int kd) (C := RX6) (T := TX6) (N := 15) hx hb hts (by decide +kernel) hown hK hP 0 rfl rfl 9 (by decide) (hts (.fieldLink RX6 60 "JoinDeskModel" "kind" "I") (by decide +kernel)) (fun _ h9 => h9) rfl dX6_next_248 ?_
              refine lv_aload_n hx hb dX6_next_251 rfl (lv_at hl 4 rfl) ?_
              refine va_get (D := D) (ci := 6) (v := .ref q11) (C := RX6) (T := TX6) (N := 15) hx hb hts (by decide +kernel) hown hK hP 0 rfl rfl 11 (by decide) (hts (.fieldLink RX6 25 "JoinDeskModel" "at" "[I") (by decide +kernel)) (fun _ h9 => h9) rfl dX6_next_252 ?_
              refine lv_bipush (v := 8) hx hb dX6_next_255 (by decide) ?_
              refine va_iald hx hb hK hP 4 0 rfl rfl (by unfold vp_in; decide) dX6_next_257 ?_
              refine W.eq (g2 := F0 m 258 ls [.int 2, .int kd]) rfl ?_
              refine vp_callSi (va_Run.run (va_runS (As := [.int kd, .int 2]) (rest := []) ⟨hx, hb, hml, hown, hts⟩ (gM_tells_2 l D cI cL cQ kd (by first | assumption | decide | omega)) (va_cwS 2 hts gX6_next_X6_tells rfl rfl rfl (by decide +kernel) ⟨Nat.le_of_ble_eq_true rfl, Nat.le_of_ble_eq_true rfl⟩) (jr_S hK hN hP [] rfl) rfl rfl hl.1 rfl (lv_room (Nat.le_of_ble_eq_true rfl)) dX6_next_258 ⟨Nat.le_of_ble_eq_true rfl, Nat.le_of_ble_eq_true rfl⟩)) (fun r f_45 => ?_)
              rcases f_45 with ⟨rfl, f_46⟩ | ⟨rfl, f_47⟩
              · refine lv_if_eq (tgt := 285) hx hb dX6_next_261 (by decide) (fun c_48 => absurd c_48 (by decide)) (fun c_48 => ?_)
                refine lv_aload_n hx hb dX6_next_264 rfl (lv_at hl 4 rfl) ?_
                refine va_get (D := D) (ci := 6) (v := .ref q11) (C := RX6) (T := TX6) (N := 15) hx hb hts (by decide +kernel) hown hK hP 0 rfl rfl 11 (by decide) (hts (.fieldLink RX6 25 "JoinDeskModel" "at" "[I") (by decide +kernel)) (fun _ h9 => h9) rfl dX6_next_265 ?_
                refine lv_bipush (v := 9) hx hb dX6_next_268 (by decide) ?_
                refine lv_iconst (v := 1) hx hb dX6_next_270 (by decide) ?_
                refine va_iast hx hb hK hP hD hS 4 0 rfl rfl (by unfold vp_in; decide) dX6_next_271 (fun H locs hP hD hS => ?_)
                rw [jl_upd (show (9 : Int32).toNatClampNeg = 9 by decide) (Nat.le_of_ble_eq_true rfl)] at hP hD
                have hP : va_P D vwCl [(mo, .inr (6, [.int 0, .ref q1, .int (nI g), .ref q3, .ref q4, .ref q5, .ref q6, .int 1, .int gr, .int kd, .long w9_40, .ref q11, .int mk, .long w13, .long w14])), (q3, .inl (cI, 800, .inl m3)), (q5, .inl (cI, 800, .inl m5)), (q6, .inl (cI, 2, .inl (jl [nI n, nI n2]))), (q11, .inl (cI, 24, .inl (jl [(nI b0), nI to9_39, l2, nI b1, l4, nI to9_39, l6, nI b1, 2, 1, l10, l11, t12, t13, t14, t15, t16, t17, t18, t19, t20, t21, t22, t23])))] H := hP
                have hD : va_D A [(mo, .inr (6, [.int 0, .ref q1, .int (nI g), .ref q3, .ref q4, .ref q5, .ref q6, .int 1, .int gr, .int kd, .long w9_40, .ref q11, .int mk, .long w13, .long w14])), (q3, .inl (cI, 800, .inl m3)), (q5, .inl (cI, 800, .inl m5)), (q6, .inl (cI, 2, .inl (jl [nI n, nI n2]))), (q11, .inl (cI, 24, .inl (jl [(nI b0), nI to9_39, l2, nI b1, l4, nI to9_39, l6, nI b1, 2, 1, l10, l11, t12, t13, t14, t15, t16, t17, t18, t19, t20, t21, t22, t23])))] := hD
                refine lv_aload_n hx hb dX6_next_272 rfl (lv_at hl 4 rfl) ?_
                refine va_get (D := D) (ci := 6) (v := .ref q11) (C := RX6) (T := TX6) (N := 15) hx hb hts (by decide +kernel) hown hK hP 0 rfl rfl 11 (by decide) (hts (.fieldLink RX6 25 "JoinDeskModel" "at" "[I") (by decide +kernel)) (fun _ h9 => h9) rfl dX6_next_273 ?_
                refine lv_bipush (v := 10) hx hb dX6_next_276 (by decide) ?_
                refine lv_dup2_11 hx hb dX6_next_278 rfl rfl ?_
                refine va_iald hx hb hK hP 4 0 rfl rfl (by unfold vp_in; decide) dX6_next_279 ?_
                refine W.eq (g2 := F0 m 280 ls [.int l10, .int 10, .ref q11]) rfl ?_
                refine lv_iconst (v := 1) hx hb dX6_next_280 (by decide) ?_
                refine lv_iadd hx hb dX6_next_281 ?_
                refine va_iast hx hb hK hP hD hS 4 0 rfl rfl (by unfold vp_in; decide) dX6_next_282 (fun H locs hP hD hS => ?_)
                rw [jl_upd (show (10 : Int32).toNatClampNeg = 10 by decide) (Nat.le_of_ble_eq_true rfl)] at hP hD
                have hP : va_P D vwCl [(mo, .inr (6, [.int 0, .ref q1, .int (nI g), .ref q3, .ref q4, .ref q5, .ref q6, .int 1, .int gr, .int kd, .long w9_40, .ref q11, .int mk, .long w13, .long w14])), (q3, .inl (cI, 800, .inl m3)), (q5, .inl (cI, 800, .inl m5)), (q6, .inl (cI, 2, .inl (jl [nI n, nI n2]))), (q11, .inl (cI, 24, .inl (jl [(nI b0), nI to9_39, l2, nI b1, l4, nI to9_39, l6, nI b1, 2, 1, l10 + 1, l11, t12, t13, t14, t15, t16, t17, t18, t19, t20, t21, t22, t23])))] H := hP
                have hD : va_D A [(mo, .inr (6, [.int 0, .ref q1, .int (nI g), .ref q3, .ref q4, .ref q5, .ref q6, .int 1, .int gr, .int kd, .long w9_40, .ref q11, .int mk, .long w13, .long w14])), (q3, .inl (cI, 800, .inl m3)), (q5, .inl (cI, 800, .inl m5)), (q6, .inl (cI, 2, .inl (jl [nI n, nI n2]))), (q11, .inl (cI, 24, .inl (jl [(nI b0), nI to9_39, l2, nI b1, l4, nI to9_39, l6, nI b1, 2, 1, l10 + 1, l11, t12, t13, t14, t15, t16, t17, t18, t19, t20, t21, t22, t23])))] := hD
                refine lv_iconst (v := 1) hx hb dX6_next_283 (by decide) ?_
                refine W.widen (k := 0) (n := 0) (by omega) (by omega) ?_
                exact W.zret (v := 1) (ty := .boolean) hx hb hr rfl (fun t ht hW => ⟨⟨1, [(mo, .inr (6, [.int 0, .ref q1, .int (nI g), .ref q3, .ref q4, .ref q5, .ref q6, .int 1, .int gr, .int kd, .long w9_40, .ref q11, .int mk, .long w13, .long w14])), (q3, .inl (cI, 800, .inl m3)), (q5, .inl (cI, 800, .inl m5)), (q6, .inl (cI, 2, .inl (jl [nI n, nI n2]))), (q11, .inl (cI, 24, .inl (jl [(nI b0), nI to9_39, l2, nI b1, l4, nI to9_39, l6, nI b1, 2, 1, l10 + 1, l11, t12, t13, t14, t15, t16, t17, t18, t19, t20, t21, t22, t23])))], rfl, (by exact (Or.inr (Or.inr (Or.inl ⟨_, _, _, _, _, _, _, _, _, _, _, rfl, rfl, by omega, by omega, by omega, by omega⟩)))), by rw [ht]; exact hP, hD⟩, hS.F ht⟩) hS.2.2 dX6_next_284
              · refine lv_if_eq (tgt := 285) hx hb dX6_next_261 (by decide) (fun c_49 => ?_) (fun c_49 => absurd c_49 (by decide))
                refine lv_goto (tgt := 60) hx hb dX6_next_285 (by decide) ?_
                exact ih_1 b0 to9_39 l2 (nI b1) l4 (nI to9_39) l6 (nI b1) 2 l10 l11 w9_40 (by omega) (by omega) (by omega) _ _ hP hD hS ls (lv_sub hl [4] rfl)
            · refine lv_iconst (v := 1) hx hb dX6_next_183 (by decide) ?_
              refine lv_goto (tgt := 188) hx hb dX6_next_184 (by decide) ?_
              refine lv_istore_n (lv' := [(1, .int 1), (4, .int (jmk 400 m3 m5 b1)), (3, .int (jmk 0 m3 m5 b0)), (2, .int 1), (0, .ref mo)]) hx hb dX6_next_188 rfl hl (by decide) rfl (fun ls hl => ?_)
              refine lv_iload hx hb dX6_next_189 (lv_at hl 1 rfl) ?_
              refine lv_iload_n hx hb dX6_next_191 rfl (lv_at hl 2 rfl) ?_
              refine lv_icmp_gt (tgt := 199) hx hb dX6_next_192 (by decide) (fun c_50 => ?_) (fun c_50 => ?_)
              · refine lv_iconst (v := 0) hx hb dX6_next_199 (by decide) ?_
                refine lv_istore_n (lv' := [(2, .int 0), (1, .int 1), (4, .int (jmk 400 m3 m5 b1)), (3, .int (jmk 0 m3 m5 b0)), (0, .ref mo)]) hx hb dX6_next_200 rfl hl (by decide) rfl (fun ls hl => ?_)
                refine lv_iload_n hx hb dX6_next_201 rfl (lv_at hl 1 rfl) ?_
                refine lv_if_eq (tgt := 210) hx hb dX6_next_202 (by decide) (fun c_51 => absurd c_51 (by decide)) (fun c_51 => ?_)
                refine lv_aload_n hx hb dX6_next_205 rfl (lv_at hl 4 rfl) ?_
                refine lv_iconst (v := 0) hx hb dX6_next_206 (by decide) ?_
                refine jw_v (wr := []) (va_runV (As := [.int 0]) (rest := []) ⟨hx, hb, hml, hown, hts⟩ (gM_goes_0 l D cI cL cQ mo g n n2 q1 q3 q4 q5 q6 q11 0 1 gr kd mk (wl + (2)) w13 w14 m3 m5 (nI b1) l2 l3 l4 l5 l6 l7 l8 0 l10 l11 t12 t13 t14 t15 t16 t17 t18 t19 t20 t21 t22 t23 b0 _ (by first | assumption | decide | omega) (by first | assumption | decide | omega) (by rw [nI_leI (by omega) (by omega)] at cl1; omega)) (cwV 1 hts gX6_next_X6_goes rfl rfl rfl (by decide +kernel) ⟨Nat.le_of_ble_eq_true rfl, Nat.le_of_ble_eq_true rfl⟩) (jw_V hK hN hP hD [0, 1, 2, 3, 4] (by decide) rfl 6 0 rfl rfl rfl) rfl rfl hl.1 rfl (lv_room (Nat.le_of_ble_eq_true rfl)) dX6_next_207 ⟨Nat.le_of_ble_eq_true rfl, Nat.le_of_ble_eq_true rfl⟩) hP hD hS hA [0, 1, 2, 3, 4] [] rfl rfl (by decide) (by decide) (fun u H locs f_52 hP hD hS => ?_)
                obtain ⟨to9_53, w9_54, rfl, f_55, f_56⟩ := f_52
                have hP : va_P D vwCl [(mo, .inr (6, [.int 0, .ref q1, .int (nI g), .ref q3, .ref q4, .ref q5, .ref q6, .int 1, .int gr, .int kd, .long w9_54, .ref q11, .int mk, .long w13, .long w14])), (q3, .inl (cI, 800, .inl m3)), (q5, .inl (cI, 800, .inl m5)), (q6, .inl (cI, 2, .inl (jl [nI n, nI n2]))), (q11, .inl (cI, 24, .inl (jl [nI to9_53, (nI b1), nI b0, l3, nI to9_53, l5, nI b0, l7, l8, 0, l10, l11, t12, t13, t14, t15, t16, t17, t18, t19, t20, t21, t22, t23])))] H := hP
                have hD : va_D A [(mo, .inr (6, [.int 0, .ref q1, .int (nI g), .ref q3, .ref q4, .ref q5, .ref q6, .int 1, .int gr, .int kd, .long w9_54, .ref q11, .int mk, .long w13, .long w14])), (q3, .inl (cI, 800, .inl m3)), (q5, .inl (cI, 800, .inl m5)), (q6, .inl (cI, 2, .inl (jl [nI n, nI n2]))), (q11, .inl (cI, 24, .inl (jl [nI to9_53, (nI b1), nI b0, l3, nI to9_53, l5, nI b0, l7, l8, 0, l10, l11, t12, t13, t14, t15, t16, t17, t18, t19, t20, t21, t22, t23])))] := hD
                refine lv_iload_n hx hb dX6_next_210 rfl (lv_at hl 0 rfl) ?_
                refine lv_if_eq (tgt := 219) hx hb dX6_next_211 (by decide) (fun c_57 => ?_) (fun c_57 => absurd c_57 (by decide))
                refine lv_aload_n hx hb dX6_next_219 rfl (lv_at hl 4 rfl) ?_
                refine va_get (D := D) (ci := 6) (v := .ref q11) (C := RX6) (T := TX6) (N := 15) hx hb hts (by decide +kernel) hown hK hP 0 rfl rfl 11 (by decide) (hts (.fieldLink RX6 25 "JoinDeskModel" "at" "[I") (by decide +kernel)) (fun _ h9 => h9) rfl dX6_next_220 ?_
                refine lv_bipush (v := 8) hx hb dX6_next_223 (by decide) ?_
                refine lv_iload_n hx hb dX6_next_225 rfl (lv_at hl 1 rfl) ?_
                refine lv_if_eq (tgt := 237) hx hb dX6_next_226 (by decide) (fun c_58 => absurd c_58 (by decide)) (fun c_58 => ?_)
                refine lv_iload_n hx hb dX6_next_229 rfl (lv_at hl 0 rfl) ?_
                refine lv_if_eq (tgt := 237) hx hb dX6_next_230 (by decide) (fun c_59 => ?_) (fun c_59 => absurd c_59 (by decide))
                refine lv_iload_n hx hb dX6_next_237 rfl (lv_at hl 1 rfl) ?_
                refine lv_if_eq (tgt := 245) hx hb dX6_next_238 (by decide) (fun c_60 => absurd c_60 (by decide)) (fun c_60 => ?_)
                refine lv_iconst (v := 1) hx hb dX6_next_241 (by decide) ?_
                refine lv_goto (tgt := 246) hx hb dX6_next_242 (by decide) ?_
                refine va_iast hx hb hK hP hD hS 4 0 rfl rfl (by unfold vp_in; decide) dX6_next_246 (fun H locs hP hD hS => ?_)
                rw [jl_upd (show (8 : Int32).toNatClampNeg = 8 by decide) (Nat.le_of_ble_eq_true rfl)] at hP hD
                have hP : va_P D vwCl [(mo, .inr (6, [.int 0, .ref q1, .int (nI g), .ref q3, .ref q4, .ref q5, .ref q6, .int 1, .int gr, .int kd, .long w9_54, .ref q11, .int mk, .long w13, .long w14])), (q3, .inl (cI, 800, .inl m3)), (q5, .inl (cI, 800, .inl m5)), (q6, .inl (cI, 2, .inl (jl [nI n, nI n2]))), (q11, .inl (cI, 24, .inl (jl [nI to9_53, (nI b1), nI b0, l3, nI to9_53, l5, nI b0, l7, 1, 0, l10, l11, t12, t13, t14, t15, t16, t17, t18, t19, t20, t21, t22, t23])))] H := hP
                have hD : va_D A [(mo, .inr (6, [.int 0, .ref q1, .int (nI g), .ref q3, .ref q4, .ref q5, .ref q6, .int 1, .int gr, .int kd, .long w9_54, .ref q11, .int mk, .long w13, .long w14])), (q3, .inl (cI, 800, .inl m3)), (q5, .inl (cI, 800, .inl m5)), (q6, .inl (cI, 2, .inl (jl [nI n, nI n2]))), (q11, .inl (cI, 24, .inl (jl [nI to9_53, (nI b1), nI b0, l3, nI to9_53, l5, nI b0, l7, 1, 0, l10, l11, t12, t13, t14, t15, t16, t17, t18, t19, t20, t21, t22, t23])))] := hD
                refine lv_aload_n hx hb dX6_next_247 rfl (lv_at hl 4 rfl) ?_
                refine va_get (D := D) (ci := 6) (v := .int kd) (C := RX6) (T := TX6) (N := 15) hx hb hts (by decide +kernel) hown hK hP 0 rfl rfl 9 (by decide) (hts (.fieldLink RX6 60 "JoinDeskModel" "kind" "I") (by decide +kernel)) (fun _ h9 => h9) rfl dX6_next_248 ?_
                refine lv_aload_n hx hb dX6_next_251 rfl (lv_at hl 4 rfl) ?_
                refine va_get (D := D) (ci := 6) (v := .ref q11) (C := RX6) (T := TX6) (N := 15) hx hb hts (by decide +kernel) hown hK hP 0 rfl rfl 11 (by decide) (hts (.fieldLink RX6 25 "JoinDeskModel" "at" "[I") (by decide +kernel)) (fun _ h9 => h9) rfl dX6_next_252 ?_
                refine lv_bipush (v := 8) hx hb dX6_next_255 (by decide) ?_
                refine va_iald hx hb hK hP 4 0 rfl rfl (by unfold vp_in; decide) dX6_next_257 ?_
                refine W.eq (g2 := F0 m 258 ls [.int 1, .int kd]) rfl ?_
                refine vp_callSi (va_Run.run (va_runS (As := [.int kd, .int 1]) (rest := []) ⟨hx, hb, hml, hown, hts⟩ (gM_tells_1 l D cI cL cQ kd (by first | assumption | decide | omega)) (va_cwS 2 hts gX6_next_X6_tells rfl rfl rfl (by decide +kernel) ⟨Nat.le_of_ble_eq_true rfl, Nat.le_of_ble_eq_true rfl⟩) (jr_S hK hN hP [] rfl) rfl rfl hl.1 rfl (lv_room (Nat.le_of_ble_eq_true rfl)) dX6_next_258 ⟨Nat.le_of_ble_eq_true rfl, Nat.le_of_ble_eq_true rfl⟩)) (fun r f_61 => ?_)
                rcases f_61 with ⟨rfl, f_62⟩ | ⟨rfl, f_63⟩
                · refine lv_if_eq (tgt := 285) hx hb dX6_next_261 (by decide) (fun c_64 => absurd c_64 (by decide)) (fun c_64 => ?_)
                  refine lv_aload_n hx hb dX6_next_264 rfl (lv_at hl 4 rfl) ?_
                  refine va_get (D := D) (ci := 6) (v := .ref q11) (C := RX6) (T := TX6) (N := 15) hx hb hts (by decide +kernel) hown hK hP 0 rfl rfl 11 (by decide) (hts (.fieldLink RX6 25 "JoinDeskModel" "at" "[I") (by decide +kernel)) (fun _ h9 => h9) rfl dX6_next_265 ?_
                  refine lv_bipush (v := 9) hx hb dX6_next_268 (by decide) ?_
                  refine lv_iconst (v := 1) hx hb dX6_next_270 (by decide) ?_
                  refine va_iast hx hb hK hP hD hS 4 0 rfl rfl (by unfold vp_in; decide) dX6_next_271 (fun H locs hP hD hS => ?_)
                  rw [jl_upd (show (9 : Int32).toNatClampNeg = 9 by decide) (Nat.le_of_ble_eq_true rfl)] at hP hD
                  have hP : va_P D vwCl [(mo, .inr (6, [.int 0, .ref q1, .int (nI g), .ref q3, .ref q4, .ref q5, .ref q6, .int 1, .int gr, .int kd, .long w9_54, .ref q11, .int mk, .long w13, .long w14])), (q3, .inl (cI, 800, .inl m3)), (q5, .inl (cI, 800, .inl m5)), (q6, .inl (cI, 2, .inl (jl [nI n, nI n2]))), (q11, .inl (cI, 24, .inl (jl [nI to9_53, (nI b1), nI b0, l3, nI to9_53, l5, nI b0, l7, 1, 1, l10, l11, t12, t13, t14, t15, t16, t17, t18, t19, t20, t21, t22, t23])))] H := hP
                  have hD : va_D A [(mo, .inr (6, [.int 0, .ref q1, .int (nI g), .ref q3, .ref q4, .ref q5, .ref q6, .int 1, .int gr, .int kd, .long w9_54, .ref q11, .int mk, .long w13, .long w14])), (q3, .inl (cI, 800, .inl m3)), (q5, .inl (cI, 800, .inl m5)), (q6, .inl (cI, 2, .inl (jl [nI n, nI n2]))), (q11, .inl (cI, 24, .inl (jl [nI to9_53, (nI b1), nI b0, l3, nI to9_53, l5, nI b0, l7, 1, 1, l10, l11, t12, t13, t14, t15, t16, t17, t18, t19, t20, t21, t22, t23])))] := hD
                  refine lv_aload_n hx hb dX6_next_272 rfl (lv_at hl 4 rfl) ?_
                  refine va_get (D := D) (ci := 6) (v := .ref q11) (C := RX6) (T := TX6) (N := 15) hx hb hts (by decide +kernel) hown hK hP 0 rfl rfl 11 (by decide) (hts (.fieldLink RX6 25 "JoinDeskModel" "at" "[I") (by decide +kernel)) (fun _ h9 => h9) rfl dX6_next_273 ?_
                  refine lv_bipush (v := 10) hx hb dX6_next_276 (by decide) ?_
                  refine lv_dup2_11 hx hb dX6_next_278 rfl rfl ?_
                  refine va_iald hx hb hK hP 4 0 rfl rfl (by unfold vp_in; decide) dX6_next_279 ?_
                  refine W.eq (g2 := F0 m 280 ls [.int l10, .int 10, .ref q11]) rfl ?_
                  refine lv_iconst (v := 1) hx hb dX6_next_280 (by decide) ?_
                  refine lv_iadd hx hb dX6_next_281 ?_
                  refine va_iast hx hb hK hP hD hS 4 0 rfl rfl (by unfold vp_in; decide) dX6_next_282 (fun H locs hP hD hS => ?_)
                  rw [jl_upd (show (10 : Int32).toNatClampNeg = 10 by decide) (Nat.le_of_ble_eq_true rfl)] at hP hD
                  have hP : va_P D vwCl [(mo, .inr (6, [.int 0, .ref q1, .int (nI g), .ref q3, .ref q4, .ref q5, .ref q6, .int 1, .int gr, .int kd, .long w9_54, .ref q11, .int mk, .long w13, .long w14])), (q3, .inl (cI, 800, .inl m3)), (q5, .inl (cI, 800, .inl m5)), (q6, .inl (cI, 2, .inl (jl [nI n, nI n2]))), (q11, .inl (cI, 24, .inl (jl [nI to9_53, (nI b1), nI b0, l3, nI to9_53, l5, nI b0, l7, 1, 1, l10 + 1, l11, t12, t13, t14, t15, t16, t17, t18, t19, t20, t21, t22, t23])))] H := hP
                  have hD : va_D A [(mo, .inr (6, [.int 0, .ref q1, .int (nI g), .ref q3, .ref q4, .ref q5, .ref q6, .int 1, .int gr, .int kd, .long w9_54, .ref q11, .int mk, .long w13, .long w14])), (q3, .inl (cI, 800, .inl m3)), (q5, .inl (cI, 800, .inl m5)), (q6, .inl (cI, 2, .inl (jl [nI n, nI n2]))), (q11, .inl (cI, 24, .inl (jl [nI to9_53, (nI b1), nI b0, l3, nI to9_53, l5, nI b0, l7, 1, 1, l10 + 1, l11, t12, t13, t14, t15, t16, t17, t18, t19, t20, t21, t22, t23])))] := hD
                  refine lv_iconst (v := 1) hx hb dX6_next_283 (by decide) ?_
                  refine W.widen (k := 0) (n := 0) (by omega) (by omega) ?_
                  exact W.zret (v := 1) (ty := .boolean) hx hb hr rfl (fun t ht hW => ⟨⟨1, [(mo, .inr (6, [.int 0, .ref q1, .int (nI g), .ref q3, .ref q4, .ref q5, .ref q6, .int 1, .int gr, .int kd, .long w9_54, .ref q11, .int mk, .long w13, .long w14])), (q3, .inl (cI, 800, .inl m3)), (q5, .inl (cI, 800, .inl m5)), (q6, .inl (cI, 2, .inl (jl [nI n, nI n2]))), (q11, .inl (cI, 24, .inl (jl [nI to9_53, (nI b1), nI b0, l3, nI to9_53, l5, nI b0, l7, 1, 1, l10 + 1, l11, t12, t13, t14, t15, t16, t17, t18, t19, t20, t21, t22, t23])))], rfl, (by exact (Or.inr (Or.inl ⟨_, _, _, _, _, _, _, _, _, _, _, rfl, rfl, by omega, by omega, by omega, by omega⟩))), by rw [ht]; exact hP, hD⟩, hS.F ht⟩) hS.2.2 dX6_next_284
                · refine lv_if_eq (tgt := 285) hx hb dX6_next_261 (by decide) (fun c_65 => ?_) (fun c_65 => absurd c_65 (by decide))
                  refine lv_goto (tgt := 60) hx hb dX6_next_285 (by decide) ?_
                  exact ih_1 to9_53 b1 (nI b0) l3 (nI to9_53) l5 (nI b0) l7 1 l10 l11 w9_54 (by omega) (by omega) (by omega) _ _ hP hD hS ls (lv_sub hl [4] rfl)
              · refine lv_iconst (v := 1) hx hb dX6_next_195 (by decide) ?_
                refine lv_goto (tgt := 200) hx hb dX6_next_196 (by decide) ?_
                refine lv_istore_n (lv' := [(2, .int 1), (1, .int 1), (4, .int (jmk 400 m3 m5 b1)), (3, .int (jmk 0 m3 m5 b0)), (0, .ref mo)]) hx hb dX6_next_200 rfl hl (by decide) rfl (fun ls hl => ?_)
                refine lv_iload_n hx hb dX6_next_201 rfl (lv_at hl 1 rfl) ?_
                refine lv_if_eq (tgt := 210) hx hb dX6_next_202 (by decide) (fun c_66 => absurd c_66 (by decide)) (fun c_66 => ?_)
                refine lv_aload_n hx hb dX6_next_205 rfl (lv_at hl 4 rfl) ?_
                refine lv_iconst (v := 0) hx hb dX6_next_206 (by decide) ?_
                refine jw_v (wr := []) (va_runV (As := [.int 0]) (rest := []) ⟨hx, hb, hml, hown, hts⟩ (gM_goes_0 l D cI cL cQ mo g n n2 q1 q3 q4 q5 q6 q11 0 1 gr kd mk (wl + (2)) w13 w14 m3 m5 (nI b1) l2 l3 l4 l5 l6 l7 l8 0 l10 l11 t12 t13 t14 t15 t16 t17 t18 t19 t20 t21 t22 t23 b0 _ (by first | assumption | decide | omega) (by first | assumption | decide | omega) (by rw [nI_leI (by omega) (by omega)] at cl1; omega)) (cwV 1 hts gX6_next_X6_goes rfl rfl rfl (by decide +kernel) ⟨Nat.le_of_ble_eq_true rfl, Nat.le_of_ble_eq_true rfl⟩) (jw_V hK hN hP hD [0, 1, 2, 3, 4] (by decide) rfl 6 0 rfl rfl rfl) rfl rfl hl.1 rfl (lv_room (Nat.le_of_ble_eq_true rfl)) dX6_next_207 ⟨Nat.le_of_ble_eq_true rfl, Nat.le_of_ble_eq_true rfl⟩) hP hD hS hA [0, 1, 2, 3, 4] [] rfl rfl (by decide) (by decide) (fun u H locs f_67 hP hD hS => ?_)
                obtain ⟨to9_68, w9_69, rfl, f_70, f_71⟩ := f_67
                have hP : va_P D vwCl [(mo, .inr (6, [.int 0, .ref q1, .int (nI g), .ref q3, .ref q4, .ref q5, .ref q6, .int 1, .int gr, .int kd, .long w9_69, .ref q11, .int mk, .long w13, .long w14])), (q3, .inl (cI, 800, .inl m3)), (q5, .inl (cI, 800, .inl m5)), (q6, .inl (cI, 2, .inl (jl [nI n, nI n2]))), (q11, .inl (cI, 24, .inl (jl [nI to9_68, (nI b1), nI b0, l3, nI to9_68, l5, nI b0, l7, l8, 0, l10, l11, t12, t13, t14, t15, t16, t17, t18, t19, t20, t21, t22, t23])))] H := hP
                have hD : va_D A [(mo, .inr (6, [.int 0, .ref q1, .int (nI g), .ref q3, .ref q4, .ref q5, .ref q6, .int 1, .int gr, .int kd, .long w9_69, .ref q11, .int mk, .long w13, .long w14])), (q3, .inl (cI, 800, .inl m3)), (q5, .inl (cI, 800, .inl m5)), (q6, .inl (cI, 2, .inl (jl [nI n, nI n2]))), (q11, .inl (cI, 24, .inl (jl [nI to9_68, (nI b1), nI b0, l3, nI to9_68, l5, nI b0, l7, l8, 0, l10, l11, t12, t13, t14, t15, t16, t17, t18, t19, t20, t21, t22, t23])))] := hD
                refine lv_iload_n hx hb dX6_next_210 rfl (lv_at hl 0 rfl) ?_
                refine lv_if_eq (tgt := 219) hx hb dX6_next_211 (by decide) (fun c_72 => absurd c_72 (by decide)) (fun c_72 => ?_)
                refine lv_aload_n hx hb dX6_next_214 rfl (lv_at hl 4 rfl) ?_
                refine lv_iconst (v := 1) hx hb dX6_next_215 (by decide) ?_
                refine jw_v (wr := []) (va_runV (As := [.int 1]) (rest := []) ⟨hx, hb, hml, hown, hts⟩ (gM_goes_1 l D cI cL cQ mo g n n2 q1 q3 q4 q5 q6 q11 0 1 gr kd mk w9_69 w13 w14 m3 m5 (nI to9_68) (nI b0) l3 (nI to9_68) l5 (nI b0) l7 l8 0 l10 l11 t12 t13 t14 t15 t16 t17 t18 t19 t20 t21 t22 t23 b1 _ (by first | assumption | decide | omega) (by first | assumption | decide | omega) (by rw [nI_leI (by omega) (by omega)] at cr1; omega)) (cwV 1 hts gX6_next_X6_goes rfl rfl rfl (by decide +kernel) ⟨Nat.le_of_ble_eq_true rfl, Nat.le_of_ble_eq_true rfl⟩) (jw_V hK hN hP hD [0, 1, 2, 3, 4] (by decide) rfl 6 0 rfl rfl rfl) rfl rfl hl.1 rfl (lv_room (Nat.le_of_ble_eq_true rfl)) dX6_next_216 ⟨Nat.le_of_ble_eq_true rfl, Nat.le_of_ble_eq_true rfl⟩) hP hD hS hA [0, 1, 2, 3, 4] [] rfl rfl (by decide) (by decide) (fun u H locs f_73 hP hD hS => ?_)
                obtain ⟨to9_74, w9_75, rfl, f_76, f_77⟩ := f_73
                have hP : va_P D vwCl [(mo, .inr (6, [.int 0, .ref q1, .int (nI g), .ref q3, .ref q4, .ref q5, .ref q6, .int 1, .int gr, .int kd, .long w9_75, .ref q11, .int mk, .long w13, .long w14])), (q3, .inl (cI, 800, .inl m3)), (q5, .inl (cI, 800, .inl m5)), (q6, .inl (cI, 2, .inl (jl [nI n, nI n2]))), (q11, .inl (cI, 24, .inl (jl [(nI to9_68), nI to9_74, (nI b0), nI b1, (nI to9_68), nI to9_74, (nI b0), nI b1, l8, 0, l10, l11, t12, t13, t14, t15, t16, t17, t18, t19, t20, t21, t22, t23])))] H := hP
                have hD : va_D A [(mo, .inr (6, [.int 0, .ref q1, .int (nI g), .ref q3, .ref q4, .ref q5, .ref q6, .int 1, .int gr, .int kd, .long w9_75, .ref q11, .int mk, .long w13, .long w14])), (q3, .inl (cI, 800, .inl m3)), (q5, .inl (cI, 800, .inl m5)), (q6, .inl (cI, 2, .inl (jl [nI n, nI n2]))), (q11, .inl (cI, 24, .inl (jl [(nI to9_68), nI to9_74, (nI b0), nI b1, (nI to9_68), nI to9_74, (nI b0), nI b1, l8, 0, l10, l11, t12, t13, t14, t15, t16, t17, t18, t19, t20, t21, t22, t23])))] := hD
                refine lv_aload_n hx hb dX6_next_219 rfl (lv_at hl 4 rfl) ?_
                refine va_get (D := D) (ci := 6) (v := .ref q11) (C := RX6) (T := TX6) (N := 15) hx hb hts (by decide +kernel) hown hK hP 0 rfl rfl 11 (by decide) (hts (.fieldLink RX6 25 "JoinDeskModel" "at" "[I") (by decide +kernel)) (fun _ h9 => h9) rfl dX6_next_220 ?_
                refine lv_bipush (v := 8) hx hb dX6_next_223 (by decide) ?_
                refine lv_iload_n hx hb dX6_next_225 rfl (lv_at hl 1 rfl) ?_
                refine lv_if_eq (tgt := 237) hx hb dX6_next_226 (by decide) (fun c_78 => absurd c_78 (by decide)) (fun c_78 => ?_)
                refine lv_iload_n hx hb dX6_next_229 rfl (lv_at hl 0 rfl) ?_
                refine lv_if_eq (tgt := 237) hx hb dX6_next_230 (by decide) (fun c_79 => absurd c_79 (by decide)) (fun c_79 => ?_)
                refine lv_iconst (v := 0) hx hb dX6_next_233 (by decide) ?_
                refine lv_goto (tgt := 246) hx hb dX6_next_234 (by decide) ?_
                refine va_iast hx hb hK hP hD hS 4 0 rfl rfl (by unfold vp_in; decide) dX6_next_246 (fun H locs hP hD hS => ?_)
                rw [jl_upd (show (8 : Int32).toNatClampNeg = 8 by decide) (Nat.le_of_ble_eq_true rfl)] at hP hD
                have hP : va_P D vwCl [(mo, .inr (6, [.int 0, .ref q1, .int (nI g), .ref q3, .ref q4, .ref q5, .ref q6, .int 1, .int gr, .int kd, .long w9_75, .ref q11, .int mk, .long w13, .long w14])), (q3, .inl (cI, 800, .inl m3)), (q5, .inl (cI, 800, .inl m5)), (q6, .inl (cI, 2, .inl (jl [nI n, nI n2]))), (q11, .inl (cI, 24, .inl (jl [(nI to9_68), nI to9_74, (nI b0), nI b1, (nI to9_68), nI to9_74, (nI b0), nI b1, 0, 0, l10, l11, t12, t13, t14, t15, t16, t17, t18, t19, t20, t21, t22, t23])))] H := hP
                have hD : va_D A [(mo, .inr (6, [.int 0, .ref q1, .int (nI g), .ref q3, .ref q4, .ref q5, .ref q6, .int 1, .int gr, .int kd, .long w9_75, .ref q11, .int mk, .long w13, .long w14])), (q3, .inl (cI, 800, .inl m3)), (q5, .inl (cI, 800, .inl m5)), (q6, .inl (cI, 2, .inl (jl [nI n, nI n2]))), (q11, .inl (cI, 24, .inl (jl [(nI to9_68), nI to9_74, (nI b0), nI b1, (nI to9_68), nI to9_74, (nI b0), nI b1, 0, 0, l10, l11, t12, t13, t14, t15, t16, t17, t18, t19, t20, t21, t22, t23])))] := hD
                refine lv_aload_n hx hb dX6_next_247 rfl (lv_at hl 4 rfl) ?_
                refine va_get (D := D) (ci := 6) (v := .int kd) (C := RX6) (T := TX6) (N := 15) hx hb hts (by decide +kernel) hown hK hP 0 rfl rfl 9 (by decide) (hts (.fieldLink RX6 60 "JoinDeskModel" "kind" "I") (by decide +kernel)) (fun _ h9 => h9) rfl dX6_next_248 ?_
                refine lv_aload_n hx hb dX6_next_251 rfl (lv_at hl 4 rfl) ?_
                refine va_get (D := D) (ci := 6) (v := .ref q11) (C := RX6) (T := TX6) (N := 15) hx hb hts (by decide +kernel) hown hK hP 0 rfl rfl 11 (by decide) (hts (.fieldLink RX6 25 "JoinDeskModel" "at" "[I") (by decide +kernel)) (fun _ h9 => h9) rfl dX6_next_252 ?_
                refine lv_bipush (v := 8) hx hb dX6_next_255 (by decide) ?_
                refine va_iald hx hb hK hP 4 0 rfl rfl (by unfold vp_in; decide) dX6_next_257 ?_
                refine W.eq (g2 := F0 m 258 ls [.int 0, .int kd]) rfl ?_
                refine vp_callSi (va_Run.run (va_runS (As := [.int kd, .int 0]) (rest := []) ⟨hx, hb, hml, hown, hts⟩ (gM_tells_0 l D cI cL cQ kd) (va_cwS 2 hts gX6_next_X6_tells rfl rfl rfl (by decide +kernel) ⟨Nat.le_of_ble_eq_true rfl, Nat.le_of_ble_eq_true rfl⟩) (jr_S hK hN hP [] rfl) rfl rfl hl.1 rfl (lv_room (Nat.le_of_ble_eq_true rfl)) dX6_next_258 ⟨Nat.le_of_ble_eq_true rfl, Nat.le_of_ble_eq_true rfl⟩)) (fun r f_80 => ?_)
                obtain rfl := f_80
                refine lv_if_eq (tgt := 285) hx hb dX6_next_261 (by decide) (fun c_81 => absurd c_81 (by decide)) (fun c_81 => ?_)
                refine lv_aload_n hx hb dX6_next_264 rfl (lv_at hl 4 rfl) ?_
                refine va_get (D := D) (ci := 6) (v := .ref q11) (C := RX6) (T := TX6) (N := 15) hx hb hts (by decide +kernel) hown hK hP 0 rfl rfl 11 (by decide) (hts (.fieldLink RX6 25 "JoinDeskModel" "at" "[I") (by decide +kernel)) (fun _ h9 => h9) rfl dX6_next_265 ?_
                refine lv_bipush (v := 9) hx hb dX6_next_268 (by decide) ?_
                refine lv_iconst (v := 1) hx hb dX6_next_270 (by decide) ?_
                refine va_iast hx hb hK hP hD hS 4 0 rfl rfl (by unfold vp_in; decide) dX6_next_271 (fun H locs hP hD hS => ?_)
                rw [jl_upd (show (9 : Int32).toNatClampNeg = 9 by decide) (Nat.le_of_ble_eq_true rfl)] at hP hD
                have hP : va_P D vwCl [(mo, .inr (6, [.int 0, .ref q1, .int (nI g), .ref q3, .ref q4, .ref q5, .ref q6, .int 1, .int gr, .int kd, .long w9_75, .ref q11, .int mk, .long w13, .long w14])), (q3, .inl (cI, 800, .inl m3)), (q5, .inl (cI, 800, .inl m5)), (q6, .inl (cI, 2, .inl (jl [nI n, nI n2]))), (q11, .inl (cI, 24, .inl (jl [(nI to9_68), nI to9_74, (nI b0), nI b1, (nI to9_68), nI to9_74, (nI b0), nI b1, 0, 1, l10, l11, t12, t13, t14, t15, t16, t17, t18, t19, t20, t21, t22, t23])))] H := hP
                have hD : va_D A [(mo, .inr (6, [.int 0, .ref q1, .int (nI g), .ref q3, .ref q4, .ref q5, .ref q6, .int 1, .int gr, .int kd, .long w9_75, .ref q11, .int mk, .long w13, .long w14])), (q3, .inl (cI, 800, .inl m3)), (q5, .inl (cI, 800, .inl m5)), (q6, .inl (cI, 2, .inl (jl [nI n, nI n2]))), (q11, .inl (cI, 24, .inl (jl [(nI to9_68), nI to9_74, (nI b0), nI b1, (nI to9_68), nI to9_74, (nI b0), nI b1, 0, 1, l10, l11, t12, t13, t14, t15, t16, t17, t18, t19, t20, t21, t22, t23])))] := hD
                refine lv_aload_n hx hb dX6_next_272 rfl (lv_at hl 4 rfl) ?_
                refine va_get (D := D) (ci := 6) (v := .ref q11) (C := RX6) (T := TX6) (N := 15) hx hb hts (by decide +kernel) hown hK hP 0 rfl rfl 11 (by decide) (hts (.fieldLink RX6 25 "JoinDeskModel" "at" "[I") (by decide +kernel)) (fun _ h9 => h9) rfl dX6_next_273 ?_
                refine lv_bipush (v := 10) hx hb dX6_next_276 (by decide) ?_
                refine lv_dup2_11 hx hb dX6_next_278 rfl rfl ?_
                refine va_iald hx hb hK hP 4 0 rfl rfl (by unfold vp_in; decide) dX6_next_279 ?_
                refine W.eq (g2 := F0 m 280 ls [.int l10, .int 10, .ref q11]) rfl ?_
                refine lv_iconst (v := 1) hx hb dX6_next_280 (by decide) ?_
                refine lv_iadd hx hb dX6_next_281 ?_
                refine va_iast hx hb hK hP hD hS 4 0 rfl rfl (by unfold vp_in; decide) dX6_next_282 (fun H locs hP hD hS => ?_)
                rw [jl_upd (show (10 : Int32).toNatClampNeg = 10 by decide) (Nat.le_of_ble_eq_true rfl)] at hP hD
                have hP : va_P D vwCl [(mo, .inr (6, [.int 0, .ref q1, .int (nI g), .ref q3, .ref q4, .ref q5, .ref q6, .int 1, .int gr, .int kd, .long w9_75, .ref q11, .int mk, .long w13, .long w14])), (q3, .inl (cI, 800, .inl m3)), (q5, .inl (cI, 800, .inl m5)), (q6, .inl (cI, 2, .inl (jl [nI n, nI n2]))), (q11, .inl (cI, 24, .inl (jl [(nI to9_68), nI to9_74, (nI b0), nI b1, (nI to9_68), nI to9_74, (nI b0), nI b1, 0, 1, l10 + 1, l11, t12, t13, t14, t15, t16, t17, t18, t19, t20, t21, t22, t23])))] H := hP
                have hD : va_D A [(mo, .inr (6, [.int 0, .ref q1, .int (nI g), .ref q3, .ref q4, .ref q5, .ref q6, .int 1, .int gr, .int kd, .long w9_75, .ref q11, .int mk, .long w13, .long w14])), (q3, .inl (cI, 800, .inl m3)), (q5, .inl (cI, 800, .inl m5)), (q6, .inl (cI, 2, .inl (jl [nI n, nI n2]))), (q11, .inl (cI, 24, .inl (jl [(nI to9_68), nI to9_74, (nI b0), nI b1, (nI to9_68), nI to9_74, (nI b0), nI b1, 0, 1, l10 + 1, l11, t12, t13, t14, t15, t16, t17, t18, t19, t20, t21, t22, t23])))] := hD
                refine lv_iconst (v := 1) hx hb dX6_next_283 (by decide) ?_
                refine W.widen (k := 0) (n := 0) (by omega) (by omega) ?_
                exact W.zret (v := 1) (ty := .boolean) hx hb hr rfl (fun t ht hW => ⟨⟨1, [(mo, .inr (6, [.int 0, .ref q1, .int (nI g), .ref q3, .ref q4, .ref q5, .ref q6, .int 1, .int gr, .int kd, .long w9_75, .ref q11, .int mk, .long w13, .long w14])), (q3, .inl (cI, 800, .inl m3)), (q5, .inl (cI, 800, .inl m5)), (q6, .inl (cI, 2, .inl (jl [nI n, nI n2]))), (q11, .inl (cI, 24, .inl (jl [(nI to9_68), nI to9_74, (nI b0), nI b1, (nI to9_68), nI to9_74, (nI b0), nI b1, 0, 1, l10 + 1, l11, t12, t13, t14, t15, t16, t17, t18, t19, t20, t21, t22, t23])))], rfl, (by exact (Or.inl ⟨_, _, _, _, _, _, _, _, _, _, _, rfl, rfl, by omega, by omega, by omega, by omega, by omega, by omega, by omega⟩)), by rw [ht]; exact hP, hD⟩, hS.F ht⟩) hS.2.2 dX6_next_284
        · refine lv_aload_n hx hb dX6_next_75 rfl (lv_at hl 0 rfl) ?_
          refine va_get (D := D) (ci := 6) (v := .ref q11) (C := RX6) (T := TX6) (N := 15) hx hb hts (by decide +kernel) hown hK hP 0 rfl rfl 11 (by decide) (hts (.fieldLink RX6 25 "JoinDeskModel" "at" "[I") (by decide +kernel)) (fun _ h9 => h9) rfl dX6_next_76 ?_
          refine lv_iconst (v := 1) hx hb dX6_next_79 (by decide) ?_
          refine va_iald hx hb hK hP 4 0 rfl rfl (by unfold vp_in; decide) dX6_next_80 ?_
          refine W.eq (g2 := F0 m 81 ls [.int (nI b1)]) rfl ?_
          refine lv_aload_n hx hb dX6_next_81 rfl (lv_at hl 0 rfl) ?_
          refine va_get (D := D) (ci := 6) (v := .ref q6) (C := RX6) (T := TX6) (N := 15) hx hb hts (by decide +kernel) hown hK hP 0 rfl rfl 6 (by decide) (hts (.fieldLink RX6 22 "JoinDeskModel" "many" "[I") (by decide +kernel)) (fun _ h9 => h9) rfl dX6_next_82 ?_
          refine lv_iconst (v := 1) hx hb dX6_next_85 (by decide) ?_
          refine va_iald hx hb hK hP 3 0 rfl rfl (by unfold vp_in; decide) dX6_next_86 ?_
          refine W.eq (g2 := F0 m 87 ls [.int (nI n2), .int (nI b1)]) rfl ?_
          refine lv_icmp_ge (tgt := 288) hx hb dX6_next_87 (by decide) (fun cr0 => ?_) (fun cr0 => ?_)
          · refine lv_iconst (v := 0) hx hb dX6_next_288 (by decide) ?_
            refine W.widen (k := 0) (n := 0) (by omega) (by omega) ?_
            exact W.zret (v := 0) (ty := .boolean) hx hb hr rfl (fun t ht hW => ⟨⟨0, [(mo, .inr (6, [.int 0, .ref q1, .int (nI g), .ref q3, .ref q4, .ref q5, .ref q6, .int 1, .int gr, .int kd, .long wl, .ref q11, .int mk, .long w13, .long w14])), (q3, .inl (cI, 800, .inl m3)), (q5, .inl (cI, 800, .inl m5)), (q6, .inl (cI, 2, .inl (jl [nI n, nI n2]))), (q11, .inl (cI, 24, .inl (jl [nI b0, nI b1, l2, l3, l4, l5, l6, l7, l8, 0, l10, l11, t12, t13, t14, t15, t16, t17, t18, t19, t20, t21, t22, t23])))], rfl, (by exact (Or.inr (Or.inr (Or.inr (⟨_, _, _, _, _, _, _, _, _, _, _, _, rfl, rfl, by omega, by omega⟩))))), by rw [ht]; exact hP, hD⟩, hS.F ht⟩) hS.2.2 dX6_next_289
          · refine lv_aload_n hx hb dX6_next_90 rfl (lv_at hl 0 rfl) ?_
            refine va_get (D := D) (ci := 6) (v := .ref q11) (C := RX6) (T := TX6) (N := 15) hx hb hts (by decide +kernel) hown hK hP 0 rfl rfl 11 (by decide) (hts (.fieldLink RX6 25 "JoinDeskModel" "at" "[I") (by decide +kernel)) (fun _ h9 => h9) rfl dX6_next_91 ?_
            refine lv_iconst (v := 0) hx hb dX6_next_94 (by decide) ?_
            refine va_iald hx hb hK hP 4 0 rfl rfl (by unfold vp_in; decide) dX6_next_95 ?_
            refine W.eq (g2 := F0 m 96 ls [.int (nI b0)]) rfl ?_
            refine lv_aload_n hx hb dX6_next_96 rfl (lv_at hl 0 rfl) ?_
            refine va_get (D := D) (ci := 6) (v := .ref q6) (C := RX6) (T := TX6) (N := 15) hx hb hts (by decide +kernel) hown hK hP 0 rfl rfl 6 (by decide) (hts (.fieldLink RX6 22 "JoinDeskModel" "many" "[I") (by decide +kernel)) (fun _ h9 => h9) rfl dX6_next_97 ?_
            refine lv_iconst (v := 0) hx hb dX6_next_100 (by decide) ?_
            refine va_iald hx hb hK hP 3 0 rfl rfl (by unfold vp_in; decide) dX6_next_101 ?_
            refine W.eq (g2 := F0 m 102 ls [.int (nI n), .int (nI b0)]) rfl ?_
            refine lv_icmp_ge (tgt := 109) hx hb dX6_next_102 (by decide) (fun cl1 => ?_) (fun cl1 => absurd cl1 (by exact fun h => h (by rw [nI_leI (by omega) (by omega)]; rw [nI_ltI (by omega) (by omega)] at cl0; omega)))
            refine lv_iconst (v := 0) hx hb dX6_next_109 (by decide) ?_
            refine lv_istore_n (lv' := [(1, .int 0), (0, .ref mo)]) hx hb dX6_next_110 rfl hl (by decide) rfl (fun ls hl => ?_)
            refine lv_aload_n hx hb dX6_next_111 rfl (lv_at hl 1 rfl) ?_
            refine va_get (D := D) (ci := 6) (v := .ref q11) (C := RX6) (T := TX6) (N := 15) hx hb hts (by decide +kernel) hown hK hP 0 rfl rfl 11 (by decide) (hts (.fieldLink RX6 25 "JoinDeskModel" "at" "[I") (by decide +kernel)) (fun _ h9 => h9) rfl dX6_next_112 ?_
            refine lv_iconst (v := 1) hx hb dX6_next_115 (by decide) ?_
            refine va_iald hx hb hK hP 4 0 rfl rfl (by unfold vp_in; decide) dX6_next_116 ?_
            refine W.eq (g2 := F0 m 117 ls [.int (nI b1)]) rfl ?_
            refine lv_aload_n hx hb dX6_next_117 rfl (lv_at hl 1 rfl) ?_
            refine va_get (D := D) (ci := 6) (v := .ref q6) (C := RX6) (T := TX6) (N := 15) hx hb hts (by decide +kernel) hown hK hP 0 rfl rfl 6 (by decide) (hts (.fieldLink RX6 22 "JoinDeskModel" "many" "[I") (by decide +kernel)) (fun _ h9 => h9) rfl dX6_next_118 ?_
            refine lv_iconst (v := 1) hx hb dX6_next_121 (by decide) ?_
            refine va_iald hx hb hK hP 3 0 rfl rfl (by unfold vp_in; decide) dX6_next_122 ?_
            refine W.eq (g2 := F0 m 123 ls [.int (nI n2), .int (nI b1)]) rfl ?_
            refine lv_icmp_ge (tgt := 130) hx hb dX6_next_123 (by decide) (fun cr1 => absurd cr1 (by exact cr0)) (fun cr1 => ?_)
            refine lv_iconst (v := 1) hx hb dX6_next_126 (by decide) ?_
            refine lv_goto (tgt := 131) hx hb dX6_next_127 (by decide) ?_
            refine lv_istore_n (lv' := [(2, .int 1), (1, .int 0), (0, .ref mo)]) hx hb dX6_next_131 rfl hl (by decide) rfl (fun ls hl => ?_)
            refine lv_iload_n hx hb dX6_next_132 rfl (lv_at hl 1 rfl) ?_
            refine lv_if_eq (tgt := 201) hx hb dX6_next_133 (by decide) (fun c_82 => ?_) (fun c_82 => absurd c_82 (by decide))
            refine lv_iload_n hx hb dX6_next_201 rfl (lv_at hl 1 rfl) ?_
            refine lv_if_eq (tgt := 210) hx hb dX6_next_202 (by decide) (fun c_83 => ?_) (fun c_83 => absurd c_83 (by decide))
            refine lv_iload_n hx hb dX6_next_210 rfl (lv_at hl 0 rfl) ?_
            refine lv_if_eq (tgt := 219) hx hb dX6_next_211 (by decide) (fun c_84 => absurd c_84 (by decide)) (fun c_84 => ?_)
            refine lv_aload_n hx hb dX6_next_214 rfl (lv_at hl 2 rfl) ?_
            refine lv_iconst (v := 1) hx hb dX6_next_215 (by decide) ?_
            refine jw_v (wr := []) (va_runV (As := [.int 1]) (rest := []) ⟨hx, hb, hml, hown, hts⟩ (gM_goes_1 l D cI cL cQ mo g n n2 q1 q3 q4 q5 q6 q11 0 1 gr kd mk wl w13 w14 m3 m5 (nI b0) l2 l3 l4 l5 l6 l7 l8 0 l10 l11 t12 t13 t14 t15 t16 t17 t18 t19 t20 t21 t22 t23 b1 _ (by first | assumption | decide | omega) (by first | assumption | decide | omega) (by rw [nI_leI (by omega) (by omega)] at cr1; omega)) (cwV 1 hts gX6_next_X6_goes rfl rfl rfl (by decide +kernel) ⟨Nat.le_of_ble_eq_true rfl, Nat.le_of_ble_eq_true rfl⟩) (jw_V hK hN hP hD [0, 1, 2, 3, 4] (by decide) rfl 6 0 rfl rfl rfl) rfl rfl hl.1 rfl (lv_room (Nat.le_of_ble_eq_true rfl)) dX6_next_216 ⟨Nat.le_of_ble_eq_true rfl, Nat.le_of_ble_eq_true rfl⟩) hP hD hS hA [0, 1, 2, 3, 4] [] rfl rfl (by decide) (by decide) (fun u H locs f_85 hP hD hS => ?_)
            obtain ⟨to9_86, w9_87, rfl, f_88, f_89⟩ := f_85
            have hP : va_P D vwCl [(mo, .inr (6, [.int 0, .ref q1, .int (nI g), .ref q3, .ref q4, .ref q5, .ref q6, .int 1, .int gr, .int kd, .long w9_87, .ref q11, .int mk, .long w13, .long w14])), (q3, .inl (cI, 800, .inl m3)), (q5, .inl (cI, 800, .inl m5)), (q6, .inl (cI, 2, .inl (jl [nI n, nI n2]))), (q11, .inl (cI, 24, .inl (jl [(nI b0), nI to9_86, l2, nI b1, l4, nI to9_86, l6, nI b1, l8, 0, l10, l11, t12, t13, t14, t15, t16, t17, t18, t19, t20, t21, t22, t23])))] H := hP
            have hD : va_D A [(mo, .inr (6, [.int 0, .ref q1, .int (nI g), .ref q3, .ref q4, .ref q5, .ref q6, .int 1, .int gr, .int kd, .long w9_87, .ref q11, .int mk, .long w13, .long w14])), (q3, .inl (cI, 800, .inl m3)), (q5, .inl (cI, 800, .inl m5)), (q6, .inl (cI, 2, .inl (jl [nI n, nI n2]))), (q11, .inl (cI, 24, .inl (jl [(nI b0), nI to9_86, l2, nI b1, l4, nI to9_86, l6, nI b1, l8, 0, l10, l11, t12, t13, t14, t15, t16, t17, t18, t19, t20, t21, t22, t23])))] := hD
            refine lv_aload_n hx hb dX6_next_219 rfl (lv_at hl 2 rfl) ?_
            refine va_get (D := D) (ci := 6) (v := .ref q11) (C := RX6) (T := TX6) (N := 15) hx hb hts (by decide +kernel) hown hK hP 0 rfl rfl 11 (by decide) (hts (.fieldLink RX6 25 "JoinDeskModel" "at" "[I") (by decide +kernel)) (fun _ h9 => h9) rfl dX6_next_220 ?_
            refine lv_bipush (v := 8) hx hb dX6_next_223 (by decide) ?_
            refine lv_iload_n hx hb dX6_next_225 rfl (lv_at hl 1 rfl) ?_
            refine lv_if_eq (tgt := 237) hx hb dX6_next_226 (by decide) (fun c_90 => ?_) (fun c_90 => absurd c_90 (by decide))
            refine lv_iload_n hx hb dX6_next_237 rfl (lv_at hl 1 rfl) ?_
            refine lv_if_eq (tgt := 245) hx hb dX6_next_238 (by decide) (fun c_91 => ?_) (fun c_91 => absurd c_91 (by decide))
            refine lv_iconst (v := 2) hx hb dX6_next_245 (by decide) ?_
            refine va_iast hx hb hK hP hD hS 4 0 rfl rfl (by unfold vp_in; decide) dX6_next_246 (fun H locs hP hD hS => ?_)
            rw [jl_upd (show (8 : Int32).toNatClampNeg = 8 by decide) (Nat.le_of_ble_eq_true rfl)] at hP hD
            have hP : va_P D vwCl [(mo, .inr (6, [.int 0, .ref q1, .int (nI g), .ref q3, .ref q4, .ref q5, .ref q6, .int 1, .int gr, .int kd, .long w9_87, .ref q11, .int mk, .long w13, .long w14])), (q3, .inl (cI, 800, .inl m3)), (q5, .inl (cI, 800, .inl m5)), (q6, .inl (cI, 2, .inl (jl [nI n, nI n2]))), (q11, .inl (cI, 24, .inl (jl [(nI b0), nI to9_86, l2, nI b1, l4, nI to9_86, l6, nI b1, 2, 0, l10, l11, t12, t13, t14, t15, t16, t17, t18, t19, t20, t21, t22, t23])))] H := hP
            have hD : va_D A [(mo, .inr (6, [.int 0, .ref q1, .int (nI g), .ref q3, .ref q4, .ref q5, .ref q6, .int 1, .int gr, .int kd, .long w9_87, .ref q11, .int mk, .long w13, .long w14])), (q3, .inl (cI, 800, .inl m3)), (q5, .inl (cI, 800, .inl m5)), (q6, .inl (cI, 2, .inl (jl [nI n, nI n2]))), (q11, .inl (cI, 24, .inl (jl [(nI b0), nI to9_86, l2, nI b1, l4, nI to9_86, l6, nI b1, 2, 0, l10, l11, t12, t13, t14, t15, t16, t17, t18, t19, t20, t21, t22, t23])))] := hD
            refine lv_aload_n hx hb dX6_next_247 rfl (lv_at hl 2 rfl) ?_
            refine va_get (D := D) (ci := 6) (v := .int kd) (C := RX6) (T := TX6) (N := 15) hx hb hts (by decide +kernel) hown hK hP 0 rfl rfl 9 (by decide) (hts (.fieldLink RX6 60 "JoinDeskModel" "kind" "I") (by decide +kernel)) (fun _ h9 => h9) rfl dX6_next_248 ?_
            refine lv_aload_n hx hb dX6_next_251 rfl (lv_at hl 2 rfl) ?_
            refine va_get (D := D) (ci := 6) (v := .ref q11) (C := RX6) (T := TX6) (N := 15) hx hb hts (by decide +kernel) hown hK hP 0 rfl rfl 11 (by decide) (hts (.fieldLink RX6 25 "JoinDeskModel" "at" "[I") (by decide +kernel)) (fun _ h9 => h9) rfl dX6_next_252 ?_
            refine lv_bipush (v := 8) hx hb dX6_next_255 (by decide) ?_
            refine va_iald hx hb hK hP 4 0 rfl rfl (by unfold vp_in; decide) dX6_next_257 ?_
            refine W.eq (g2 := F0 m 258 ls [.int 2, .int kd]) rfl ?_
            refine vp_callSi (va_Run.run (va_runS (As := [.int kd, .int 2]) (rest := []) ⟨hx, hb, hml, hown, hts⟩ (gM_tells_2 l D cI cL cQ kd (by first | assumption | decide | omega)) (va_cwS 2 hts gX6_next_X6_tells rfl rfl rfl (by decide +kernel) ⟨Nat.le_of_ble_eq_true rfl, Nat.le_of_ble_eq_true rfl⟩) (jr_S hK hN hP [] rfl) rfl rfl hl.1 rfl (lv_room (Nat.le_of_ble_eq_true rfl)) dX6_next_258 ⟨Nat.le_of_ble_eq_true rfl, Nat.le_of_ble_eq_true rfl⟩)) (fun r f_92 => ?_)
            rcases f_92 with ⟨rfl, f_93⟩ | ⟨rfl, f_94⟩
            · refine lv_if_eq (tgt := 285) hx hb dX6_next_261 (by decide) (fun c_95 => absurd c_95 (by decide)) (fun c_95 => ?_)
              refine lv_aload_n hx hb dX6_next_264 rfl (lv_at hl 2 rfl) ?_
              refine va_get (D := D) (ci := 6) (v := .ref q11) (C := RX6) (T := TX6) (N := 15) hx hb hts (by decide +kernel) hown hK hP 0 rfl rfl 11 (by decide) (hts (.fieldLink RX6 25 "JoinDeskModel" "at" "[I") (by decide +kernel)) (fun _ h9 => h9) rfl dX6_next_265 ?_
              refine lv_bipush (v := 9) hx hb dX6_next_268 (by decide) ?_
              refine lv_iconst (v := 1) hx hb dX6_next_270 (by decide) ?_
              refine va_iast hx hb hK hP hD hS 4 0 rfl rfl (by unfold vp_in; decide) dX6_next_271 (fun H locs hP hD hS => ?_)
              rw [jl_upd (show (9 : Int32).toNatClampNeg = 9 by decide) (Nat.le_of_ble_eq_true rfl)] at hP hD
              have hP : va_P D vwCl [(mo, .inr (6, [.int 0, .ref q1, .int (nI g), .ref q3, .ref q4, .ref q5, .ref q6, .int 1, .int gr, .int kd, .long w9_87, .ref q11, .int mk, .long w13, .long w14])), (q3, .inl (cI, 800, .inl m3)), (q5, .inl (cI, 800, .inl m5)), (q6, .inl (cI, 2, .inl (jl [nI n, nI n2]))), (q11, .inl (cI, 24, .inl (jl [(nI b0), nI to9_86, l2, nI b1, l4, nI to9_86, l6, nI b1, 2, 1, l10, l11, t12, t13, t14, t15, t16, t17, t18, t19, t20, t21, t22, t23])))] H := hP
              have hD : va_D A [(mo, .inr (6, [.int 0, .ref q1, .int (nI g), .ref q3, .ref q4, .ref q5, .ref q6, .int 1, .int gr, .int kd, .long w9_87, .ref q11, .int mk, .long w13, .long w14])), (q3, .inl (cI, 800, .inl m3)), (q5, .inl (cI, 800, .inl m5)), (q6, .inl (cI, 2, .inl (jl [nI n, nI n2]))), (q11, .inl (cI, 24, .inl (jl [(nI b0), nI to9_86, l2, nI b1, l4, nI to9_86, l6, nI b1, 2, 1, l10, l11, t12, t13, t14, t15, t16, t17, t18, t19, t20, t21, t22, t23])))] := hD
              refine lv_aload_n hx hb dX6_next_272 rfl (lv_at hl 2 rfl) ?_
              refine va_get (D := D) (ci := 6) (v := .ref q11) (C := RX6) (T := TX6) (N := 15) hx hb hts (by decide +kernel) hown hK hP 0 rfl rfl 11 (by decide) (hts (.fieldLink RX6 25 "JoinDeskModel" "at" "[I") (by decide +kernel)) (fun _ h9 => h9) rfl dX6_next_273 ?_
              refine lv_bipush (v := 10) hx hb dX6_next_276 (by decide) ?_
              refine lv_dup2_11 hx hb dX6_next_278 rfl rfl ?_
              refine va_iald hx hb hK hP 4 0 rfl rfl (by unfold vp_in; decide) dX6_next_279 ?_
              refine W.eq (g2 := F0 m 280 ls [.int l10, .int 10, .ref q11]) rfl ?_
              refine lv_iconst (v := 1) hx hb dX6_next_280 (by decide) ?_
              refine lv_iadd hx hb dX6_next_281 ?_
              refine va_iast hx hb hK hP hD hS 4 0 rfl rfl (by unfold vp_in; decide) dX6_next_282 (fun H locs hP hD hS => ?_)
              rw [jl_upd (show (10 : Int32).toNatClampNeg = 10 by decide) (Nat.le_of_ble_eq_true rfl)] at hP hD
              have hP : va_P D vwCl [(mo, .inr (6, [.int 0, .ref q1, .int (nI g), .ref q3, .ref q4, .ref q5, .ref q6, .int 1, .int gr, .int kd, .long w9_87, .ref q11, .int mk, .long w13, .long w14])), (q3, .inl (cI, 800, .inl m3)), (q5, .inl (cI, 800, .inl m5)), (q6, .inl (cI, 2, .inl (jl [nI n, nI n2]))), (q11, .inl (cI, 24, .inl (jl [(nI b0), nI to9_86, l2, nI b1, l4, nI to9_86, l6, nI b1, 2, 1, l10 + 1, l11, t12, t13, t14, t15, t16, t17, t18, t19, t20, t21, t22, t23])))] H := hP
              have hD : va_D A [(mo, .inr (6, [.int 0, .ref q1, .int (nI g), .ref q3, .ref q4, .ref q5, .ref q6, .int 1, .int gr, .int kd, .long w9_87, .ref q11, .int mk, .long w13, .long w14])), (q3, .inl (cI, 800, .inl m3)), (q5, .inl (cI, 800, .inl m5)), (q6, .inl (cI, 2, .inl (jl [nI n, nI n2]))), (q11, .inl (cI, 24, .inl (jl [(nI b0), nI to9_86, l2, nI b1, l4, nI to9_86, l6, nI b1, 2, 1, l10 + 1, l11, t12, t13, t14, t15, t16, t17, t18, t19, t20, t21, t22, t23])))] := hD
              refine lv_iconst (v := 1) hx hb dX6_next_283 (by decide) ?_
              refine W.widen (k := 0) (n := 0) (by omega) (by omega) ?_
              exact W.zret (v := 1) (ty := .boolean) hx hb hr rfl (fun t ht hW => ⟨⟨1, [(mo, .inr (6, [.int 0, .ref q1, .int (nI g), .ref q3, .ref q4, .ref q5, .ref q6, .int 1, .int gr, .int kd, .long w9_87, .ref q11, .int mk, .long w13, .long w14])), (q3, .inl (cI, 800, .inl m3)), (q5, .inl (cI, 800, .inl m5)), (q6, .inl (cI, 2, .inl (jl [nI n, nI n2]))), (q11, .inl (cI, 24, .inl (jl [(nI b0), nI to9_86, l2, nI b1, l4, nI to9_86, l6, nI b1, 2, 1, l10 + 1, l11, t12, t13, t14, t15, t16, t17, t18, t19, t20, t21, t22, t23])))], rfl, (by exact (Or.inr (Or.inr (Or.inl ⟨_, _, _, _, _, _, _, _, _, _, _, rfl, rfl, by omega, by omega, by omega, by omega⟩)))), by rw [ht]; exact hP, hD⟩, hS.F ht⟩) hS.2.2 dX6_next_284
            · refine lv_if_eq (tgt := 285) hx hb dX6_next_261 (by decide) (fun c_96 => ?_) (fun c_96 => absurd c_96 (by decide))
              refine lv_goto (tgt := 60) hx hb dX6_next_285 (by decide) ?_
              exact ih_1 b0 to9_86 l2 (nI b1) l4 (nI to9_86) l6 (nI b1) 2 l10 l11 w9_87 (by omega) (by omega) (by omega) _ _ hP hD hS ls (lv_sub hl [2] rfl)
    exact hloop_1 ((n - e0) + (n2 - e1) + 1) e0 e1 t2 (nI f1) (nI d0) (nI d1) (nI y0_10) (nI y1_11) 0 t10 t11 w10 (Nat.lt_succ_self _) (by first | assumption | omega) (by first | assumption | omega) _ _ hP hD hS ls (lv_sub hl [0] rfl)
set_option maxHeartbeats 1000000 in
set_option maxRecDepth 100000 in
theorem gM_next_11 (l : Launch) (D : va_G) (cI cL cQ : ClassId) (mo : Nat) (g : Nat) (n : Nat) (n2 : Nat) (q1 : Nat) (q3 : Nat) (q4 : Nat) (q5 : Nat) (q6 : Nat) (q11 : Nat) (z0 : Int32) (gr : Int32) (kd : Int32) (mk : Int32) (w10 : Int64) (w13 : Int64) (w14 : Int64) (m3 : Nat → Int32) (m5 : Nat → Int32) (t2 : Int32) (t3 : Int32) (t5 : Int32) (t7 : Int32) (t10 : Int32) (t11 : Int32) (t12 : Int32) (t13 : Int32) (t14 : Int32) (t15 : Int32) (t16 : Int32) (t17 : Int32) (t18 : Int32) (t19 : Int32) (t20 : Int32) (t21 : Int32) (t22 : Int32) (t23 : Int32) (e0 : Nat) (e1 : Nat) (d0 : Nat) (r0 : Nat) (sz : Nat) (hn : n ≤ 400) (hn2 : n2 ≤ 400) (h5 : jo5 m5) (hk4 : jk4 kd) (he0 : e0 ≤ 400) (he1 : e1 ≤ 400) (hr0 : r0 < d0) (hd0 : d0 ≤ 400) : Met l yX6_next wsX6_next ({ frames := 2, cells := 0, slots := 0, locals := 45 }) (jw_P D vwCl (jT cI cL cQ) cL cQ [.ref mo] [(mo, .inr (6, [.int z0, .ref q1, .int (nI g), .ref q3, .ref q4, .ref q5, .ref q6, .int 1, .int gr, .int kd, .long w10, .ref q11, .int mk, .long w13, .long w14])), (q3, .inl (cI, 800, .inl m3)), (q5, .inl (cI, 800, .inl m5)), (q6, .inl (cI, 2, .inl (jl [nI n, nI n2]))), (q11, .inl (cI, 24, .inl (jl [nI e0, nI e1, t2, t3, nI d0, t5, nI r0, t7, 1, 1, t10, t11, t12, t13, t14, t15, t16, t17, t18, t19, t20, t21, t22, t23])))] sz) (va_Qi (fun (r : Int32) (u : va_W) => (∃ (d0x : Nat) (d1x : Nat) (e0x : Nat) (e1x : Nat) (f1x : Nat) (r0x : Nat) (r1x : Nat) (j10 : Int32) (j11 : Int32) (j2 : Int32) (wx : Int64), r = 1 ∧ u = [(mo, .inr (6, [.int 0, .ref q1, .int (nI g), .ref q3, .ref q4, .ref q5, .ref q6, .int 1, .int gr, .int kd, .long wx, .ref q11, .int mk, .long w13, .long w14])), (q3, .inl (cI, 800, .inl m3)), (q5, .inl (cI, 800, .inl m5)), (q6, .inl (cI, 2, .inl (jl [nI n, nI n2]))), (q11, .inl (cI, 24, .inl (jl [nI e0x, nI e1x, j2, nI f1x, nI d0x, nI d1x, nI r0x, nI r1x, 0, 1, j10, j11, t12, t13, t14, t15, t16, t17, t18, t19, t20, t21, t22, t23])))] ∧ (e0x ≤ 400) ∧ (e1x ≤ 400) ∧ (f1x < d1x) ∧ (r0x < d0x) ∧ (r1x < d1x) ∧ (d0x ≤ 400) ∧ (d1x ≤ 400)) ∨ (∃ (d0x : Nat) (e0x : Nat) (e1x : Nat) (r0x : Nat) (j10 : Int32) (j11 : Int32) (j2 : Int32) (j3 : Int32) (j5 : Int32) (j7 : Int32) (wx : Int64), r = 1 ∧ u = [(mo, .inr (6, [.int 0, .ref q1, .int (nI g), .ref q3, .ref q4, .ref q5, .ref q6, .int 1, .int gr, .int kd, .long wx, .ref q11, .int mk, .long w13, .long w14])), (q3, .inl (cI, 800, .inl m3)), (q5, .inl (cI, 800, .inl m5)), (q6, .inl (cI, 2, .inl (jl [nI n, nI n2]))), (q11, .inl (cI, 24, .inl (jl [nI e0x, nI e1x, j2, j3, nI d0x, j5, nI r0x, j7, 1, 1, j10, j11, t12, t13, t14, t15, t16, t17, t18, t19, t20, t21, t22, t23])))] ∧ (e0x ≤ 400) ∧ (e1x ≤ 400) ∧ (r0x < d0x) ∧ (d0x ≤ 400)) ∨ (∃ (d1x : Nat) (e0x : Nat) (e1x : Nat) (r1x : Nat) (j10 : Int32) (j11 : Int32) (j2 : Int32) (j3 : Int32) (j4 : Int32) (j6 : Int32) (wx : Int64), r = 1 ∧ u = [(mo, .inr (6, [.int 0, .ref q1, .int (nI g), .ref q3, .ref q4, .ref q5, .ref q6, .int 1, .int gr, .int kd, .long wx, .ref q11, .int mk, .long w13, .long w14])), (q3, .inl (cI, 800, .inl m3)), (q5, .inl (cI, 800, .inl m5)), (q6, .inl (cI, 2, .inl (jl [nI n, nI n2]))), (q11, .inl (cI, 24, .inl (jl [nI e0x, nI e1x, j2, j3, j4, nI d1x, j6, nI r1x, 2, 1, j10, j11, t12, t13, t14, t15, t16, t17, t18, t19, t20, t21, t22, t23])))] ∧ (e0x ≤ 400) ∧ (e1x ≤ 400) ∧ (r1x < d1x) ∧ (d1x ≤ 400)) ∨ (∃ (e0x : Nat) (e1x : Nat) (j10 : Int32) (j11 : Int32) (j2 : Int32) (j3 : Int32) (j4 : Int32) (j5 : Int32) (j6 : Int32) (j7 : Int32) (j8 : Int32) (wx : Int64), r = 0 ∧ u = [(mo, .inr (6, [.int 0, .ref q1, .int (nI g), .ref q3, .ref q4, .ref q5, .ref q6, .int 1, .int gr, .int kd, .long wx, .ref q11, .int mk, .long w13, .long w14])), (q3, .inl (cI, 800, .inl m3)), (q5, .inl (cI, 800, .inl m5)), (q6, .inl (cI, 2, .inl (jl [nI n, nI n2]))), (q11, .inl (cI, 24, .inl (jl [nI e0x, nI e1x, j2, j3, j4, j5, j6, j7, j8, 0, j10, j11, t12, t13, t14, t15, t16, t17, t18, t19, t20, t21, t22, t23])))] ∧ (e0x ≤ 400) ∧ (e1x ≤ 400))) (jw_B D vwCl (va_A [(mo, .inr (6, [.int z0, .ref q1, .int (nI g), .ref q3, .ref q4, .ref q5, .ref q6, .int 1, .int gr, .int kd, .long w10, .ref q11, .int mk, .long w13, .long w14])), (q3, .inl (cI, 800, .inl m3)), (q5, .inl (cI, 800, .inl m5)), (q6, .inl (cI, 2, .inl (jl [nI n, nI n2]))), (q11, .inl (cI, 24, .inl (jl [nI e0, nI e1, t2, t3, nI d0, t5, nI r0, t7, 1, 1, t10, t11, t12, t13, t14, t15, t16, t17, t18, t19, t20, t21, t22, t23])))] sz) (fun u : va_W => u)) (va_A [(mo, .inr (6, [.int z0, .ref q1, .int (nI g), .ref q3, .ref q4, .ref q5, .ref q6, .int 1, .int gr, .int kd, .long w10, .ref q11, .int mk, .long w13, .long w14])), (q3, .inl (cI, 800, .inl m3)), (q5, .inl (cI, 800, .inl m5)), (q6, .inl (cI, 2, .inl (jl [nI n, nI n2]))), (q11, .inl (cI, 24, .inl (jl [nI e0, nI e1, t2, t3, nI d0, t5, nI r0, t7, 1, 1, t10, t11, t12, t13, t14, t15, t16, t17, t18, t19, t20, t21, t22, t23])))] sz)) 0 0 (va_A [(mo, .inr (6, [.int z0, .ref q1, .int (nI g), .ref q3, .ref q4, .ref q5, .ref q6, .int 1, .int gr, .int kd, .long w10, .ref q11, .int mk, .long w13, .long w14])), (q3, .inl (cI, 800, .inl m3)), (q5, .inl (cI, 800, .inl m5)), (q6, .inl (cI, 2, .inl (jl [nI n, nI n2]))), (q11, .inl (cI, 24, .inl (jl [nI e0, nI e1, t2, t3, nI d0, t5, nI r0, t7, 1, 1, t10, t11, t12, t13, t14, t15, t16, t17, t18, t19, t20, t21, t22, t23])))] sz) := by
  refine Met.ofW (cc := cX6_next) (maxL := 5) (ret := (some .boolean)) (by decide) rfl ?_
  intro p e s m args below meth c s₁ B hml hv
  obtain ⟨rfl, hsz, hP, hK, hN, hD0⟩ := hv
  have hx := B.exec
  have hb := B.bytes
  have hr := B.returns
  have hts := atoms_spec (ws := wsX6_next) B.pre
  have hown : s.vm.findClass RX6 = some m.cls := findClass_of_methodNamed B.named
  have hlocks := B.notSynchronized
  subst hsz
  have hD := hD0.self (sz := s.heap.size)
  generalize hAe : va_A [(mo, .inr (6, [.int z0, .ref q1, .int (nI g), .ref q3, .ref q4, .ref q5, .ref q6, .int 1, .int gr, .int kd, .long w10, .ref q11, .int mk, .long w13, .long w14])), (q3, .inl (cI, 800, .inl m3)), (q5, .inl (cI, 800, .inl m5)), (q6, .inl (cI, 2, .inl (jl [nI n, nI n2]))), (q11, .inl (cI, 24, .inl (jl [nI e0, nI e1, t2, t3, nI d0, t5, nI r0, t7, 1, 1, t10, t11, t12, t13, t14, t15, t16, t17, t18, t19, t20, t21, t22, t23])))] s.heap.size = A at hD ⊢
  have hA : ∀ q : Nat, s.heap.size ≤ q → A q := fun q h => by rw [← hAe]; exact Or.inr h
  have hS : va_S A s.heap s.heap [] := va_S.rf
  have hl := lv_entry ([.ref mo]) (n := 5) (Nat.le_of_ble_eq_true rfl)
  rw [lg_entry_eq]
  generalize (lg_sl ([.ref mo]) ++ List.replicate (5 - (lg_sl ([.ref mo])).length) Slot.unset).toArray = ls at hl ⊢
  have hl : lv_has ls 5 [(0, .ref mo)] := hl
  refine lv_aload_n hx hb dX6_next_0 rfl (lv_at hl 0 rfl) ?_
  refine lv_aload_n hx hb dX6_next_1 rfl (lv_at hl 0 rfl) ?_
  refine va_get (D := D) (ci := 6) (v := .int 1) (C := RX6) (T := TX6) (N := 15) hx hb hts (by decide +kernel) hown hK hP 0 rfl rfl 7 (by decide) (hts (.fieldLink RX6 43 "JoinDeskModel" "prepared" "Z") (by decide +kernel)) (fun _ h9 => h9) rfl dX6_next_2 ?_
  refine lv_if_eq (tgt := 12) hx hb dX6_next_5 (by decide) (fun c_1 => absurd c_1 (by decide)) (fun c_1 => ?_)
  refine lv_iconst (v := 0) hx hb dX6_next_8 (by decide) ?_
  refine lv_goto (tgt := 13) hx hb dX6_next_9 (by decide) ?_
  refine jw_i (wr := [(q3, .inl (cI, 800, .inl m3)), (q5, .inl (cI, 800, .inl m5)), (q6, .inl (cI, 2, .inl (jl [nI n, nI n2]))), (q11, .inl (cI, 24, .inl (jl [nI e0, nI e1, t2, t3, nI d0, t5, nI r0, t7, 1, 1, t10, t11, t12, t13, t14, t15, t16, t17, t18, t19, t20, t21, t22, t23])))]) (va_runV (As := [.int 0]) (rest := []) ⟨hx, hb, hml, hown, hts⟩ (gM_refuses_0 l D cI cL cQ mo g q1 q3 q4 q5 q6 q11 z0 1 gr kd mk w10 w13 w14 _) (cwV 1 hts gX6_next_X6_refuses rfl rfl rfl (by decide +kernel) ⟨Nat.le_of_ble_eq_true rfl, Nat.le_of_ble_eq_true rfl⟩) (jw_V hK hN hP hD [0] (by decide) rfl 6 0 rfl rfl rfl) rfl rfl hl.1 rfl (lv_room (Nat.le_of_ble_eq_true rfl)) dX6_next_13 ⟨Nat.le_of_ble_eq_true rfl, Nat.le_of_ble_eq_true rfl⟩) hP hD hS hA [0] [1, 2, 3, 4] rfl rfl (by decide) (by decide) (fun r u H locs f_2 hP hD hS => ?_)
  obtain ⟨rfl, rfl⟩ := f_2
  have hP : va_P D vwCl [(q3, .inl (cI, 800, .inl m3)), (q5, .inl (cI, 800, .inl m5)), (q6, .inl (cI, 2, .inl (jl [nI n, nI n2]))), (q11, .inl (cI, 24, .inl (jl [nI e0, nI e1, t2, t3, nI d0, t5, nI r0, t7, 1, 1, t10, t11, t12, t13, t14, t15, t16, t17, t18, t19, t20, t21, t22, t23]))), (mo, .inr (6, [.int 0, .ref q1, .int (nI g), .ref q3, .ref q4, .ref q5, .ref q6, .int 1, .int gr, .int kd, .long w10, .ref q11, .int mk, .long w13, .long w14]))] H := hP
  have hD : va_D A [(q3, .inl (cI, 800, .inl m3)), (q5, .inl (cI, 800, .inl m5)), (q6, .inl (cI, 2, .inl (jl [nI n, nI n2]))), (q11, .inl (cI, 24, .inl (jl [nI e0, nI e1, t2, t3, nI d0, t5, nI r0, t7, 1, 1, t10, t11, t12, t13, t14, t15, t16, t17, t18, t19, t20, t21, t22, t23]))), (mo, .inr (6, [.int 0, .ref q1, .int (nI g), .ref q3, .ref q4, .ref q5, .ref q6, .int 1, .int gr, .int kd, .long w10, .ref q11, .int mk, .long w13, .long w14]))] := hD
  refine lv_if_eq (tgt := 21) hx hb dX6_next_16 (by decide) (fun c_3 => ?_) (fun c_3 => absurd c_3 (by decide))
  refine lv_aload_n hx hb dX6_next_21 rfl (lv_at hl 0 rfl) ?_
  refine va_get (D := D) (ci := 6) (v := .ref q11) (C := RX6) (T := TX6) (N := 15) hx hb hts (by decide +kernel) hown hK hP 4 rfl rfl 11 (by decide) (hts (.fieldLink RX6 25 "JoinDeskModel" "at" "[I") (by decide +kernel)) (fun _ h9 => h9) rfl dX6_next_22 ?_
  refine lv_bipush (v := 9) hx hb dX6_next_25 (by decide) ?_
  refine va_iald hx hb hK hP 3 0 rfl rfl (by unfold vp_in; decide) dX6_next_27 ?_
  refine W.eq (g2 := F0 m 28 ls [.int 1]) rfl ?_
  refine lv_iconst (v := 1) hx hb dX6_next_28 (by decide) ?_
  refine lv_icmp_ne (tgt := 52) hx hb dX6_next_29 (by decide) (fun c_4 => absurd c_4 (by decide)) (fun c_4 => ?_)
  refine lv_aload_n hx hb dX6_next_32 rfl (lv_at hl 0 rfl) ?_
  refine jw_i (wr := [(q3, .inl (cI, 800, .inl m3)), (q5, .inl (cI, 800, .inl m5)), (q6, .inl (cI, 2, .inl (jl [nI n, nI n2])))]) (va_runV (As := []) (rest := []) ⟨hx, hb, hml, hown, hts⟩ (gM_steps_1 l D cI cL cQ mo g q1 q3 q4 q5 q6 q11 0 1 gr kd mk w10 w13 w14 t2 t3 t5 t7 t10 t11 t12 t13 t14 t15 t16 t17 t18 t19 t20 t21 t22 t23 e0 e1 d0 r0 _ (by first | assumption | decide | omega) (by first | assumption | decide | omega)) (cwV 0 hts gX6_next_X6_steps rfl rfl rfl (by decide +kernel) ⟨Nat.le_of_ble_eq_true rfl, Nat.le_of_ble_eq_true rfl⟩) (jw_V hK hN hP hD [4, 3] (by decide) rfl 6 4 rfl rfl rfl) rfl rfl hl.1 rfl (lv_room (Nat.le_of_ble_eq_true rfl)) dX6_next_33 ⟨Nat.le_of_ble_eq_true rfl, Nat.le_of_ble_eq_true rfl⟩) hP hD hS hA [4, 3] [0, 1, 2] rfl rfl (by decide) (by decide) (fun r u H locs f_5 hP hD hS => ?_)
  rcases f_5 with ⟨rfl, rfl, f_6⟩ | ⟨rfl, rfl⟩
  · have hP : va_P D vwCl [(q3, .inl (cI, 800, .inl m3)), (q5, .inl (cI, 800, .inl m5)), (q6, .inl (cI, 2, .inl (jl [nI n, nI n2]))), (mo, .inr (6, [.int 0, .ref q1, .int (nI g), .ref q3, .ref q4, .ref q5, .ref q6, .int 1, .int gr, .int kd, .long w10, .ref q11, .int mk, .long w13, .long w14])), (q11, .inl (cI, 24, .inl (jl [nI e0, nI e1, t2, t3, nI d0, t5, nI (r0 + 1), t7, 1, 1, t10, t11, t12, t13, t14, t15, t16, t17, t18, t19, t20, t21, t22, t23])))] H := hP
    have hD : va_D A [(q3, .inl (cI, 800, .inl m3)), (q5, .inl (cI, 800, .inl m5)), (q6, .inl (cI, 2, .inl (jl [nI n, nI n2]))), (mo, .inr (6, [.int 0, .ref q1, .int (nI g), .ref q3, .ref q4, .ref q5, .ref q6, .int 1, .int gr, .int kd, .long w10, .ref q11, .int mk, .long w13, .long w14])), (q11, .inl (cI, 24, .inl (jl [nI e0, nI e1, t2, t3, nI d0, t5, nI (r0 + 1), t7, 1, 1, t10, t11, t12, t13, t14, t15, t16, t17, t18, t19, t20, t21, t22, t23])))] := hD
    refine lv_if_eq (tgt := 52) hx hb dX6_next_36 (by decide) (fun c_7 => absurd c_7 (by decide)) (fun c_7 => ?_)
    refine lv_aload_n hx hb dX6_next_39 rfl (lv_at hl 0 rfl) ?_
    refine va_get (D := D) (ci := 6) (v := .ref q11) (C := RX6) (T := TX6) (N := 15) hx hb hts (by decide +kernel) hown hK hP 3 rfl rfl 11 (by decide) (hts (.fieldLink RX6 25 "JoinDeskModel" "at" "[I") (by decide +kernel)) (fun _ h9 => h9) rfl dX6_next_40 ?_
    refine lv_bipush (v := 10) hx hb dX6_next_43 (by decide) ?_
    refine lv_dup2_11 hx hb dX6_next_45 rfl rfl ?_
    refine va_iald hx hb hK hP 4 0 rfl rfl (by unfold vp_in; decide) dX6_next_46 ?_
    refine W.eq (g2 := F0 m 47 ls [.int t10, .int 10, .ref q11]) rfl ?_
    refine lv_iconst (v := 1) hx hb dX6_next_47 (by decide) ?_
    refine lv_iadd hx hb dX6_next_48 ?_
    refine va_iast hx hb hK hP hD hS 4 0 rfl rfl (by unfold vp_in; decide) dX6_next_49 (fun H locs hP hD hS => ?_)
    rw [jl_upd (show (10 : Int32).toNatClampNeg = 10 by decide) (Nat.le_of_ble_eq_true rfl)] at hP hD
    have hP : va_P D vwCl [(q3, .inl (cI, 800, .inl m3)), (q5, .inl (cI, 800, .inl m5)), (q6, .inl (cI, 2, .inl (jl [nI n, nI n2]))), (mo, .inr (6, [.int 0, .ref q1, .int (nI g), .ref q3, .ref q4, .ref q5, .ref q6, .int 1, .int gr, .int kd, .long w10, .ref q11, .int mk, .long w13, .long w14])), (q11, .inl (cI, 24, .inl (jl [nI e0, nI e1, t2, t3, nI d0, t5, nI (r0 + 1), t7, 1, 1, t10 + 1, t11, t12, t13, t14, t15, t16, t17, t18, t19, t20, t21, t22, t23])))] H := hP
    have hD : va_D A [(q3, .inl (cI, 800, .inl m3)), (q5, .inl (cI, 800, .inl m5)), (q6, .inl (cI, 2, .inl (jl [nI n, nI n2]))), (mo, .inr (6, [.int 0, .ref q1, .int (nI g), .ref q3, .ref q4, .ref q5, .ref q6, .int 1, .int gr, .int kd, .long w10, .ref q11, .int mk, .long w13, .long w14])), (q11, .inl (cI, 24, .inl (jl [nI e0, nI e1, t2, t3, nI d0, t5, nI (r0 + 1), t7, 1, 1, t10 + 1, t11, t12, t13, t14, t15, t16, t17, t18, t19, t20, t21, t22, t23])))] := hD
    refine lv_iconst (v := 1) hx hb dX6_next_50 (by decide) ?_
    have hP := hP.sub (ws' := [(mo, .inr (6, [.int 0, .ref q1, .int (nI g), .ref q3, .ref q4, .ref q5, .ref q6, .int 1, .int gr, .int kd, .long w10, .ref q11, .int mk, .long w13, .long w14])), (q3, .inl (cI, 800, .inl m3)), (q5, .inl (cI, 800, .inl m5)), (q6, .inl (cI, 2, .inl (jl [nI n, nI n2]))), (q11, .inl (cI, 24, .inl (jl [nI e0, nI e1, t2, t3, nI d0, t5, nI (r0 + 1), t7, 1, 1, t10 + 1, t11, t12, t13, t14, t15, t16, t17, t18, t19, t20, t21, t22, t23])))]) [3, 0, 1, 2, 4] rfl
    have hD := hD.sub (ws' := [(mo, .inr (6, [.int 0, .ref q1, .int (nI g), .ref q3, .ref q4, .ref q5, .ref q6, .int 1, .int gr, .int kd, .long w10, .ref q11, .int mk, .long w13, .long w14])), (q3, .inl (cI, 800, .inl m3)), (q5, .inl (cI, 800, .inl m5)), (q6, .inl (cI, 2, .inl (jl [nI n, nI n2]))), (q11, .inl (cI, 24, .inl (jl [nI e0, nI e1, t2, t3, nI d0, t5, nI (r0 + 1), t7, 1, 1, t10 + 1, t11, t12, t13, t14, t15, t16, t17, t18, t19, t20, t21, t22, t23])))]) [3, 0, 1, 2, 4] (by decide) rfl
    refine W.widen (k := 0) (n := 0) (by omega) (by omega) ?_
    exact W.zret (v := 1) (ty := .boolean) hx hb hr rfl (fun t ht hW => ⟨⟨1, [(mo, .inr (6, [.int 0, .ref q1, .int (nI g), .ref q3, .ref q4, .ref q5, .ref q6, .int 1, .int gr, .int kd, .long w10, .ref q11, .int mk, .long w13, .long w14])), (q3, .inl (cI, 800, .inl m3)), (q5, .inl (cI, 800, .inl m5)), (q6, .inl (cI, 2, .inl (jl [nI n, nI n2]))), (q11, .inl (cI, 24, .inl (jl [nI e0, nI e1, t2, t3, nI d0, t5, nI (r0 + 1), t7, 1, 1, t10 + 1, t11, t12, t13, t14, t15, t16, t17, t18, t19, t20, t21, t22, t23])))], rfl, (by exact (Or.inr (Or.inl ⟨_, _, _, _, _, _, _, _, _, _, _, rfl, rfl, by omega, by omega, by omega, by omega⟩))), by rw [ht]; exact hP, hD⟩, hS.F ht⟩) hS.2.2 dX6_next_51
  · have hP : va_P D vwCl [(q3, .inl (cI, 800, .inl m3)), (q5, .inl (cI, 800, .inl m5)), (q6, .inl (cI, 2, .inl (jl [nI n, nI n2]))), (mo, .inr (6, [.int 0, .ref q1, .int (nI g), .ref q3, .ref q4, .ref q5, .ref q6, .int 1, .int gr, .int kd, .long w10, .ref q11, .int mk, .long w13, .long w14])), (q11, .inl (cI, 24, .inl (jl [nI e0, nI e1, t2, t3, nI d0, t5, nI (r0 + 1), t7, 1, 1, t10, t11, t12, t13, t14, t15, t16, t17, t18, t19, t20, t21, t22, t23])))] H := hP
    have hD : va_D A [(q3, .inl (cI, 800, .inl m3)), (q5, .inl (cI, 800, .inl m5)), (q6, .inl (cI, 2, .inl (jl [nI n, nI n2]))), (mo, .inr (6, [.int 0, .ref q1, .int (nI g), .ref q3, .ref q4, .ref q5, .ref q6, .int 1, .int gr, .int kd, .long w10, .ref q11, .int mk, .long w13, .long w14])), (q11, .inl (cI, 24, .inl (jl [nI e0, nI e1, t2, t3, nI d0, t5, nI (r0 + 1), t7, 1, 1, t10, t11, t12, t13, t14, t15, t16, t17, t18, t19, t20, t21, t22, t23])))] := hD
    refine lv_if_eq (tgt := 52) hx hb dX6_next_36 (by decide) (fun c_8 => ?_) (fun c_8 => absurd c_8 (by decide))
    refine lv_aload_n hx hb dX6_next_52 rfl (lv_at hl 0 rfl) ?_
    refine va_get (D := D) (ci := 6) (v := .ref q11) (C := RX6) (T := TX6) (N := 15) hx hb hts (by decide +kernel) hown hK hP 3 rfl rfl 11 (by decide) (hts (.fieldLink RX6 25 "JoinDeskModel" "at" "[I") (by decide +kernel)) (fun _ h9 => h9) rfl dX6_next_53 ?_
    refine lv_bipush (v := 9) hx hb dX6_next_56 (by decide) ?_
    refine lv_iconst (v := 0) hx hb dX6_next_58 (by decide) ?_
    refine va_iast hx hb hK hP hD hS 4 0 rfl rfl (by unfold vp_in; decide) dX6_next_59 (fun H locs hP hD hS => ?_)
    rw [jl_upd (show (9 : Int32).toNatClampNeg = 9 by decide) (Nat.le_of_ble_eq_true rfl)] at hP hD
    have hP : va_P D vwCl [(q3, .inl (cI, 800, .inl m3)), (q5, .inl (cI, 800, .inl m5)), (q6, .inl (cI, 2, .inl (jl [nI n, nI n2]))), (mo, .inr (6, [.int 0, .ref q1, .int (nI g), .ref q3, .ref q4, .ref q5, .ref q6, .int 1, .int gr, .int kd, .long w10, .ref q11, .int mk, .long w13, .long w14])), (q11, .inl (cI, 24, .inl (jl [nI e0, nI e1, t2, t3, nI d0, t5, nI (r0 + 1), t7, 1, 0, t10, t11, t12, t13, t14, t15, t16, t17, t18, t19, t20, t21, t22, t23])))] H := hP
    have hD : va_D A [(q3, .inl (cI, 800, .inl m3)), (q5, .inl (cI, 800, .inl m5)), (q6, .inl (cI, 2, .inl (jl [nI n, nI n2]))), (mo, .inr (6, [.int 0, .ref q1, .int (nI g), .ref q3, .ref q4, .ref q5, .ref q6, .int 1, .int gr, .int kd, .long w10, .ref q11, .int mk, .long w13, .long w14])), (q11, .inl (cI, 24, .inl (jl [nI e0, nI e1, t2, t3, nI d0, t5, nI (r0 + 1), t7, 1, 0, t10, t11, t12, t13, t14, t15, t16, t17, t18, t19, t20, t21, t22, t23])))] := hD
    have hP := hP.sub (ws' := [(mo, .inr (6, [.int 0, .ref q1, .int (nI g), .ref q3, .ref q4, .ref q5, .ref q6, .int 1, .int gr, .int kd, .long w10, .ref q11, .int mk, .long w13, .long w14])), (q3, .inl (cI, 800, .inl m3)), (q5, .inl (cI, 800, .inl m5)), (q6, .inl (cI, 2, .inl (jl [nI n, nI n2]))), (q11, .inl (cI, 24, .inl (jl [nI e0, nI e1, t2, t3, nI d0, t5, nI (r0 + 1), t7, 1, 0, t10, t11, t12, t13, t14, t15, t16, t17, t18, t19, t20, t21, t22, t23])))]) [3, 0, 1, 2, 4] rfl
    have hD := hD.sub (ws' := [(mo, .inr (6, [.int 0, .ref q1, .int (nI g), .ref q3, .ref q4, .ref q5, .ref q6, .int 1, .int gr, .int kd, .long w10, .ref q11, .int mk, .long w13, .long w14])), (q3, .inl (cI, 800, .inl m3)), (q5, .inl (cI, 800, .inl m5)), (q6, .inl (cI, 2, .inl (jl [nI n, nI n2]))), (q11, .inl (cI, 24, .inl (jl [nI e0, nI e1, t2, t3, nI d0, t5, nI (r0 + 1), t7, 1, 0, t10, t11, t12, t13, t14, t15, t16, t17, t18, t19, t20, t21, t22, t23])))]) [3, 0, 1, 2, 4] (by decide) rfl
    have hloop_1 : ∀ (k_1 : Nat) (b0 : Nat) (b1 : Nat) (l2 : Int32) (l3 : Int32) (l4 : Int32) (l5 : Int32) (l6 : Int32) (l7 : Int32) (l8 : Int32) (l10 : Int32) (l11 : Int32) (wl : Int64), (n - b0) + (n2 - b1) < k_1 → (b0 ≤ 400) → (b1 ≤ 400) → ∀ (H : Heap) (locs : List Loc), va_P D vwCl [(mo, .inr (6, [.int 0, .ref q1, .int (nI g), .ref q3, .ref q4, .ref q5, .ref q6, .int 1, .int gr, .int kd, .long wl, .ref q11, .int mk, .long w13, .long w14])), (q3, .inl (cI, 800, .inl m3)), (q5, .inl (cI, 800, .inl m5)), (q6, .inl (cI, 2, .inl (jl [nI n, nI n2]))), (q11, .inl (cI, 24, .inl (jl [nI b0, nI b1, l2, l3, l4, l5, l6, l7, l8, 0, l10, l11, t12, t13, t14, t15, t16, t17, t18, t19, t20, t21, t22, t23])))] H → va_D A [(mo, .inr (6, [.int 0, .ref q1, .int (nI g), .ref q3, .ref q4, .ref q5, .ref q6, .int 1, .int gr, .int kd, .long wl, .ref q11, .int mk, .long w13, .long w14])), (q3, .inl (cI, 800, .inl m3)), (q5, .inl (cI, 800, .inl m5)), (q6, .inl (cI, 2, .inl (jl [nI n, nI n2]))), (q11, .inl (cI, 24, .inl (jl [nI b0, nI b1, l2, l3, l4, l5, l6, l7, l8, 0, l10, l11, t12, t13, t14, t15, t16, t17, t18, t19, t20, t21, t22, t23])))] → va_S A s.heap H locs → ∀ ls : Array Slot, lv_has ls 5 [(0, .ref mo)] → W p l e (headSpec wsX6_next ({ frames := 2, cells := 0, slots := 0, locals := 45 })).room s m #[.ref mo] below meth c H locs 0 0 (MQ below (va_Qi (fun (r : Int32) (u : va_W) => (∃ (d0x : Nat) (d1x : Nat) (e0x : Nat) (e1x : Nat) (f1x : Nat) (r0x : Nat) (r1x : Nat) (j10 : Int32) (j11 : Int32) (j2 : Int32) (wx : Int64), r = 1 ∧ u = [(mo, .inr (6, [.int 0, .ref q1, .int (nI g), .ref q3, .ref q4, .ref q5, .ref q6, .int 1, .int gr, .int kd, .long wx, .ref q11, .int mk, .long w13, .long w14])), (q3, .inl (cI, 800, .inl m3)), (q5, .inl (cI, 800, .inl m5)), (q6, .inl (cI, 2, .inl (jl [nI n, nI n2]))), (q11, .inl (cI, 24, .inl (jl [nI e0x, nI e1x, j2, nI f1x, nI d0x, nI d1x, nI r0x, nI r1x, 0, 1, j10, j11, t12, t13, t14, t15, t16, t17, t18, t19, t20, t21, t22, t23])))] ∧ (e0x ≤ 400) ∧ (e1x ≤ 400) ∧ (f1x < d1x) ∧ (r0x < d0x) ∧ (r1x < d1x) ∧ (d0x ≤ 400) ∧ (d1x ≤ 400)) ∨ (∃ (d0x : Nat) (e0x : Nat) (e1x : Nat) (r0x : Nat) (j10 : Int32) (j11 : Int32) (j2 : Int32) (j3 : Int32) (j5 : Int32) (j7 : Int32) (wx : Int64), r = 1 ∧ u = [(mo, .inr (6, [.int 0, .ref q1, .int (nI g), .ref q3, .ref q4, .ref q5, .ref q6, .int 1, .int gr, .int kd, .long wx, .ref q11, .int mk, .long w13, .long w14])), (q3, .inl (cI, 800, .inl m3)), (q5, .inl (cI, 800, .inl m5)), (q6, .inl (cI, 2, .inl (jl [nI n, nI n2]))), (q11, .inl (cI, 24, .inl (jl [nI e0x, nI e1x, j2, j3, nI d0x, j5, nI r0x, j7, 1, 1, j10, j11, t12, t13, t14, t15, t16, t17, t18, t19, t20, t21, t22, t23])))] ∧ (e0x ≤ 400) ∧ (e1x ≤ 400) ∧ (r0x < d0x) ∧ (d0x ≤ 400)) ∨ (∃ (d1x : Nat) (e0x : Nat) (e1x : Nat) (r1x : Nat) (j10 : Int32) (j11 : Int32) (j2 : Int32) (j3 : Int32) (j4 : Int32) (j6 : Int32) (wx : Int64), r = 1 ∧ u = [(mo, .inr (6, [.int 0, .ref q1, .int (nI g), .ref q3, .ref q4, .ref q5, .ref q6, .int 1, .int gr, .int kd, .long wx, .ref q11, .int mk, .long w13, .long w14])), (q3, .inl (cI, 800, .inl m3)), (q5, .inl (cI, 800, .inl m5)), (q6, .inl (cI, 2, .inl (jl [nI n, nI n2]))), (q11, .inl (cI, 24, .inl (jl [nI e0x, nI e1x, j2, j3, j4, nI d1x, j6, nI r1x, 2, 1, j10, j11, t12, t13, t14, t15, t16, t17, t18, t19, t20, t21, t22, t23])))] ∧ (e0x ≤ 400) ∧ (e1x ≤ 400) ∧ (r1x < d1x) ∧ (d1x ≤ 400)) ∨ (∃ (e0x : Nat) (e1x : Nat) (j10 : Int32) (j11 : Int32) (j2 : Int32) (j3 : Int32) (j4 : Int32) (j5 : Int32) (j6 : Int32) (j7 : Int32) (j8 : Int32) (wx : Int64), r = 0 ∧ u = [(mo, .inr (6, [.int 0, .ref q1, .int (nI g), .ref q3, .ref q4, .ref q5, .ref q6, .int 1, .int gr, .int kd, .long wx, .ref q11, .int mk, .long w13, .long w14])), (q3, .inl (cI, 800, .inl m3)), (q5, .inl (cI, 800, .inl m5)), (q6, .inl (cI, 2, .inl (jl [nI n, nI n2]))), (q11, .inl (cI, 24, .inl (jl [nI e0x, nI e1x, j2, j3, j4, j5, j6, j7, j8, 0, j10, j11, t12, t13, t14, t15, t16, t17, t18, t19, t20, t21, t22, t23])))] ∧ (e0x ≤ 400) ∧ (e1x ≤ 400))) (jw_B D vwCl A (fun u : va_W => u)) A) #[.ref mo] s 0 0 A) (F0 m 60 ls []) := by
      intro k_1
      induction k_1 with
      | zero => exact fun _ _ _ _ _ _ _ _ _ _ _ _ hm => absurd hm (Nat.not_lt_zero _)
      | succ k_1 ih_1 =>
        intro b0 b1 l2 l3 l4 l5 l6 l7 l8 l10 l11 wl hm1 hb0 hb1 H locs hP hD hS ls hl
        refine lv_aload_n hx hb dX6_next_60 rfl (lv_at hl 0 rfl) ?_
        refine va_get (D := D) (ci := 6) (v := .ref q11) (C := RX6) (T := TX6) (N := 15) hx hb hts (by decide +kernel) hown hK hP 0 rfl rfl 11 (by decide) (hts (.fieldLink RX6 25 "JoinDeskModel" "at" "[I") (by decide +kernel)) (fun _ h9 => h9) rfl dX6_next_61 ?_
        refine lv_iconst (v := 0) hx hb dX6_next_64 (by decide) ?_
        refine va_iald hx hb hK hP 4 0 rfl rfl (by unfold vp_in; decide) dX6_next_65 ?_
        refine W.eq (g2 := F0 m 66 ls [.int (nI b0)]) rfl ?_
        refine lv_aload_n hx hb dX6_next_66 rfl (lv_at hl 0 rfl) ?_
        refine va_get (D := D) (ci := 6) (v := .ref q6) (C := RX6) (T := TX6) (N := 15) hx hb hts (by decide +kernel) hown hK hP 0 rfl rfl 6 (by decide) (hts (.fieldLink RX6 22 "JoinDeskModel" "many" "[I") (by decide +kernel)) (fun _ h9 => h9) rfl dX6_next_67 ?_
        refine lv_iconst (v := 0) hx hb dX6_next_70 (by decide) ?_
        refine va_iald hx hb hK hP 3 0 rfl rfl (by unfold vp_in; decide) dX6_next_71 ?_
        refine W.eq (g2 := F0 m 72 ls [.int (nI n), .int (nI b0)]) rfl ?_
        refine lv_icmp_lt (tgt := 90) hx hb dX6_next_72 (by decide) (fun cl0 => ?_) (fun cl0 => ?_)
        · refine lv_aload_n hx hb dX6_next_90 rfl (lv_at hl 0 rfl) ?_
          refine va_get (D := D) (ci := 6) (v := .ref q11) (C := RX6) (T := TX6) (N := 15) hx hb hts (by decide +kernel) hown hK hP 0 rfl rfl 11 (by decide) (hts (.fieldLink RX6 25 "JoinDeskModel" "at" "[I") (by decide +kernel)) (fun _ h9 => h9) rfl dX6_next_91 ?_
          refine lv_iconst (v := 0) hx hb dX6_next_94 (by decide) ?_
          refine va_iald hx hb hK hP 4 0 rfl rfl (by unfold vp_in; decide) dX6_next_95 ?_
          refine W.eq (g2 := F0 m 96 ls [.int (nI b0)]) rfl ?_
          refine lv_aload_n hx hb dX6_next_96 rfl (lv_at hl 0 rfl) ?_
          refine va_get (D := D) (ci := 6) (v := .ref q6) (C := RX6) (T := TX6) (N := 15) hx hb hts (by decide +kernel) hown hK hP 0 rfl rfl 6 (by decide) (hts (.fieldLink RX6 22 "JoinDeskModel" "many" "[I") (by decide +kernel)) (fun _ h9 => h9) rfl dX6_next_97 ?_
          refine lv_iconst (v := 0) hx hb dX6_next_100 (by decide) ?_
          refine va_iald hx hb hK hP 3 0 rfl rfl (by unfold vp_in; decide) dX6_next_101 ?_
          refine W.eq (g2 := F0 m 102 ls [.int (nI n), .int (nI b0)]) rfl ?_
          refine lv_icmp_ge (tgt := 109) hx hb dX6_next_102 (by decide) (fun cl1 => absurd cl1 (by exact j_nle cl0)) (fun cl1 => ?_)
          refine lv_iconst (v := 1) hx hb dX6_next_105 (by decide) ?_
          refine lv_goto (tgt := 110) hx hb dX6_next_106 (by decide) ?_
          refine lv_istore_n (lv' := [(1, .int 1), (0, .ref mo)]) hx hb dX6_next_110 rfl hl (by decide) rfl (fun ls hl => ?_)
          refine lv_aload_n hx hb dX6_next_111 rfl (lv_at hl 1 rfl) ?_
          refine va_get (D := D) (ci := 6) (v := .ref q11) (C := RX6) (T := TX6) (N := 15) hx hb hts (by decide +kernel) hown hK hP 0 rfl rfl 11 (by decide) (hts (.fieldLink RX6 25 "JoinDeskModel" "at" "[I") (by decide +kernel)) (fun _ h9 => h9) rfl dX6_next_112 ?_
          refine lv_iconst (v := 1) hx hb dX6_next_115 (by decide) ?_
          refine va_iald hx hb hK hP 4 0 rfl rfl (by unfold vp_in; decide) dX6_next_116 ?_
          refine W.eq (g2 := F0 m 117 ls [.int (nI b1)]) rfl ?_
          refine lv_aload_n hx hb dX6_next_117 rfl (lv_at hl 1 rfl) ?_
          refine va_get (D := D) (ci := 6) (v := .ref q6) (C := RX6) (T := TX6) (N := 15) hx hb hts (by decide +kernel) hown hK hP 0 rfl rfl 6 (by decide) (hts (.fieldLink RX6 22 "JoinDeskModel" "many" "[I") (by decide +kernel)) (fun _ h9 => h9) rfl dX6_next_118 ?_
          refine lv_iconst (v := 1) hx hb dX6_next_121 (by decide) ?_
          refine va_iald hx hb hK hP 3 0 rfl rfl (by unfold vp_in; decide) dX6_next_122 ?_
          refine W.eq (g2 := F0 m 123 ls [.int (nI n2), .int (nI b1)]) rfl ?_
          refine lv_icmp_ge (tgt := 130) hx hb dX6_next_123 (by decide) (fun cr1 => ?_) (fun cr1 => ?_)
          · refine lv_iconst (v := 0) hx hb dX6_next_130 (by decide) ?_
            refine lv_istore_n (lv' := [(2, .int 0), (1, .int 1), (0, .ref mo)]) hx hb dX6_next_131 rfl hl (by decide) rfl (fun ls hl => ?_)
            refine lv_iload_n hx hb dX6_next_132 rfl (lv_at hl 1 rfl) ?_
            refine lv_if_eq (tgt := 201) hx hb dX6_next_133 (by decide) (fun c_9 => absurd c_9 (by decide)) (fun c_9 => ?_)
            refine lv_iload_n hx hb dX6_next_136 rfl (lv_at hl 0 rfl) ?_
            refine lv_if_eq (tgt := 201) hx hb dX6_next_137 (by decide) (fun c_10 => ?_) (fun c_10 => absurd c_10 (by decide))
            refine lv_iload_n hx hb dX6_next_201 rfl (lv_at hl 1 rfl) ?_
            refine lv_if_eq (tgt := 210) hx hb dX6_next_202 (by decide) (fun c_11 => absurd c_11 (by decide)) (fun c_11 => ?_)
            refine lv_aload_n hx hb dX6_next_205 rfl (lv_at hl 2 rfl) ?_
            refine lv_iconst (v := 0) hx hb dX6_next_206 (by decide) ?_
            refine jw_v (wr := []) (va_runV (As := [.int 0]) (rest := []) ⟨hx, hb, hml, hown, hts⟩ (gM_goes_0 l D cI cL cQ mo g n n2 q1 q3 q4 q5 q6 q11 0 1 gr kd mk wl w13 w14 m3 m5 (nI b1) l2 l3 l4 l5 l6 l7 l8 0 l10 l11 t12 t13 t14 t15 t16 t17 t18 t19 t20 t21 t22 t23 b0 _ (by first | assumption | decide | omega) (by first | assumption | decide | omega) (by rw [nI_leI (by omega) (by omega)] at cl1; omega)) (cwV 1 hts gX6_next_X6_goes rfl rfl rfl (by decide +kernel) ⟨Nat.le_of_ble_eq_true rfl, Nat.le_of_ble_eq_true rfl⟩) (jw_V hK hN hP hD [0, 1, 2, 3, 4] (by decide) rfl 6 0 rfl rfl rfl) rfl rfl hl.1 rfl (lv_room (Nat.le_of_ble_eq_true rfl)) dX6_next_207 ⟨Nat.le_of_ble_eq_true rfl, Nat.le_of_ble_eq_true rfl⟩) hP hD hS hA [0, 1, 2, 3, 4] [] rfl rfl (by decide) (by decide) (fun u H locs f_12 hP hD hS => ?_)
            obtain ⟨to9_13, w9_14, rfl, f_15, f_16⟩ := f_12
            have hP : va_P D vwCl [(mo, .inr (6, [.int 0, .ref q1, .int (nI g), .ref q3, .ref q4, .ref q5, .ref q6, .int 1, .int gr, .int kd, .long w9_14, .ref q11, .int mk, .long w13, .long w14])), (q3, .inl (cI, 800, .inl m3)), (q5, .inl (cI, 800, .inl m5)), (q6, .inl (cI, 2, .inl (jl [nI n, nI n2]))), (q11, .inl (cI, 24, .inl (jl [nI to9_13, (nI b1), nI b0, l3, nI to9_13, l5, nI b0, l7, l8, 0, l10, l11, t12, t13, t14, t15, t16, t17, t18, t19, t20, t21, t22, t23])))] H := hP
            have hD : va_D A [(mo, .inr (6, [.int 0, .ref q1, .int (nI g), .ref q3, .ref q4, .ref q5, .ref q6, .int 1, .int gr, .int kd, .long w9_14, .ref q11, .int mk, .long w13, .long w14])), (q3, .inl (cI, 800, .inl m3)), (q5, .inl (cI, 800, .inl m5)), (q6, .inl (cI, 2, .inl (jl [nI n, nI n2]))), (q11, .inl (cI, 24, .inl (jl [nI to9_13, (nI b1), nI b0, l3, nI to9_13, l5, nI b0, l7, l8, 0, l10, l11, t12, t13, t14, t15, t16, t17, t18, t19, t20, t21, t22, t23])))] := hD
            refine lv_iload_n hx hb dX6_next_210 rfl (lv_at hl 0 rfl) ?_
            refine lv_if_eq (tgt := 219) hx hb dX6_next_211 (by decide) (fun c_17 => ?_) (fun c_17 => absurd c_17 (by decide))
            refine lv_aload_n hx hb dX6_next_219 rfl (lv_at hl 2 rfl) ?_
            refine va_get (D := D) (ci := 6) (v := .ref q11) (C := RX6) (T := TX6) (N := 15) hx hb hts (by decide +kernel) hown hK hP 0 rfl rfl 11 (by decide) (hts (.fieldLink RX6 25 "JoinDeskModel" "at" "[I") (by decide +kernel)) (fun _ h9 => h9) rfl dX6_next_220 ?_
            refine lv_bipush (v := 8) hx hb dX6_next_223 (by decide) ?_
            refine lv_iload_n hx hb dX6_next_225 rfl (lv_at hl 1 rfl) ?_
            refine lv_if_eq (tgt := 237) hx hb dX6_next_226 (by decide) (fun c_18 => absurd c_18 (by decide)) (fun c_18 => ?_)
            refine lv_iload_n hx hb dX6_next_229 rfl (lv_at hl 0 rfl) ?_
            refine lv_if_eq (tgt := 237) hx hb dX6_next_230 (by decide) (fun c_19 => ?_) (fun c_19 => absurd c_19 (by decide))
            refine lv_iload_n hx hb dX6_next_237 rfl (lv_at hl 1 rfl) ?_
            refine lv_if_eq (tgt := 245) hx hb dX6_next_238 (by decide) (fun c_20 => absurd c_20 (by decide)) (fun c_20 => ?_)
            refine lv_iconst (v := 1) hx hb dX6_next_241 (by decide) ?_
            refine lv_goto (tgt := 246) hx hb dX6_next_242 (by decide) ?_
            refine va_iast hx hb hK hP hD hS 4 0 rfl rfl (by unfold vp_in; decide) dX6_next_246 (fun H locs hP hD hS => ?_)
            rw [jl_upd (show (8 : Int32).toNatClampNeg = 8 by decide) (Nat.le_of_ble_eq_true rfl)] at hP hD
            have hP : va_P D vwCl [(mo, .inr (6, [.int 0, .ref q1, .int (nI g), .ref q3, .ref q4, .ref q5, .ref q6, .int 1, .int gr, .int kd, .long w9_14, .ref q11, .int mk, .long w13, .long w14])), (q3, .inl (cI, 800, .inl m3)), (q5, .inl (cI, 800, .inl m5)), (q6, .inl (cI, 2, .inl (jl [nI n, nI n2]))), (q11, .inl (cI, 24, .inl (jl [nI to9_13, (nI b1), nI b0, l3, nI to9_13, l5, nI b0, l7, 1, 0, l10, l11, t12, t13, t14, t15, t16, t17, t18, t19, t20, t21, t22, t23])))] H := hP
            have hD : va_D A [(mo, .inr (6, [.int 0, .ref q1, .int (nI g), .ref q3, .ref q4, .ref q5, .ref q6, .int 1, .int gr, .int kd, .long w9_14, .ref q11, .int mk, .long w13, .long w14])), (q3, .inl (cI, 800, .inl m3)), (q5, .inl (cI, 800, .inl m5)), (q6, .inl (cI, 2, .inl (jl [nI n, nI n2]))), (q11, .inl (cI, 24, .inl (jl [nI to9_13, (nI b1), nI b0, l3, nI to9_13, l5, nI b0, l7, 1, 0, l10, l11, t12, t13, t14, t15, t16, t17, t18, t19, t20, t21, t22, t23])))] := hD
            refine lv_aload_n hx hb dX6_next_247 rfl (lv_at hl 2 rfl) ?_
            refine va_get (D := D) (ci := 6) (v := .int kd) (C := RX6) (T := TX6) (N := 15) hx hb hts (by decide +kernel) hown hK hP 0 rfl rfl 9 (by decide) (hts (.fieldLink RX6 60 "JoinDeskModel" "kind" "I") (by decide +kernel)) (fun _ h9 => h9) rfl dX6_next_248 ?_
            refine lv_aload_n hx hb dX6_next_251 rfl (lv_at hl 2 rfl) ?_
            refine va_get (D := D) (ci := 6) (v := .ref q11) (C := RX6) (T := TX6) (N := 15) hx hb hts (by decide +kernel) hown hK hP 0 rfl rfl 11 (by decide) (hts (.fieldLink RX6 25 "JoinDeskModel" "at" "[I") (by decide +kernel)) (fun _ h9 => h9) rfl dX6_next_252 ?_
            refine lv_bipush (v := 8) hx hb dX6_next_255 (by decide) ?_
            refine va_iald hx hb hK hP 4 0 rfl rfl (by unfold vp_in; decide) dX6_next_257 ?_
            refine W.eq (g2 := F0 m 258 ls [.int 1, .int kd]) rfl ?_
            refine vp_callSi (va_Run.run (va_runS (As := [.int kd, .int 1]) (rest := []) ⟨hx, hb, hml, hown, hts⟩ (gM_tells_1 l D cI cL cQ kd (by first | assumption | decide | omega)) (va_cwS 2 hts gX6_next_X6_tells rfl rfl rfl (by decide +kernel) ⟨Nat.le_of_ble_eq_true rfl, Nat.le_of_ble_eq_true rfl⟩) (jr_S hK hN hP [] rfl) rfl rfl hl.1 rfl (lv_room (Nat.le_of_ble_eq_true rfl)) dX6_next_258 ⟨Nat.le_of_ble_eq_true rfl, Nat.le_of_ble_eq_true rfl⟩)) (fun r f_21 => ?_)
            rcases f_21 with ⟨rfl, f_22⟩ | ⟨rfl, f_23⟩
            · refine lv_if_eq (tgt := 285) hx hb dX6_next_261 (by decide) (fun c_24 => absurd c_24 (by decide)) (fun c_24 => ?_)
              refine lv_aload_n hx hb dX6_next_264 rfl (lv_at hl 2 rfl) ?_
              refine va_get (D := D) (ci := 6) (v := .ref q11) (C := RX6) (T := TX6) (N := 15) hx hb hts (by decide +kernel) hown hK hP 0 rfl rfl 11 (by decide) (hts (.fieldLink RX6 25 "JoinDeskModel" "at" "[I") (by decide +kernel)) (fun _ h9 => h9) rfl dX6_next_265 ?_
              refine lv_bipush (v := 9) hx hb dX6_next_268 (by decide) ?_
              refine lv_iconst (v := 1) hx hb dX6_next_270 (by decide) ?_
              refine va_iast hx hb hK hP hD hS 4 0 rfl rfl (by unfold vp_in; decide) dX6_next_271 (fun H locs hP hD hS => ?_)
              rw [jl_upd (show (9 : Int32).toNatClampNeg = 9 by decide) (Nat.le_of_ble_eq_true rfl)] at hP hD
              have hP : va_P D vwCl [(mo, .inr (6, [.int 0, .ref q1, .int (nI g), .ref q3, .ref q4, .ref q5, .ref q6, .int 1, .int gr, .int kd, .long w9_14, .ref q11, .int mk, .long w13, .long w14])), (q3, .inl (cI, 800, .inl m3)), (q5, .inl (cI, 800, .inl m5)), (q6, .inl (cI, 2, .inl (jl [nI n, nI n2]))), (q11, .inl (cI, 24, .inl (jl [nI to9_13, (nI b1), nI b0, l3, nI to9_13, l5, nI b0, l7, 1, 1, l10, l11, t12, t13, t14, t15, t16, t17, t18, t19, t20, t21, t22, t23])))] H := hP
              have hD : va_D A [(mo, .inr (6, [.int 0, .ref q1, .int (nI g), .ref q3, .ref q4, .ref q5, .ref q6, .int 1, .int gr, .int kd, .long w9_14, .ref q11, .int mk, .long w13, .long w14])), (q3, .inl (cI, 800, .inl m3)), (q5, .inl (cI, 800, .inl m5)), (q6, .inl (cI, 2, .inl (jl [nI n, nI n2]))), (q11, .inl (cI, 24, .inl (jl [nI to9_13, (nI b1), nI b0, l3, nI to9_13, l5, nI b0, l7, 1, 1, l10, l11, t12, t13, t14, t15, t16, t17, t18, t19, t20, t21, t22, t23])))] := hD
              refine lv_aload_n hx hb dX6_next_272 rfl (lv_at hl 2 rfl) ?_
              refine va_get (D := D) (ci := 6) (v := .ref q11) (C := RX6) (T := TX6) (N := 15) hx hb hts (by decide +kernel) hown hK hP 0 rfl rfl 11 (by decide) (hts (.fieldLink RX6 25 "JoinDeskModel" "at" "[I") (by decide +kernel)) (fun _ h9 => h9) rfl dX6_next_273 ?_
              refine lv_bipush (v := 10) hx hb dX6_next_276 (by decide) ?_
              refine lv_dup2_11 hx hb dX6_next_278 rfl rfl ?_
              refine va_iald hx hb hK hP 4 0 rfl rfl (by unfold vp_in; decide) dX6_next_279 ?_
              refine W.eq (g2 := F0 m 280 ls [.int l10, .int 10, .ref q11]) rfl ?_
              refine lv_iconst (v := 1) hx hb dX6_next_280 (by decide) ?_
              refine lv_iadd hx hb dX6_next_281 ?_
              refine va_iast hx hb hK hP hD hS 4 0 rfl rfl (by unfold vp_in; decide) dX6_next_282 (fun H locs hP hD hS => ?_)
              rw [jl_upd (show (10 : Int32).toNatClampNeg = 10 by decide) (Nat.le_of_ble_eq_true rfl)] at hP hD
              have hP : va_P D vwCl [(mo, .inr (6, [.int 0, .ref q1, .int (nI g), .ref q3, .ref q4, .ref q5, .ref q6, .int 1, .int gr, .int kd, .long w9_14, .ref q11, .int mk, .long w13, .long w14])), (q3, .inl (cI, 800, .inl m3)), (q5, .inl (cI, 800, .inl m5)), (q6, .inl (cI, 2, .inl (jl [nI n, nI n2]))), (q11, .inl (cI, 24, .inl (jl [nI to9_13, (nI b1), nI b0, l3, nI to9_13, l5, nI b0, l7, 1, 1, l10 + 1, l11, t12, t13, t14, t15, t16, t17, t18, t19, t20, t21, t22, t23])))] H := hP
              have hD : va_D A [(mo, .inr (6, [.int 0, .ref q1, .int (nI g), .ref q3, .ref q4, .ref q5, .ref q6, .int 1, .int gr, .int kd, .long w9_14, .ref q11, .int mk, .long w13, .long w14])), (q3, .inl (cI, 800, .inl m3)), (q5, .inl (cI, 800, .inl m5)), (q6, .inl (cI, 2, .inl (jl [nI n, nI n2]))), (q11, .inl (cI, 24, .inl (jl [nI to9_13, (nI b1), nI b0, l3, nI to9_13, l5, nI b0, l7, 1, 1, l10 + 1, l11, t12, t13, t14, t15, t16, t17, t18, t19, t20, t21, t22, t23])))] := hD
              refine lv_iconst (v := 1) hx hb dX6_next_283 (by decide) ?_
              refine W.widen (k := 0) (n := 0) (by omega) (by omega) ?_
              exact W.zret (v := 1) (ty := .boolean) hx hb hr rfl (fun t ht hW => ⟨⟨1, [(mo, .inr (6, [.int 0, .ref q1, .int (nI g), .ref q3, .ref q4, .ref q5, .ref q6, .int 1, .int gr, .int kd, .long w9_14, .ref q11, .int mk, .long w13, .long w14])), (q3, .inl (cI, 800, .inl m3)), (q5, .inl (cI, 800, .inl m5)), (q6, .inl (cI, 2, .inl (jl [nI n, nI n2]))), (q11, .inl (cI, 24, .inl (jl [nI to9_13, (nI b1), nI b0, l3, nI to9_13, l5, nI b0, l7, 1, 1, l10 + 1, l11, t12, t13, t14, t15, t16, t17, t18, t19, t20, t21, t22, t23])))], rfl, (by exact (Or.inr (Or.inl ⟨_, _, _, _, _, _, _, _, _, _, _, rfl, rfl, by omega, by omega, by omega, by omega⟩))), by rw [ht]; exact hP, hD⟩, hS.F ht⟩) hS.2.2 dX6_next_284
            · refine lv_if_eq (tgt := 285) hx hb dX6_next_261 (by decide) (fun c_25 => ?_) (fun c_25 => absurd c_25 (by decide))
              refine lv_goto (tgt := 60) hx hb dX6_next_285 (by decide) ?_
              exact ih_1 to9_13 b1 (nI b0) l3 (nI to9_13) l5 (nI b0) l7 1 l10 l11 w9_14 (by omega) (by omega) (by omega) _ _ hP hD hS ls (lv_sub hl [2] rfl)
          · refine lv_iconst (v := 1) hx hb dX6_next_126 (by decide) ?_
            refine lv_goto (tgt := 131) hx hb dX6_next_127 (by decide) ?_
            refine lv_istore_n (lv' := [(2, .int 1), (1, .int 1), (0, .ref mo)]) hx hb dX6_next_131 rfl hl (by decide) rfl (fun ls hl => ?_)
            refine lv_iload_n hx hb dX6_next_132 rfl (lv_at hl 1 rfl) ?_
            refine lv_if_eq (tgt := 201) hx hb dX6_next_133 (by decide) (fun c_26 => absurd c_26 (by decide)) (fun c_26 => ?_)
            refine lv_iload_n hx hb dX6_next_136 rfl (lv_at hl 0 rfl) ?_
            refine lv_if_eq (tgt := 201) hx hb dX6_next_137 (by decide) (fun c_27 => absurd c_27 (by decide)) (fun c_27 => ?_)
            refine lv_aload_n hx hb dX6_next_140 rfl (lv_at hl 2 rfl) ?_
            refine lv_iconst (v := 0) hx hb dX6_next_141 (by decide) ?_
            refine lv_aload_n hx hb dX6_next_142 rfl (lv_at hl 2 rfl) ?_
            refine va_get (D := D) (ci := 6) (v := .ref q11) (C := RX6) (T := TX6) (N := 15) hx hb hts (by decide +kernel) hown hK hP 0 rfl rfl 11 (by decide) (hts (.fieldLink RX6 25 "JoinDeskModel" "at" "[I") (by decide +kernel)) (fun _ h9 => h9) rfl dX6_next_143 ?_
            refine lv_iconst (v := 0) hx hb dX6_next_146 (by decide) ?_
            refine va_iald hx hb hK hP 4 0 rfl rfl (by unfold vp_in; decide) dX6_next_147 ?_
            refine W.eq (g2 := F0 m 148 ls [.int (nI b0), .int 0, .ref mo]) rfl ?_
            refine vp_callSi (va_Run.run (va_runV (As := [.int 0, .int (nI b0)]) (rest := []) ⟨hx, hb, hml, hown, hts⟩ (gM_key_0 l D cI cL cQ mo g q1 q3 q4 q5 q6 q11 0 1 gr kd mk wl w13 w14 m3 m5 b0 (by first | assumption | decide | omega) (by rw [nI_leI (by omega) (by omega)] at cl1; omega)) (cwV 2 hts gX6_next_X6_key rfl rfl rfl (by decide +kernel) ⟨Nat.le_of_ble_eq_true rfl, Nat.le_of_ble_eq_true rfl⟩) (jr_V hK hN hP [0, 1, 2] rfl 6 0 rfl rfl rfl) rfl rfl hl.1 rfl (lv_room (Nat.le_of_ble_eq_true rfl)) dX6_next_148 ⟨Nat.le_of_ble_eq_true rfl, Nat.le_of_ble_eq_true rfl⟩)) (fun r f_28 => ?_)
            obtain rfl := f_28
            refine lv_istore_n (lv' := [(3, .int (jmk 0 m3 m5 b0)), (2, .int 1), (1, .int 1), (0, .ref mo)]) hx hb dX6_next_151 rfl hl (by decide) rfl (fun ls hl => ?_)
            refine lv_aload_n hx hb dX6_next_152 rfl (lv_at hl 3 rfl) ?_
            refine lv_iconst (v := 1) hx hb dX6_next_153 (by decide) ?_
            refine lv_aload_n hx hb dX6_next_154 rfl (lv_at hl 3 rfl) ?_
            refine va_get (D := D) (ci := 6) (v := .ref q11) (C := RX6) (T := TX6) (N := 15) hx hb hts (by decide +kernel) hown hK hP 0 rfl rfl 11 (by decide) (hts (.fieldLink RX6 25 "JoinDeskModel" "at" "[I") (by decide +kernel)) (fun _ h9 => h9) rfl dX6_next_155 ?_
            refine lv_iconst (v := 1) hx hb dX6_next_158 (by decide) ?_
            refine va_iald hx hb hK hP 4 0 rfl rfl (by unfold vp_in; decide) dX6_next_159 ?_
            refine W.eq (g2 := F0 m 160 ls [.int (nI b1), .int 1, .ref mo]) rfl ?_
            refine vp_callSi (va_Run.run (va_runV (As := [.int 1, .int (nI b1)]) (rest := []) ⟨hx, hb, hml, hown, hts⟩ (gM_key_1 l D cI cL cQ mo g q1 q3 q4 q5 q6 q11 0 1 gr kd mk wl w13 w14 m3 m5 b1 (by first | assumption | decide | omega) (by rw [nI_leI (by omega) (by omega)] at cr1; omega)) (cwV 2 hts gX6_next_X6_key rfl rfl rfl (by decide +kernel) ⟨Nat.le_of_ble_eq_true rfl, Nat.le_of_ble_eq_true rfl⟩) (jr_V hK hN hP [0, 1, 2] rfl 6 0 rfl rfl rfl) rfl rfl hl.1 rfl (lv_room (Nat.le_of_ble_eq_true rfl)) dX6_next_160 ⟨Nat.le_of_ble_eq_true rfl, Nat.le_of_ble_eq_true rfl⟩)) (fun r f_29 => ?_)
            obtain rfl := f_29
            refine lv_istore (lv' := [(4, .int (jmk 400 m3 m5 b1)), (3, .int (jmk 0 m3 m5 b0)), (2, .int 1), (1, .int 1), (0, .ref mo)]) hx hb dX6_next_163 hl (by decide) rfl (fun ls hl => ?_)
            refine lv_aload_n hx hb dX6_next_165 rfl (lv_at hl 4 rfl) ?_
            refine lv_dup hx hb dX6_next_166 rfl ?_
            refine va_get (D := D) (ci := 6) (v := .long wl) (C := RX6) (T := TX6) (N := 15) hx hb hts (by decide +kernel) hown hK hP 0 rfl rfl 10 (by decide) (hts (.fieldLink RX6 53 "JoinDeskModel" "cells" "J") (by decide +kernel)) (fun _ h9 => h9) rfl dX6_next_167 ?_
            refine lv_ldc2 (v := (2)) hx hb hown (hts (.constantLong RX6 71 (2)) (by decide +kernel)) dX6_next_170 ?_
            refine lv_ladd hx hb dX6_next_173 ?_
            refine va_put (D := D) (ci := 6) (v := .long (wl + (2))) (ty := .long) (C := RX6) (T := TX6) (N := 15) hx hb hts (by decide +kernel) tyX6 tyX6_ok nmX6 hown hK hP hD hS 0 rfl rfl 10 (by decide) (hts (.fieldLink RX6 53 "JoinDeskModel" "cells" "J") (by decide +kernel)) (fun _ h9 => h9) rfl (by decide +kernel) rfl rfl (Nat.le_of_ble_eq_true rfl) dX6_next_174 (fun H locs hP hD hS => ?_)
            have hP : va_P D vwCl [(mo, .inr (6, [.int 0, .ref q1, .int (nI g), .ref q3, .ref q4, .ref q5, .ref q6, .int 1, .int gr, .int kd, .long (wl + (2)), .ref q11, .int mk, .long w13, .long w14])), (q3, .inl (cI, 800, .inl m3)), (q5, .inl (cI, 800, .inl m5)), (q6, .inl (cI, 2, .inl (jl [nI n, nI n2]))), (q11, .inl (cI, 24, .inl (jl [nI b0, nI b1, l2, l3, l4, l5, l6, l7, l8, 0, l10, l11, t12, t13, t14, t15, t16, t17, t18, t19, t20, t21, t22, t23])))] H := hP
            have hD : va_D A [(mo, .inr (6, [.int 0, .ref q1, .int (nI g), .ref q3, .ref q4, .ref q5, .ref q6, .int 1, .int gr, .int kd, .long (wl + (2)), .ref q11, .int mk, .long w13, .long w14])), (q3, .inl (cI, 800, .inl m3)), (q5, .inl (cI, 800, .inl m5)), (q6, .inl (cI, 2, .inl (jl [nI n, nI n2]))), (q11, .inl (cI, 24, .inl (jl [nI b0, nI b1, l2, l3, l4, l5, l6, l7, l8, 0, l10, l11, t12, t13, t14, t15, t16, t17, t18, t19, t20, t21, t22, t23])))] := hD
            refine lv_iload_n hx hb dX6_next_177 rfl (lv_at hl 1 rfl) ?_
            refine lv_iload hx hb dX6_next_178 (lv_at hl 0 rfl) ?_
            refine lv_icmp_gt (tgt := 187) hx hb dX6_next_180 (by decide) (fun ck => ?_) (fun ck => ?_)
            · refine lv_iconst (v := 0) hx hb dX6_next_187 (by decide) ?_
              refine lv_istore_n (lv' := [(1, .int 0), (4, .int (jmk 400 m3 m5 b1)), (3, .int (jmk 0 m3 m5 b0)), (2, .int 1), (0, .ref mo)]) hx hb dX6_next_188 rfl hl (by decide) rfl (fun ls hl => ?_)
              refine lv_iload hx hb dX6_next_189 (lv_at hl 1 rfl) ?_
              refine lv_iload_n hx hb dX6_next_191 rfl (lv_at hl 2 rfl) ?_
              refine lv_icmp_gt (tgt := 199) hx hb dX6_next_192 (by decide) (fun c_30 => absurd c_30 (by exact j_asym ck)) (fun c_30 => ?_)
              refine lv_iconst (v := 1) hx hb dX6_next_195 (by decide) ?_
              refine lv_goto (tgt := 200) hx hb dX6_next_196 (by decide) ?_
              refine lv_istore_n (lv' := [(2, .int 1), (1, .int 0), (4, .int (jmk 400 m3 m5 b1)), (3, .int (jmk 0 m3 m5 b0)), (0, .ref mo)]) hx hb dX6_next_200 rfl hl (by decide) rfl (fun ls hl => ?_)
              refine lv_iload_n hx hb dX6_next_201 rfl (lv_at hl 1 rfl) ?_
              refine lv_if_eq (tgt := 210) hx hb dX6_next_202 (by decide) (fun c_31 => ?_) (fun c_31 => absurd c_31 (by decide))
              refine lv_iload_n hx hb dX6_next_210 rfl (lv_at hl 0 rfl) ?_
              refine lv_if_eq (tgt := 219) hx hb dX6_next_211 (by decide) (fun c_32 => absurd c_32 (by decide)) (fun c_32 => ?_)
              refine lv_aload_n hx hb dX6_next_214 rfl (lv_at hl 4 rfl) ?_
              refine lv_iconst (v := 1) hx hb dX6_next_215 (by decide) ?_
              refine jw_v (wr := []) (va_runV (As := [.int 1]) (rest := []) ⟨hx, hb, hml, hown, hts⟩ (gM_goes_1 l D cI cL cQ mo g n n2 q1 q3 q4 q5 q6 q11 0 1 gr kd mk (wl + (2)) w13 w14 m3 m5 (nI b0) l2 l3 l4 l5 l6 l7 l8 0 l10 l11 t12 t13 t14 t15 t16 t17 t18 t19 t20 t21 t22 t23 b1 _ (by first | assumption | decide | omega) (by first | assumption | decide | omega) (by rw [nI_leI (by omega) (by omega)] at cr1; omega)) (cwV 1 hts gX6_next_X6_goes rfl rfl rfl (by decide +kernel) ⟨Nat.le_of_ble_eq_true rfl, Nat.le_of_ble_eq_true rfl⟩) (jw_V hK hN hP hD [0, 1, 2, 3, 4] (by decide) rfl 6 0 rfl rfl rfl) rfl rfl hl.1 rfl (lv_room (Nat.le_of_ble_eq_true rfl)) dX6_next_216 ⟨Nat.le_of_ble_eq_true rfl, Nat.le_of_ble_eq_true rfl⟩) hP hD hS hA [0, 1, 2, 3, 4] [] rfl rfl (by decide) (by decide) (fun u H locs f_33 hP hD hS => ?_)
              obtain ⟨to9_34, w9_35, rfl, f_36, f_37⟩ := f_33
              have hP : va_P D vwCl [(mo, .inr (6, [.int 0, .ref q1, .int (nI g), .ref q3, .ref q4, .ref q5, .ref q6, .int 1, .int gr, .int kd, .long w9_35, .ref q11, .int mk, .long w13, .long w14])), (q3, .inl (cI, 800, .inl m3)), (q5, .inl (cI, 800, .inl m5)), (q6, .inl (cI, 2, .inl (jl [nI n, nI n2]))), (q11, .inl (cI, 24, .inl (jl [(nI b0), nI to9_34, l2, nI b1, l4, nI to9_34, l6, nI b1, l8, 0, l10, l11, t12, t13, t14, t15, t16, t17, t18, t19, t20, t21, t22, t23])))] H := hP
              have hD : va_D A [(mo, .inr (6, [.int 0, .ref q1, .int (nI g), .ref q3, .ref q4, .ref q5, .ref q6, .int 1, .int gr, .int kd, .long w9_35, .ref q11, .int mk, .long w13, .long w14])), (q3, .inl (cI, 800, .inl m3)), (q5, .inl (cI, 800, .inl m5)), (q6, .inl (cI, 2, .inl (jl [nI n, nI n2]))), (q11, .inl (cI, 24, .inl (jl [(nI b0), nI to9_34, l2, nI b1, l4, nI to9_34, l6, nI b1, l8, 0, l10, l11, t12, t13, t14, t15, t16, t17, t18, t19, t20, t21, t22, t23])))] := hD
              refine lv_aload_n hx hb dX6_next_219 rfl (lv_at hl 4 rfl) ?_
              refine va_get (D := D) (ci := 6) (v := .ref q11) (C := RX6) (T := TX6) (N := 15) hx hb hts (by decide +kernel) hown hK hP 0 rfl rfl 11 (by decide) (hts (.fieldLink RX6 25 "JoinDeskModel" "at" "[I") (by decide +kernel)) (fun _ h9 => h9) rfl dX6_next_220 ?_
              refine lv_bipush (v := 8) hx hb dX6_next_223 (by decide) ?_
              refine lv_iload_n hx hb dX6_next_225 rfl (lv_at hl 1 rfl) ?_
              refine lv_if_eq (tgt := 237) hx hb dX6_next_226 (by decide) (fun c_38 => ?_) (fun c_38 => absurd c_38 (by decide))
              refine lv_iload_n hx hb dX6_next_237 rfl (lv_at hl 1 rfl) ?_
              refine lv_if_eq (tgt := 245) hx hb dX6_next_238 (by decide) (fun c_39 => ?_) (fun c_39 => absurd c_39 (by decide))
              refine lv_iconst (v := 2) hx hb dX6_next_245 (by decide) ?_
              refine va_iast hx hb hK hP hD hS 4 0 rfl rfl (by unfold vp_in; decide) dX6_next_246 (fun H locs hP hD hS => ?_)
              rw [jl_upd (show (8 : Int32).toNatClampNeg = 8 by decide) (Nat.le_of_ble_eq_true rfl)] at hP hD
              have hP : va_P D vwCl [(mo, .inr (6, [.int 0, .ref q1, .int (nI g), .ref q3, .ref q4, .ref q5, .ref q6, .int 1, .int gr, .int kd, .long w9_35, .ref q11, .int mk, .long w13, .long w14])), (q3, .inl (cI, 800, .inl m3)), (q5, .inl (cI, 800, .inl m5)), (q6, .inl (cI, 2, .inl (jl [nI n, nI n2]))), (q11, .inl (cI, 24, .inl (jl [(nI b0), nI to9_34, l2, nI b1, l4, nI to9_34, l6, nI b1, 2, 0, l10, l11, t12, t13, t14, t15, t16, t17, t18, t19, t20, t21, t22, t23])))] H := hP
              have hD : va_D A [(mo, .inr (6, [.int 0, .ref q1, .int (nI g), .ref q3, .ref q4, .ref q5, .ref q6, .int 1, .int gr, .int kd, .long w9_35, .ref q11, .int mk, .long w13, .long w14])), (q3, .inl (cI, 800, .inl m3)), (q5, .inl (cI, 800, .inl m5)), (q6, .inl (cI, 2, .inl (jl [nI n, nI n2]))), (q11, .inl (cI, 24, .inl (jl [(nI b0), nI to9_34, l2, nI b1, l4, nI to9_34, l6, nI b1, 2, 0, l10, l11, t12, t13, t14, t15, t16, t17, t18, t19, t20, t21, t22, t23])))] := hD
              refine lv_aload_n hx hb dX6_next_247 rfl (lv_at hl 4 rfl) ?_
              refine va_get (D := D) (ci := 6) (v := .int kd) (C := RX6) (T := TX6) (N := 15) hx hb hts (by decide +kernel) hown hK hP 0 rfl rfl 9 (by decide) (hts (.fieldLink RX6 60 "JoinDeskModel" "kind" "I") (by decide +kernel)) (fun _ h9 => h9) rfl dX6_next_248 ?_
              refine lv_aload_n hx hb dX6_next_251 rfl (lv_at hl 4 rfl) ?_
              refine va_get (D := D) (ci := 6) (v := .ref q11) (C := RX6) (T := TX6) (N := 15) hx hb hts (by decide +kernel) hown hK hP 0 rfl rfl 11 (by decide) (hts (.fieldLink RX6 25 "JoinDeskModel" "at" "[I") (by decide +kernel)) (fun _ h9 => h9) rfl dX6_next_252 ?_
              refine lv_bipush (v := 8) hx hb dX6_next_255 (by decide) ?_
              refine va_iald hx hb hK hP 4 0 rfl rfl (by unfold vp_in; decide) dX6_next_257 ?_
              refine W.eq (g2 := F0 m 258 ls [.int 2, .int kd]) rfl ?_
              refine vp_callSi (va_Run.run (va_runS (As := [.int kd, .int 2]) (rest := []) ⟨hx, hb, hml, hown, hts⟩ (gM_tells_2 l D cI cL cQ kd (by first | assumption | decide | omega)) (va_cwS 2 hts gX6_next_X6_tells rfl rfl rfl (by decide +kernel) ⟨Nat.le_of_ble_eq_true rfl, Nat.le_of_ble_eq_true rfl⟩) (jr_S hK hN hP [] rfl) rfl rfl hl.1 rfl (lv_room (Nat.le_of_ble_eq_true rfl)) dX6_next_258 ⟨Nat.le_of_ble_eq_true rfl, Nat.le_of_ble_eq_true rfl⟩)) (fun r f_40 => ?_)
              rcases f_40 with ⟨rfl, f_41⟩ | ⟨rfl, f_42⟩
              · refine lv_if_eq (tgt := 285) hx hb dX6_next_261 (by decide) (fun c_43 => absurd c_43 (by decide)) (fun c_43 => ?_)
                refine lv_aload_n hx hb dX6_next_264 rfl (lv_at hl 4 rfl) ?_
                refine va_get (D := D) (ci := 6) (v := .ref q11) (C := RX6) (T := TX6) (N := 15) hx hb hts (by decide +kernel) hown hK hP 0 rfl rfl 11 (by decide) (hts (.fieldLink RX6 25 "JoinDeskModel" "at" "[I") (by decide +kernel)) (fun _ h9 => h9) rfl dX6_next_265 ?_
                refine lv_bipush (v := 9) hx hb dX6_next_268 (by decide) ?_
                refine lv_iconst (v := 1) hx hb dX6_next_270 (by decide) ?_
                refine va_iast hx hb hK hP hD hS 4 0 rfl rfl (by unfold vp_in; decide) dX6_next_271 (fun H locs hP hD hS => ?_)
                rw [jl_upd (show (9 : Int32).toNatClampNeg = 9 by decide) (Nat.le_of_ble_eq_true rfl)] at hP hD
                have hP : va_P D vwCl [(mo, .inr (6, [.int 0, .ref q1, .int (nI g), .ref q3, .ref q4, .ref q5, .ref q6, .int 1, .int gr, .int kd, .long w9_35, .ref q11, .int mk, .long w13, .long w14])), (q3, .inl (cI, 800, .inl m3)), (q5, .inl (cI, 800, .inl m5)), (q6, .inl (cI, 2, .inl (jl [nI n, nI n2]))), (q11, .inl (cI, 24, .inl (jl [(nI b0), nI to9_34, l2, nI b1, l4, nI to9_34, l6, nI b1, 2, 1, l10, l11, t12, t13, t14, t15, t16, t17, t18, t19, t20, t21, t22, t23])))] H := hP
                have hD : va_D A [(mo, .inr (6, [.int 0, .ref q1, .int (nI g), .ref q3, .ref q4, .ref q5, .ref q6, .int 1, .int gr, .int kd, .long w9_35, .ref q11, .int mk, .long w13, .long w14])), (q3, .inl (cI, 800, .inl m3)), (q5, .inl (cI, 800, .inl m5)), (q6, .inl (cI, 2, .inl (jl [nI n, nI n2]))), (q11, .inl (cI, 24, .inl (jl [(nI b0), nI to9_34, l2, nI b1, l4, nI to9_34, l6, nI b1, 2, 1, l10, l11, t12, t13, t14, t15, t16, t17, t18, t19, t20, t21, t22, t23])))] := hD
                refine lv_aload_n hx hb dX6_next_272 rfl (lv_at hl 4 rfl) ?_
                refine va_get (D := D) (ci := 6) (v := .ref q11) (C := RX6) (T := TX6) (N := 15) hx hb hts (by decide +kernel) hown hK hP 0 rfl rfl 11 (by decide) (hts (.fieldLink RX6 25 "JoinDeskModel" "at" "[I") (by decide +kernel)) (fun _ h9 => h9) rfl dX6_next_273 ?_
                refine lv_bipush (v := 10) hx hb dX6_next_276 (by decide) ?_
                refine lv_dup2_11 hx hb dX6_next_278 rfl rfl ?_
                refine va_iald hx hb hK hP 4 0 rfl rfl (by unfold vp_in; decide) dX6_next_279 ?_
                refine W.eq (g2 := F0 m 280 ls [.int l10, .int 10, .ref q11]) rfl ?_
                refine lv_iconst (v := 1) hx hb dX6_next_280 (by decide) ?_
                refine lv_iadd hx hb dX6_next_281 ?_
                refine va_iast hx hb hK hP hD hS 4 0 rfl rfl (by unfold vp_in; decide) dX6_next_282 (fun H locs hP hD hS => ?_)
                rw [jl_upd (show (10 : Int32).toNatClampNeg = 10 by decide) (Nat.le_of_ble_eq_true rfl)] at hP hD
                have hP : va_P D vwCl [(mo, .inr (6, [.int 0, .ref q1, .int (nI g), .ref q3, .ref q4, .ref q5, .ref q6, .int 1, .int gr, .int kd, .long w9_35, .ref q11, .int mk, .long w13, .long w14])), (q3, .inl (cI, 800, .inl m3)), (q5, .inl (cI, 800, .inl m5)), (q6, .inl (cI, 2, .inl (jl [nI n, nI n2]))), (q11, .inl (cI, 24, .inl (jl [(nI b0), nI to9_34, l2, nI b1, l4, nI to9_34, l6, nI b1, 2, 1, l10 + 1, l11, t12, t13, t14, t15, t16, t17, t18, t19, t20, t21, t22, t23])))] H := hP
                have hD : va_D A [(mo, .inr (6, [.int 0, .ref q1, .int (nI g), .ref q3, .ref q4, .ref q5, .ref q6, .int 1, .int gr, .int kd, .long w9_35, .ref q11, .int mk, .long w13, .long w14])), (q3, .inl (cI, 800, .inl m3)), (q5, .inl (cI, 800, .inl m5)), (q6, .inl (cI, 2, .inl (jl [nI n, nI n2]))), (q11, .inl (cI, 24, .inl (jl [(nI b0), nI to9_34, l2, nI b1, l4, nI to9_34, l6, nI b1, 2, 1, l10 + 1, l11, t12, t13, t14, t15, t16, t17, t18, t19, t20, t21, t22, t23])))] := hD
                refine lv_iconst (v := 1) hx hb dX6_next_283 (by decide) ?_
                refine W.widen (k := 0) (n := 0) (by omega) (by omega) ?_
                exact W.zret (v := 1) (ty := .boolean) hx hb hr rfl (fun t ht hW => ⟨⟨1, [(mo, .inr (6, [.int 0, .ref q1, .int (nI g), .ref q3, .ref q4, .ref q5, .ref q6, .int 1, .int gr, .int kd, .long w9_35, .ref q11, .int mk, .long w13, .long w14])), (q3, .inl (cI, 800, .inl m3)), (q5, .inl (cI, 800, .inl m5)), (q6, .inl (cI, 2, .inl (jl [nI n, nI n2]))), (q11, .inl (cI, 24, .inl (jl [(nI b0), nI to9_34, l2, nI b1, l4, nI to9_34, l6, nI b1, 2, 1, l10 + 1, l11, t12, t13, t14, t15, t16, t17, t18, t19, t20, t21, t22, t23])))], rfl, (by exact (Or.inr (Or.inr (Or.inl ⟨_, _, _, _, _, _, _, _, _, _, _, rfl, rfl, by omega, by omega, by omega, by omega⟩)))), by rw [ht]; exact hP, hD⟩, hS.F ht⟩) hS.2.2 dX6_next_284
              · refine lv_if_eq (tgt := 285) hx hb dX6_next_261 (by decide) (fun c_44 => ?_) (fun c_44 => absurd c_44 (by decide))
                refine lv_goto (tgt := 60) hx hb dX6_next_285 (by decide) ?_
                exact ih_1 b0 to9_34 l2 (nI b1) l4 (nI to9_34) l6 (nI b1) 2 l10 l11 w9_35 (by omega) (by omega) (by omega) _ _ hP hD hS ls (lv_sub hl [4] rfl)
            · refine lv_iconst (v := 1) hx hb dX6_next_183 (by decide) ?_
              refine lv_goto (tgt := 188) hx hb dX6_next_184 (by decide) ?_
              refine lv_istore_n (lv' := [(1, .int 1), (4, .int (jmk 400 m3 m5 b1)), (3, .int (jmk 0 m3 m5 b0)), (2, .int 1), (0, .ref mo)]) hx hb dX6_next_188 rfl hl (by decide) rfl (fun ls hl => ?_)
              refine lv_iload hx hb dX6_next_189 (lv_at hl 1 rfl) ?_
              refine lv_iload_n hx hb dX6_next_191 rfl (lv_at hl 2 rfl) ?_
              refine lv_icmp_gt (tgt := 199) hx hb dX6_next_192 (by decide) (fun c_45 => ?_) (fun c_45 => ?_)
              · refine lv_iconst (v := 0) hx hb dX6_next_199 (by decide) ?_
                refine lv_istore_n (lv' := [(2, .int 0), (1, .int 1), (4, .int (jmk 400 m3 m5 b1)), (3, .int (jmk 0 m3 m5 b0)), (0, .ref mo)]) hx hb dX6_next_200 rfl hl (by decide) rfl (fun ls hl => ?_)
                refine lv_iload_n hx hb dX6_next_201 rfl (lv_at hl 1 rfl) ?_
                refine lv_if_eq (tgt := 210) hx hb dX6_next_202 (by decide) (fun c_46 => absurd c_46 (by decide)) (fun c_46 => ?_)
                refine lv_aload_n hx hb dX6_next_205 rfl (lv_at hl 4 rfl) ?_
                refine lv_iconst (v := 0) hx hb dX6_next_206 (by decide) ?_
                refine jw_v (wr := []) (va_runV (As := [.int 0]) (rest := []) ⟨hx, hb, hml, hown, hts⟩ (gM_goes_0 l D cI cL cQ mo g n n2 q1 q3 q4 q5 q6 q11 0 1 gr kd mk (wl + (2)) w13 w14 m3 m5 (nI b1) l2 l3 l4 l5 l6 l7 l8 0 l10 l11 t12 t13 t14 t15 t16 t17 t18 t19 t20 t21 t22 t23 b0 _ (by first | assumption | decide | omega) (by first | assumption | decide | omega) (by rw [nI_leI (by omega) (by omega)] at cl1; omega)) (cwV 1 hts gX6_next_X6_goes rfl rfl rfl (by decide +kernel) ⟨Nat.le_of_ble_eq_true rfl, Nat.le_of_ble_eq_true rfl⟩) (jw_V hK hN hP hD [0, 1, 2, 3, 4] (by decide) rfl 6 0 rfl rfl rfl) rfl rfl hl.1 rfl (lv_room (Nat.le_of_ble_eq_true rfl)) dX6_next_207 ⟨Nat.le_of_ble_eq_true rfl, Nat.le_of_ble_eq_true rfl⟩) hP hD hS hA [0, 1, 2, 3, 4] [] rfl rfl (by decide) (by decide) (fun u H locs f_47 hP hD hS => ?_)
                obtain ⟨to9_48, w9_49, rfl, f_50, f_51⟩ := f_47
                have hP : va_P D vwCl [(mo, .inr (6, [.int 0, .ref q1, .int (nI g), .ref q3, .ref q4, .ref q5, .ref q6, .int 1, .int gr, .int kd, .long w9_49, .ref q11, .int mk, .long w13, .long w14])), (q3, .inl (cI, 800, .inl m3)), (q5, .inl (cI, 800, .inl m5)), (q6, .inl (cI, 2, .inl (jl [nI n, nI n2]))), (q11, .inl (cI, 24, .inl (jl [nI to9_48, (nI b1), nI b0, l3, nI to9_48, l5, nI b0, l7, l8, 0, l10, l11, t12, t13, t14, t15, t16, t17, t18, t19, t20, t21, t22, t23])))] H := hP
                have hD : va_D A [(mo, .inr (6, [.int 0, .ref q1, .int (nI g), .ref q3, .ref q4, .ref q5, .ref q6, .int 1, .int gr, .int kd, .long w9_49, .ref q11, .int mk, .long w13, .long w14])), (q3, .inl (cI, 800, .inl m3)), (q5, .inl (cI, 800, .inl m5)), (q6, .inl (cI, 2, .inl (jl [nI n, nI n2]))), (q11, .inl (cI, 24, .inl (jl [nI to9_48, (nI b1), nI b0, l3, nI to9_48, l5, nI b0, l7, l8, 0, l10, l11, t12, t13, t14, t15, t16, t17, t18, t19, t20, t21, t22, t23])))] := hD
                refine lv_iload_n hx hb dX6_next_210 rfl (lv_at hl 0 rfl) ?_
                refine lv_if_eq (tgt := 219) hx hb dX6_next_211 (by decide) (fun c_52 => ?_) (fun c_52 => absurd c_52 (by decide))
                refine lv_aload_n hx hb dX6_next_219 rfl (lv_at hl 4 rfl) ?_
                refine va_get (D := D) (ci := 6) (v := .ref q11) (C := RX6) (T := TX6) (N := 15) hx hb hts (by decide +kernel) hown hK hP 0 rfl rfl 11 (by decide) (hts (.fieldLink RX6 25 "JoinDeskModel" "at" "[I") (by decide +kernel)) (fun _ h9 => h9) rfl dX6_next_220 ?_
                refine lv_bipush (v := 8) hx hb dX6_next_223 (by decide) ?_
                refine lv_iload_n hx hb dX6_next_225 rfl (lv_at hl 1 rfl) ?_
                refine lv_if_eq (tgt := 237) hx hb dX6_next_226 (by decide) (fun c_53 => absurd c_53 (by decide)) (fun c_53 => ?_)
                refine lv_iload_n hx hb dX6_next_229 rfl (lv_at hl 0 rfl) ?_
                refine lv_if_eq (tgt := 237) hx hb dX6_next_230 (by decide) (fun c_54 => ?_) (fun c_54 => absurd c_54 (by decide))
                refine lv_iload_n hx hb dX6_next_237 rfl (lv_at hl 1 rfl) ?_
                refine lv_if_eq (tgt := 245) hx hb dX6_next_238 (by decide) (fun c_55 => absurd c_55 (by decide)) (fun c_55 => ?_)
                refine lv_iconst (v := 1) hx hb dX6_next_241 (by decide) ?_
                refine lv_goto (tgt := 246) hx hb dX6_next_242 (by decide) ?_
                refine va_iast hx hb hK hP hD hS 4 0 rfl rfl (by unfold vp_in; decide) dX6_next_246 (fun H locs hP hD hS => ?_)
                rw [jl_upd (show (8 : Int32).toNatClampNeg = 8 by decide) (Nat.le_of_ble_eq_true rfl)] at hP hD
                have hP : va_P D vwCl [(mo, .inr (6, [.int 0, .ref q1, .int (nI g), .ref q3, .ref q4, .ref q5, .ref q6, .int 1, .int gr, .int kd, .long w9_49, .ref q11, .int mk, .long w13, .long w14])), (q3, .inl (cI, 800, .inl m3)), (q5, .inl (cI, 800, .inl m5)), (q6, .inl (cI, 2, .inl (jl [nI n, nI n2]))), (q11, .inl (cI, 24, .inl (jl [nI to9_48, (nI b1), nI b0, l3, nI to9_48, l5, nI b0, l7, 1, 0, l10, l11, t12, t13, t14, t15, t16, t17, t18, t19, t20, t21, t22, t23])))] H := hP
                have hD : va_D A [(mo, .inr (6, [.int 0, .ref q1, .int (nI g), .ref q3, .ref q4, .ref q5, .ref q6, .int 1, .int gr, .int kd, .long w9_49, .ref q11, .int mk, .long w13, .long w14])), (q3, .inl (cI, 800, .inl m3)), (q5, .inl (cI, 800, .inl m5)), (q6, .inl (cI, 2, .inl (jl [nI n, nI n2]))), (q11, .inl (cI, 24, .inl (jl [nI to9_48, (nI b1), nI b0, l3, nI to9_48, l5, nI b0, l7, 1, 0, l10, l11, t12, t13, t14, t15, t16, t17, t18, t19, t20, t21, t22, t23])))] := hD
                refine lv_aload_n hx hb dX6_next_247 rfl (lv_at hl 4 rfl) ?_
                refine va_get (D := D) (ci := 6) (v := .int kd) (C := RX6) (T := TX6) (N := 15) hx hb hts (by decide +kernel) hown hK hP 0 rfl rfl 9 (by decide) (hts (.fieldLink RX6 60 "JoinDeskModel" "kind" "I") (by decide +kernel)) (fun _ h9 => h9) rfl dX6_next_248 ?_
                refine lv_aload_n hx hb dX6_next_251 rfl (lv_at hl 4 rfl) ?_
                refine va_get (D := D) (ci := 6) (v := .ref q11) (C := RX6) (T := TX6) (N := 15) hx hb hts (by decide +kernel) hown hK hP 0 rfl rfl 11 (by decide) (hts (.fieldLink RX6 25 "JoinDeskModel" "at" "[I") (by decide +kernel)) (fun _ h9 => h9) rfl dX6_next_252 ?_
                refine lv_bipush (v := 8) hx hb dX6_next_255 (by decide) ?_
                refine va_iald hx hb hK hP 4 0 rfl rfl (by unfold vp_in; decide) dX6_next_257 ?_
                refine W.eq (g2 := F0 m 258 ls [.int 1, .int kd]) rfl ?_
                refine vp_callSi (va_Run.run (va_runS (As := [.int kd, .int 1]) (rest := []) ⟨hx, hb, hml, hown, hts⟩ (gM_tells_1 l D cI cL cQ kd (by first | assumption | decide | omega)) (va_cwS 2 hts gX6_next_X6_tells rfl rfl rfl (by decide +kernel) ⟨Nat.le_of_ble_eq_true rfl, Nat.le_of_ble_eq_true rfl⟩) (jr_S hK hN hP [] rfl) rfl rfl hl.1 rfl (lv_room (Nat.le_of_ble_eq_true rfl)) dX6_next_258 ⟨Nat.le_of_ble_eq_true rfl, Nat.le_of_ble_eq_true rfl⟩)) (fun r f_56 => ?_)
                rcases f_56 with ⟨rfl, f_57⟩ | ⟨rfl, f_58⟩
                · refine lv_if_eq (tgt := 285) hx hb dX6_next_261 (by decide) (fun c_59 => absurd c_59 (by decide)) (fun c_59 => ?_)
                  refine lv_aload_n hx hb dX6_next_264 rfl (lv_at hl 4 rfl) ?_
                  refine va_get (D := D) (ci := 6) (v := .ref q11) (C := RX6) (T := TX6) (N := 15) hx hb hts (by decide +kernel) hown hK hP 0 rfl rfl 11 (by decide) (hts (.fieldLink RX6 25 "JoinDeskModel" "at" "[I") (by decide +kernel)) (fun _ h9 => h9) rfl dX6_next_265 ?_
                  refine lv_bipush (v := 9) hx hb dX6_next_268 (by decide) ?_
                  refine lv_iconst (v := 1) hx hb dX6_next_270 (by decide) ?_
                  refine va_iast hx hb hK hP hD hS 4 0 rfl rfl (by unfold vp_in; decide) dX6_next_271 (fun H locs hP hD hS => ?_)
                  rw [jl_upd (show (9 : Int32).toNatClampNeg = 9 by decide) (Nat.le_of_ble_eq_true rfl)] at hP hD
                  have hP : va_P D vwCl [(mo, .inr (6, [.int 0, .ref q1, .int (nI g), .ref q3, .ref q4, .ref q5, .ref q6, .int 1, .int gr, .int kd, .long w9_49, .ref q11, .int mk, .long w13, .long w14])), (q3, .inl (cI, 800, .inl m3)), (q5, .inl (cI, 800, .inl m5)), (q6, .inl (cI, 2, .inl (jl [nI n, nI n2]))), (q11, .inl (cI, 24, .inl (jl [nI to9_48, (nI b1), nI b0, l3, nI to9_48, l5, nI b0, l7, 1, 1, l10, l11, t12, t13, t14, t15, t16, t17, t18, t19, t20, t21, t22, t23])))] H := hP
                  have hD : va_D A [(mo, .inr (6, [.int 0, .ref q1, .int (nI g), .ref q3, .ref q4, .ref q5, .ref q6, .int 1, .int gr, .int kd, .long w9_49, .ref q11, .int mk, .long w13, .long w14])), (q3, .inl (cI, 800, .inl m3)), (q5, .inl (cI, 800, .inl m5)), (q6, .inl (cI, 2, .inl (jl [nI n, nI n2]))), (q11, .inl (cI, 24, .inl (jl [nI to9_48, (nI b1), nI b0, l3, nI to9_48, l5, nI b0, l7, 1, 1, l10, l11, t12, t13, t14, t15, t16, t17, t18, t19, t20, t21, t22, t23])))] := hD
                  refine lv_aload_n hx hb dX6_next_272 rfl (lv_at hl 4 rfl) ?_
                  refine va_get (D := D) (ci := 6) (v := .ref q11) (C := RX6) (T := TX6) (N := 15) hx hb hts (by decide +kernel) hown hK hP 0 rfl rfl 11 (by decide) (hts (.fieldLink RX6 25 "JoinDeskModel" "at" "[I") (by decide +kernel)) (fun _ h9 => h9) rfl dX6_next_273 ?_
                  refine lv_bipush (v := 10) hx hb dX6_next_276 (by decide) ?_
                  refine lv_dup2_11 hx hb dX6_next_278 rfl rfl ?_
                  refine va_iald hx hb hK hP 4 0 rfl rfl (by unfold vp_in; decide) dX6_next_279 ?_
                  refine W.eq (g2 := F0 m 280 ls [.int l10, .int 10, .ref q11]) rfl ?_
                  refine lv_iconst (v := 1) hx hb dX6_next_280 (by decide) ?_
                  refine lv_iadd hx hb dX6_next_281 ?_
                  refine va_iast hx hb hK hP hD hS 4 0 rfl rfl (by unfold vp_in; decide) dX6_next_282 (fun H locs hP hD hS => ?_)
                  rw [jl_upd (show (10 : Int32).toNatClampNeg = 10 by decide) (Nat.le_of_ble_eq_true rfl)] at hP hD
                  have hP : va_P D vwCl [(mo, .inr (6, [.int 0, .ref q1, .int (nI g), .ref q3, .ref q4, .ref q5, .ref q6, .int 1, .int gr, .int kd, .long w9_49, .ref q11, .int mk, .long w13, .long w14])), (q3, .inl (cI, 800, .inl m3)), (q5, .inl (cI, 800, .inl m5)), (q6, .inl (cI, 2, .inl (jl [nI n, nI n2]))), (q11, .inl (cI, 24, .inl (jl [nI to9_48, (nI b1), nI b0, l3, nI to9_48, l5, nI b0, l7, 1, 1, l10 + 1, l11, t12, t13, t14, t15, t16, t17, t18, t19, t20, t21, t22, t23])))] H := hP
                  have hD : va_D A [(mo, .inr (6, [.int 0, .ref q1, .int (nI g), .ref q3, .ref q4, .ref q5, .ref q6, .int 1, .int gr, .int kd, .long w9_49, .ref q11, .int mk, .long w13, .long w14])), (q3, .inl (cI, 800, .inl m3)), (q5, .inl (cI, 800, .inl m5)), (q6, .inl (cI, 2, .inl (jl [nI n, nI n2]))), (q11, .inl (cI, 24, .inl (jl [nI to9_48, (nI b1), nI b0, l3, nI to9_48, l5, nI b0, l7, 1, 1, l10 + 1, l11, t12, t13, t14, t15, t16, t17, t18, t19, t20, t21, t22, t23])))] := hD
                  refine lv_iconst (v := 1) hx hb dX6_next_283 (by decide) ?_
                  refine W.widen (k := 0) (n := 0) (by omega) (by omega) ?_
                  exact W.zret (v := 1) (ty := .boolean) hx hb hr rfl (fun t ht hW => ⟨⟨1, [(mo, .inr (6, [.int 0, .ref q1, .int (nI g), .ref q3, .ref q4, .ref q5, .ref q6, .int 1, .int gr, .int kd, .long w9_49, .ref q11, .int mk, .long w13, .long w14])), (q3, .inl (cI, 800, .inl m3)), (q5, .inl (cI, 800, .inl m5)), (q6, .inl (cI, 2, .inl (jl [nI n, nI n2]))), (q11, .inl (cI, 24, .inl (jl [nI to9_48, (nI b1), nI b0, l3, nI to9_48, l5, nI b0, l7, 1, 1, l10 + 1, l11, t12, t13, t14, t15, t16, t17, t18, t19, t20, t21, t22, t23])))], rfl, (by exact (Or.inr (Or.inl ⟨_, _, _, _, _, _, _, _, _, _, _, rfl, rfl, by omega, by omega, by omega, by omega⟩))), by rw [ht]; exact hP, hD⟩, hS.F ht⟩) hS.2.2 dX6_next_284
                · refine lv_if_eq (tgt := 285) hx hb dX6_next_261 (by decide) (fun c_60 => ?_) (fun c_60 => absurd c_60 (by decide))
                  refine lv_goto (tgt := 60) hx hb dX6_next_285 (by decide) ?_
                  exact ih_1 to9_48 b1 (nI b0) l3 (nI to9_48) l5 (nI b0) l7 1 l10 l11 w9_49 (by omega) (by omega) (by omega) _ _ hP hD hS ls (lv_sub hl [4] rfl)
              · refine lv_iconst (v := 1) hx hb dX6_next_195 (by decide) ?_
                refine lv_goto (tgt := 200) hx hb dX6_next_196 (by decide) ?_
                refine lv_istore_n (lv' := [(2, .int 1), (1, .int 1), (4, .int (jmk 400 m3 m5 b1)), (3, .int (jmk 0 m3 m5 b0)), (0, .ref mo)]) hx hb dX6_next_200 rfl hl (by decide) rfl (fun ls hl => ?_)
                refine lv_iload_n hx hb dX6_next_201 rfl (lv_at hl 1 rfl) ?_
                refine lv_if_eq (tgt := 210) hx hb dX6_next_202 (by decide) (fun c_61 => absurd c_61 (by decide)) (fun c_61 => ?_)
                refine lv_aload_n hx hb dX6_next_205 rfl (lv_at hl 4 rfl) ?_
                refine lv_iconst (v := 0) hx hb dX6_next_206 (by decide) ?_
                refine jw_v (wr := []) (va_runV (As := [.int 0]) (rest := []) ⟨hx, hb, hml, hown, hts⟩ (gM_goes_0 l D cI cL cQ mo g n n2 q1 q3 q4 q5 q6 q11 0 1 gr kd mk (wl + (2)) w13 w14 m3 m5 (nI b1) l2 l3 l4 l5 l6 l7 l8 0 l10 l11 t12 t13 t14 t15 t16 t17 t18 t19 t20 t21 t22 t23 b0 _ (by first | assumption | decide | omega) (by first | assumption | decide | omega) (by rw [nI_leI (by omega) (by omega)] at cl1; omega)) (cwV 1 hts gX6_next_X6_goes rfl rfl rfl (by decide +kernel) ⟨Nat.le_of_ble_eq_true rfl, Nat.le_of_ble_eq_true rfl⟩) (jw_V hK hN hP hD [0, 1, 2, 3, 4] (by decide) rfl 6 0 rfl rfl rfl) rfl rfl hl.1 rfl (lv_room (Nat.le_of_ble_eq_true rfl)) dX6_next_207 ⟨Nat.le_of_ble_eq_true rfl, Nat.le_of_ble_eq_true rfl⟩) hP hD hS hA [0, 1, 2, 3, 4] [] rfl rfl (by decide) (by decide) (fun u H locs f_62 hP hD hS => ?_)
                obtain ⟨to9_63, w9_64, rfl, f_65, f_66⟩ := f_62
                have hP : va_P D vwCl [(mo, .inr (6, [.int 0, .ref q1, .int (nI g), .ref q3, .ref q4, .ref q5, .ref q6, .int 1, .int gr, .int kd, .long w9_64, .ref q11, .int mk, .long w13, .long w14])), (q3, .inl (cI, 800, .inl m3)), (q5, .inl (cI, 800, .inl m5)), (q6, .inl (cI, 2, .inl (jl [nI n, nI n2]))), (q11, .inl (cI, 24, .inl (jl [nI to9_63, (nI b1), nI b0, l3, nI to9_63, l5, nI b0, l7, l8, 0, l10, l11, t12, t13, t14, t15, t16, t17, t18, t19, t20, t21, t22, t23])))] H := hP
                have hD : va_D A [(mo, .inr (6, [.int 0, .ref q1, .int (nI g), .ref q3, .ref q4, .ref q5, .ref q6, .int 1, .int gr, .int kd, .long w9_64, .ref q11, .int mk, .long w13, .long w14])), (q3, .inl (cI, 800, .inl m3)), (q5, .inl (cI, 800, .inl m5)), (q6, .inl (cI, 2, .inl (jl [nI n, nI n2]))), (q11, .inl (cI, 24, .inl (jl [nI to9_63, (nI b1), nI b0, l3, nI to9_63, l5, nI b0, l7, l8, 0, l10, l11, t12, t13, t14, t15, t16, t17, t18, t19, t20, t21, t22, t23])))] := hD
                refine lv_iload_n hx hb dX6_next_210 rfl (lv_at hl 0 rfl) ?_
                refine lv_if_eq (tgt := 219) hx hb dX6_next_211 (by decide) (fun c_67 => absurd c_67 (by decide)) (fun c_67 => ?_)
                refine lv_aload_n hx hb dX6_next_214 rfl (lv_at hl 4 rfl) ?_
                refine lv_iconst (v := 1) hx hb dX6_next_215 (by decide) ?_
                refine jw_v (wr := []) (va_runV (As := [.int 1]) (rest := []) ⟨hx, hb, hml, hown, hts⟩ (gM_goes_1 l D cI cL cQ mo g n n2 q1 q3 q4 q5 q6 q11 0 1 gr kd mk w9_64 w13 w14 m3 m5 (nI to9_63) (nI b0) l3 (nI to9_63) l5 (nI b0) l7 l8 0 l10 l11 t12 t13 t14 t15 t16 t17 t18 t19 t20 t21 t22 t23 b1 _ (by first | assumption | decide | omega) (by first | assumption | decide | omega) (by rw [nI_leI (by omega) (by omega)] at cr1; omega)) (cwV 1 hts gX6_next_X6_goes rfl rfl rfl (by decide +kernel) ⟨Nat.le_of_ble_eq_true rfl, Nat.le_of_ble_eq_true rfl⟩) (jw_V hK hN hP hD [0, 1, 2, 3, 4] (by decide) rfl 6 0 rfl rfl rfl) rfl rfl hl.1 rfl (lv_room (Nat.le_of_ble_eq_true rfl)) dX6_next_216 ⟨Nat.le_of_ble_eq_true rfl, Nat.le_of_ble_eq_true rfl⟩) hP hD hS hA [0, 1, 2, 3, 4] [] rfl rfl (by decide) (by decide) (fun u H locs f_68 hP hD hS => ?_)
                obtain ⟨to9_69, w9_70, rfl, f_71, f_72⟩ := f_68
                have hP : va_P D vwCl [(mo, .inr (6, [.int 0, .ref q1, .int (nI g), .ref q3, .ref q4, .ref q5, .ref q6, .int 1, .int gr, .int kd, .long w9_70, .ref q11, .int mk, .long w13, .long w14])), (q3, .inl (cI, 800, .inl m3)), (q5, .inl (cI, 800, .inl m5)), (q6, .inl (cI, 2, .inl (jl [nI n, nI n2]))), (q11, .inl (cI, 24, .inl (jl [(nI to9_63), nI to9_69, (nI b0), nI b1, (nI to9_63), nI to9_69, (nI b0), nI b1, l8, 0, l10, l11, t12, t13, t14, t15, t16, t17, t18, t19, t20, t21, t22, t23])))] H := hP
                have hD : va_D A [(mo, .inr (6, [.int 0, .ref q1, .int (nI g), .ref q3, .ref q4, .ref q5, .ref q6, .int 1, .int gr, .int kd, .long w9_70, .ref q11, .int mk, .long w13, .long w14])), (q3, .inl (cI, 800, .inl m3)), (q5, .inl (cI, 800, .inl m5)), (q6, .inl (cI, 2, .inl (jl [nI n, nI n2]))), (q11, .inl (cI, 24, .inl (jl [(nI to9_63), nI to9_69, (nI b0), nI b1, (nI to9_63), nI to9_69, (nI b0), nI b1, l8, 0, l10, l11, t12, t13, t14, t15, t16, t17, t18, t19, t20, t21, t22, t23])))] := hD
                refine lv_aload_n hx hb dX6_next_219 rfl (lv_at hl 4 rfl) ?_
                refine va_get (D := D) (ci := 6) (v := .ref q11) (C := RX6) (T := TX6) (N := 15) hx hb hts (by decide +kernel) hown hK hP 0 rfl rfl 11 (by decide) (hts (.fieldLink RX6 25 "JoinDeskModel" "at" "[I") (by decide +kernel)) (fun _ h9 => h9) rfl dX6_next_220 ?_
                refine lv_bipush (v := 8) hx hb dX6_next_223 (by decide) ?_
                refine lv_iload_n hx hb dX6_next_225 rfl (lv_at hl 1 rfl) ?_
                refine lv_if_eq (tgt := 237) hx hb dX6_next_226 (by decide) (fun c_73 => absurd c_73 (by decide)) (fun c_73 => ?_)
                refine lv_iload_n hx hb dX6_next_229 rfl (lv_at hl 0 rfl) ?_
                refine lv_if_eq (tgt := 237) hx hb dX6_next_230 (by decide) (fun c_74 => absurd c_74 (by decide)) (fun c_74 => ?_)
                refine lv_iconst (v := 0) hx hb dX6_next_233 (by decide) ?_
                refine lv_goto (tgt := 246) hx hb dX6_next_234 (by decide) ?_
                refine va_iast hx hb hK hP hD hS 4 0 rfl rfl (by unfold vp_in; decide) dX6_next_246 (fun H locs hP hD hS => ?_)
                rw [jl_upd (show (8 : Int32).toNatClampNeg = 8 by decide) (Nat.le_of_ble_eq_true rfl)] at hP hD
                have hP : va_P D vwCl [(mo, .inr (6, [.int 0, .ref q1, .int (nI g), .ref q3, .ref q4, .ref q5, .ref q6, .int 1, .int gr, .int kd, .long w9_70, .ref q11, .int mk, .long w13, .long w14])), (q3, .inl (cI, 800, .inl m3)), (q5, .inl (cI, 800, .inl m5)), (q6, .inl (cI, 2, .inl (jl [nI n, nI n2]))), (q11, .inl (cI, 24, .inl (jl [(nI to9_63), nI to9_69, (nI b0), nI b1, (nI to9_63), nI to9_69, (nI b0), nI b1, 0, 0, l10, l11, t12, t13, t14, t15, t16, t17, t18, t19, t20, t21, t22, t23])))] H := hP
                have hD : va_D A [(mo, .inr (6, [.int 0, .ref q1, .int (nI g), .ref q3, .ref q4, .ref q5, .ref q6, .int 1, .int gr, .int kd, .long w9_70, .ref q11, .int mk, .long w13, .long w14])), (q3, .inl (cI, 800, .inl m3)), (q5, .inl (cI, 800, .inl m5)), (q6, .inl (cI, 2, .inl (jl [nI n, nI n2]))), (q11, .inl (cI, 24, .inl (jl [(nI to9_63), nI to9_69, (nI b0), nI b1, (nI to9_63), nI to9_69, (nI b0), nI b1, 0, 0, l10, l11, t12, t13, t14, t15, t16, t17, t18, t19, t20, t21, t22, t23])))] := hD
                refine lv_aload_n hx hb dX6_next_247 rfl (lv_at hl 4 rfl) ?_
                refine va_get (D := D) (ci := 6) (v := .int kd) (C := RX6) (T := TX6) (N := 15) hx hb hts (by decide +kernel) hown hK hP 0 rfl rfl 9 (by decide) (hts (.fieldLink RX6 60 "JoinDeskModel" "kind" "I") (by decide +kernel)) (fun _ h9 => h9) rfl dX6_next_248 ?_
                refine lv_aload_n hx hb dX6_next_251 rfl (lv_at hl 4 rfl) ?_
                refine va_get (D := D) (ci := 6) (v := .ref q11) (C := RX6) (T := TX6) (N := 15) hx hb hts (by decide +kernel) hown hK hP 0 rfl rfl 11 (by decide) (hts (.fieldLink RX6 25 "JoinDeskModel" "at" "[I") (by decide +kernel)) (fun _ h9 => h9) rfl dX6_next_252 ?_
                refine lv_bipush (v := 8) hx hb dX6_next_255 (by decide) ?_
                refine va_iald hx hb hK hP 4 0 rfl rfl (by unfold vp_in; decide) dX6_next_257 ?_
                refine W.eq (g2 := F0 m 258 ls [.int 0, .int kd]) rfl ?_
                refine vp_callSi (va_Run.run (va_runS (As := [.int kd, .int 0]) (rest := []) ⟨hx, hb, hml, hown, hts⟩ (gM_tells_0 l D cI cL cQ kd) (va_cwS 2 hts gX6_next_X6_tells rfl rfl rfl (by decide +kernel) ⟨Nat.le_of_ble_eq_true rfl, Nat.le_of_ble_eq_true rfl⟩) (jr_S hK hN hP [] rfl) rfl rfl hl.1 rfl (lv_room (Nat.le_of_ble_eq_true rfl)) dX6_next_258 ⟨Nat.le_of_ble_eq_true rfl, Nat.le_of_ble_eq_true rfl⟩)) (fun r f_75 => ?_)
                obtain rfl := f_75
                refine lv_if_eq (tgt := 285) hx hb dX6_next_261 (by decide) (fun c_76 => absurd c_76 (by decide)) (fun c_76 => ?_)
                refine lv_aload_n hx hb dX6_next_264 rfl (lv_at hl 4 rfl) ?_
                refine va_get (D := D) (ci := 6) (v := .ref q11) (C := RX6) (T := TX6) (N := 15) hx hb hts (by decide +kernel) hown hK hP 0 rfl rfl 11 (by decide) (hts (.fieldLink RX6 25 "JoinDeskModel" "at" "[I") (by decide +kernel)) (fun _ h9 => h9) rfl dX6_next_265 ?_
                refine lv_bipush (v := 9) hx hb dX6_next_268 (by decide) ?_
                refine lv_iconst (v := 1) hx hb dX6_next_270 (by decide) ?_
                refine va_iast hx hb hK hP hD hS 4 0 rfl rfl (by unfold vp_in; decide) dX6_next_271 (fun H locs hP hD hS => ?_)
                rw [jl_upd (show (9 : Int32).toNatClampNeg = 9 by decide) (Nat.le_of_ble_eq_true rfl)] at hP hD
                have hP : va_P D vwCl [(mo, .inr (6, [.int 0, .ref q1, .int (nI g), .ref q3, .ref q4, .ref q5, .ref q6, .int 1, .int gr, .int kd, .long w9_70, .ref q11, .int mk, .long w13, .long w14])), (q3, .inl (cI, 800, .inl m3)), (q5, .inl (cI, 800, .inl m5)), (q6, .inl (cI, 2, .inl (jl [nI n, nI n2]))), (q11, .inl (cI, 24, .inl (jl [(nI to9_63), nI to9_69, (nI b0), nI b1, (nI to9_63), nI to9_69, (nI b0), nI b1, 0, 1, l10, l11, t12, t13, t14, t15, t16, t17, t18, t19, t20, t21, t22, t23])))] H := hP
                have hD : va_D A [(mo, .inr (6, [.int 0, .ref q1, .int (nI g), .ref q3, .ref q4, .ref q5, .ref q6, .int 1, .int gr, .int kd, .long w9_70, .ref q11, .int mk, .long w13, .long w14])), (q3, .inl (cI, 800, .inl m3)), (q5, .inl (cI, 800, .inl m5)), (q6, .inl (cI, 2, .inl (jl [nI n, nI n2]))), (q11, .inl (cI, 24, .inl (jl [(nI to9_63), nI to9_69, (nI b0), nI b1, (nI to9_63), nI to9_69, (nI b0), nI b1, 0, 1, l10, l11, t12, t13, t14, t15, t16, t17, t18, t19, t20, t21, t22, t23])))] := hD
                refine lv_aload_n hx hb dX6_next_272 rfl (lv_at hl 4 rfl) ?_
                refine va_get (D := D) (ci := 6) (v := .ref q11) (C := RX6) (T := TX6) (N := 15) hx hb hts (by decide +kernel) hown hK hP 0 rfl rfl 11 (by decide) (hts (.fieldLink RX6 25 "JoinDeskModel" "at" "[I") (by decide +kernel)) (fun _ h9 => h9) rfl dX6_next_273 ?_
                refine lv_bipush (v := 10) hx hb dX6_next_276 (by decide) ?_
                refine lv_dup2_11 hx hb dX6_next_278 rfl rfl ?_
                refine va_iald hx hb hK hP 4 0 rfl rfl (by unfold vp_in; decide) dX6_next_279 ?_
                refine W.eq (g2 := F0 m 280 ls [.int l10, .int 10, .ref q11]) rfl ?_
                refine lv_iconst (v := 1) hx hb dX6_next_280 (by decide) ?_
                refine lv_iadd hx hb dX6_next_281 ?_
                refine va_iast hx hb hK hP hD hS 4 0 rfl rfl (by unfold vp_in; decide) dX6_next_282 (fun H locs hP hD hS => ?_)
                rw [jl_upd (show (10 : Int32).toNatClampNeg = 10 by decide) (Nat.le_of_ble_eq_true rfl)] at hP hD
                have hP : va_P D vwCl [(mo, .inr (6, [.int 0, .ref q1, .int (nI g), .ref q3, .ref q4, .ref q5, .ref q6, .int 1, .int gr, .int kd, .long w9_70, .ref q11, .int mk, .long w13, .long w14])), (q3, .inl (cI, 800, .inl m3)), (q5, .inl (cI, 800, .inl m5)), (q6, .inl (cI, 2, .inl (jl [nI n, nI n2]))), (q11, .inl (cI, 24, .inl (jl [(nI to9_63), nI to9_69, (nI b0), nI b1, (nI to9_63), nI to9_69, (nI b0), nI b1, 0, 1, l10 + 1, l11, t12, t13, t14, t15, t16, t17, t18, t19, t20, t21, t22, t23])))] H := hP
                have hD : va_D A [(mo, .inr (6, [.int 0, .ref q1, .int (nI g), .ref q3, .ref q4, .ref q5, .ref q6, .int 1, .int gr, .int kd, .long w9_70, .ref q11, .int mk, .long w13, .long w14])), (q3, .inl (cI, 800, .inl m3)), (q5, .inl (cI, 800, .inl m5)), (q6, .inl (cI, 2, .inl (jl [nI n, nI n2]))), (q11, .inl (cI, 24, .inl (jl [(nI to9_63), nI to9_69, (nI b0), nI b1, (nI to9_63), nI to9_69, (nI b0), nI b1, 0, 1, l10 + 1, l11, t12, t13, t14, t15, t16, t17, t18, t19, t20, t21, t22, t23])))] := hD
                refine lv_iconst (v := 1) hx hb dX6_next_283 (by decide) ?_
                refine W.widen (k := 0) (n := 0) (by omega) (by omega) ?_
                exact W.zret (v := 1) (ty := .boolean) hx hb hr rfl (fun t ht hW => ⟨⟨1, [(mo, .inr (6, [.int 0, .ref q1, .int (nI g), .ref q3, .ref q4, .ref q5, .ref q6, .int 1, .int gr, .int kd, .long w9_70, .ref q11, .int mk, .long w13, .long w14])), (q3, .inl (cI, 800, .inl m3)), (q5, .inl (cI, 800, .inl m5)), (q6, .inl (cI, 2, .inl (jl [nI n, nI n2]))), (q11, .inl (cI, 24, .inl (jl [(nI to9_63), nI to9_69, (nI b0), nI b1, (nI to9_63), nI to9_69, (nI b0), nI b1, 0, 1, l10 + 1, l11, t12, t13, t14, t15, t16, t17, t18, t19, t20, t21, t22, t23])))], rfl, (by exact (Or.inl ⟨_, _, _, _, _, _, _, _, _, _, _, rfl, rfl, by omega, by omega, by omega, by omega, by omega, by omega, by omega⟩)), by rw [ht]; exact hP, hD⟩, hS.F ht⟩) hS.2.2 dX6_next_284
        · refine lv_aload_n hx hb dX6_next_75 rfl (lv_at hl 0 rfl) ?_
          refine va_get (D := D) (ci := 6) (v := .ref q11) (C := RX6) (T := TX6) (N := 15) hx hb hts (by decide +kernel) hown hK hP 0 rfl rfl 11 (by decide) (hts (.fieldLink RX6 25 "JoinDeskModel" "at" "[I") (by decide +kernel)) (fun _ h9 => h9) rfl dX6_next_76 ?_
          refine lv_iconst (v := 1) hx hb dX6_next_79 (by decide) ?_
          refine va_iald hx hb hK hP 4 0 rfl rfl (by unfold vp_in; decide) dX6_next_80 ?_
          refine W.eq (g2 := F0 m 81 ls [.int (nI b1)]) rfl ?_
          refine lv_aload_n hx hb dX6_next_81 rfl (lv_at hl 0 rfl) ?_
          refine va_get (D := D) (ci := 6) (v := .ref q6) (C := RX6) (T := TX6) (N := 15) hx hb hts (by decide +kernel) hown hK hP 0 rfl rfl 6 (by decide) (hts (.fieldLink RX6 22 "JoinDeskModel" "many" "[I") (by decide +kernel)) (fun _ h9 => h9) rfl dX6_next_82 ?_
          refine lv_iconst (v := 1) hx hb dX6_next_85 (by decide) ?_
          refine va_iald hx hb hK hP 3 0 rfl rfl (by unfold vp_in; decide) dX6_next_86 ?_
          refine W.eq (g2 := F0 m 87 ls [.int (nI n2), .int (nI b1)]) rfl ?_
          refine lv_icmp_ge (tgt := 288) hx hb dX6_next_87 (by decide) (fun cr0 => ?_) (fun cr0 => ?_)
          · refine lv_iconst (v := 0) hx hb dX6_next_288 (by decide) ?_
            refine W.widen (k := 0) (n := 0) (by omega) (by omega) ?_
            exact W.zret (v := 0) (ty := .boolean) hx hb hr rfl (fun t ht hW => ⟨⟨0, [(mo, .inr (6, [.int 0, .ref q1, .int (nI g), .ref q3, .ref q4, .ref q5, .ref q6, .int 1, .int gr, .int kd, .long wl, .ref q11, .int mk, .long w13, .long w14])), (q3, .inl (cI, 800, .inl m3)), (q5, .inl (cI, 800, .inl m5)), (q6, .inl (cI, 2, .inl (jl [nI n, nI n2]))), (q11, .inl (cI, 24, .inl (jl [nI b0, nI b1, l2, l3, l4, l5, l6, l7, l8, 0, l10, l11, t12, t13, t14, t15, t16, t17, t18, t19, t20, t21, t22, t23])))], rfl, (by exact (Or.inr (Or.inr (Or.inr (⟨_, _, _, _, _, _, _, _, _, _, _, _, rfl, rfl, by omega, by omega⟩))))), by rw [ht]; exact hP, hD⟩, hS.F ht⟩) hS.2.2 dX6_next_289
          · refine lv_aload_n hx hb dX6_next_90 rfl (lv_at hl 0 rfl) ?_
            refine va_get (D := D) (ci := 6) (v := .ref q11) (C := RX6) (T := TX6) (N := 15) hx hb hts (by decide +kernel) hown hK hP 0 rfl rfl 11 (by decide) (hts (.fieldLink RX6 25 "JoinDeskModel" "at" "[I") (by decide +kernel)) (fun _ h9 => h9) rfl dX6_next_91 ?_
            refine lv_iconst (v := 0) hx hb dX6_next_94 (by decide) ?_
            refine va_iald hx hb hK hP 4 0 rfl rfl (by unfold vp_in; decide) dX6_next_95 ?_
            refine W.eq (g2 := F0 m 96 ls [.int (nI b0)]) rfl ?_
            refine lv_aload_n hx hb dX6_next_96 rfl (lv_at hl 0 rfl) ?_
            refine va_get (D := D) (ci := 6) (v := .ref q6) (C := RX6) (T := TX6) (N := 15) hx hb hts (by decide +kernel) hown hK hP 0 rfl rfl 6 (by decide) (hts (.fieldLink RX6 22 "JoinDeskModel" "many" "[I") (by decide +kernel)) (fun _ h9 => h9) rfl dX6_next_97 ?_
            refine lv_iconst (v := 0) hx hb dX6_next_100 (by decide) ?_
            refine va_iald hx hb hK hP 3 0 rfl rfl (by unfold vp_in; decide) dX6_next_101 ?_
            refine W.eq (g2 := F0 m 102 ls [.int (nI n), .int (nI b0)]) rfl ?_
            refine lv_icmp_ge (tgt := 109) hx hb dX6_next_102 (by decide) (fun cl1 => ?_) (fun cl1 => absurd cl1 (by exact fun h => h (by rw [nI_leI (by omega) (by omega)]; rw [nI_ltI (by omega) (by omega)] at cl0; omega)))
            refine lv_iconst (v := 0) hx hb dX6_next_109 (by decide) ?_
            refine lv_istore_n (lv' := [(1, .int 0), (0, .ref mo)]) hx hb dX6_next_110 rfl hl (by decide) rfl (fun ls hl => ?_)
            refine lv_aload_n hx hb dX6_next_111 rfl (lv_at hl 1 rfl) ?_
            refine va_get (D := D) (ci := 6) (v := .ref q11) (C := RX6) (T := TX6) (N := 15) hx hb hts (by decide +kernel) hown hK hP 0 rfl rfl 11 (by decide) (hts (.fieldLink RX6 25 "JoinDeskModel" "at" "[I") (by decide +kernel)) (fun _ h9 => h9) rfl dX6_next_112 ?_
            refine lv_iconst (v := 1) hx hb dX6_next_115 (by decide) ?_
            refine va_iald hx hb hK hP 4 0 rfl rfl (by unfold vp_in; decide) dX6_next_116 ?_
            refine W.eq (g2 := F0 m 117 ls [.int (nI b1)]) rfl ?_
            refine lv_aload_n hx hb dX6_next_117 rfl (lv_at hl 1 rfl) ?_
            refine va_get (D := D) (ci := 6) (v := .ref q6) (C := RX6) (T := TX6) (N := 15) hx hb hts (by decide +kernel) hown hK hP 0 rfl rfl 6 (by decide) (hts (.fieldLink RX6 22 "JoinDeskModel" "many" "[I") (by decide +kernel)) (fun _ h9 => h9) rfl dX6_next_118 ?_
            refine lv_iconst (v := 1) hx hb dX6_next_121 (by decide) ?_
            refine va_iald hx hb hK hP 3 0 rfl rfl (by unfold vp_in; decide) dX6_next_122 ?_
            refine W.eq (g2 := F0 m 123 ls [.int (nI n2), .int (nI b1)]) rfl ?_
            refine lv_icmp_ge (tgt := 130) hx hb dX6_next_123 (by decide) (fun cr1 => absurd cr1 (by exact cr0)) (fun cr1 => ?_)
            refine lv_iconst (v := 1) hx hb dX6_next_126 (by decide) ?_
            refine lv_goto (tgt := 131) hx hb dX6_next_127 (by decide) ?_
            refine lv_istore_n (lv' := [(2, .int 1), (1, .int 0), (0, .ref mo)]) hx hb dX6_next_131 rfl hl (by decide) rfl (fun ls hl => ?_)
            refine lv_iload_n hx hb dX6_next_132 rfl (lv_at hl 1 rfl) ?_
            refine lv_if_eq (tgt := 201) hx hb dX6_next_133 (by decide) (fun c_77 => ?_) (fun c_77 => absurd c_77 (by decide))
            refine lv_iload_n hx hb dX6_next_201 rfl (lv_at hl 1 rfl) ?_
            refine lv_if_eq (tgt := 210) hx hb dX6_next_202 (by decide) (fun c_78 => ?_) (fun c_78 => absurd c_78 (by decide))
            refine lv_iload_n hx hb dX6_next_210 rfl (lv_at hl 0 rfl) ?_
            refine lv_if_eq (tgt := 219) hx hb dX6_next_211 (by decide) (fun c_79 => absurd c_79 (by decide)) (fun c_79 => ?_)
            refine lv_aload_n hx hb dX6_next_214 rfl (lv_at hl 2 rfl) ?_
            refine lv_iconst (v := 1) hx hb dX6_next_215 (by decide) ?_
            refine jw_v (wr := []) (va_runV (As := [.int 1]) (rest := []) ⟨hx, hb, hml, hown, hts⟩ (gM_goes_1 l D cI cL cQ mo g n n2 q1 q3 q4 q5 q6 q11 0 1 gr kd mk wl w13 w14 m3 m5 (nI b0) l2 l3 l4 l5 l6 l7 l8 0 l10 l11 t12 t13 t14 t15 t16 t17 t18 t19 t20 t21 t22 t23 b1 _ (by first | assumption | decide | omega) (by first | assumption | decide | omega) (by rw [nI_leI (by omega) (by omega)] at cr1; omega)) (cwV 1 hts gX6_next_X6_goes rfl rfl rfl (by decide +kernel) ⟨Nat.le_of_ble_eq_true rfl, Nat.le_of_ble_eq_true rfl⟩) (jw_V hK hN hP hD [0, 1, 2, 3, 4] (by decide) rfl 6 0 rfl rfl rfl) rfl rfl hl.1 rfl (lv_room (Nat.le_of_ble_eq_true rfl)) dX6_next_216 ⟨Nat.le_of_ble_eq_true rfl, Nat.le_of_ble_eq_true rfl⟩) hP hD hS hA [0, 1, 2, 3, 4] [] rfl rfl (by decide) (by decide) (fun u H locs f_80 hP hD hS => ?_)
            obtain ⟨to9_81, w9_82, rfl, f_83, f_84⟩ := f_80
            have hP : va_P D vwCl [(mo, .inr (6, [.int 0, .ref q1, .int (nI g), .ref q3, .ref q4, .ref q5, .ref q6, .int 1, .int gr, .int kd, .long w9_82, .ref q11, .int mk, .long w13, .long w14])), (q3, .inl (cI, 800, .inl m3)), (q5, .inl (cI, 800, .inl m5)), (q6, .inl (cI, 2, .inl (jl [nI n, nI n2]))), (q11, .inl (cI, 24, .inl (jl [(nI b0), nI to9_81, l2, nI b1, l4, nI to9_81, l6, nI b1, l8, 0, l10, l11, t12, t13, t14, t15, t16, t17, t18, t19, t20, t21, t22, t23])))] H := hP
            have hD : va_D A [(mo, .inr (6, [.int 0, .ref q1, .int (nI g), .ref q3, .ref q4, .ref q5, .ref q6, .int 1, .int gr, .int kd, .long w9_82, .ref q11, .int mk, .long w13, .long w14])), (q3, .inl (cI, 800, .inl m3)), (q5, .inl (cI, 800, .inl m5)), (q6, .inl (cI, 2, .inl (jl [nI n, nI n2]))), (q11, .inl (cI, 24, .inl (jl [(nI b0), nI to9_81, l2, nI b1, l4, nI to9_81, l6, nI b1, l8, 0, l10, l11, t12, t13, t14, t15, t16, t17, t18, t19, t20, t21, t22, t23])))] := hD
            refine lv_aload_n hx hb dX6_next_219 rfl (lv_at hl 2 rfl) ?_
            refine va_get (D := D) (ci := 6) (v := .ref q11) (C := RX6) (T := TX6) (N := 15) hx hb hts (by decide +kernel) hown hK hP 0 rfl rfl 11 (by decide) (hts (.fieldLink RX6 25 "JoinDeskModel" "at" "[I") (by decide +kernel)) (fun _ h9 => h9) rfl dX6_next_220 ?_
            refine lv_bipush (v := 8) hx hb dX6_next_223 (by decide) ?_
            refine lv_iload_n hx hb dX6_next_225 rfl (lv_at hl 1 rfl) ?_
            refine lv_if_eq (tgt := 237) hx hb dX6_next_226 (by decide) (fun c_85 => ?_) (fun c_85 => absurd c_85 (by decide))
            refine lv_iload_n hx hb dX6_next_237 rfl (lv_at hl 1 rfl) ?_
            refine lv_if_eq (tgt := 245) hx hb dX6_next_238 (by decide) (fun c_86 => ?_) (fun c_86 => absurd c_86 (by decide))
            refine lv_iconst (v := 2) hx hb dX6_next_245 (by decide) ?_
            refine va_iast hx hb hK hP hD hS 4 0 rfl rfl (by unfold vp_in; decide) dX6_next_246 (fun H locs hP hD hS => ?_)
            rw [jl_upd (show (8 : Int32).toNatClampNeg = 8 by decide) (Nat.le_of_ble_eq_true rfl)] at hP hD
            have hP : va_P D vwCl [(mo, .inr (6, [.int 0, .ref q1, .int (nI g), .ref q3, .ref q4, .ref q5, .ref q6, .int 1, .int gr, .int kd, .long w9_82, .ref q11, .int mk, .long w13, .long w14])), (q3, .inl (cI, 800, .inl m3)), (q5, .inl (cI, 800, .inl m5)), (q6, .inl (cI, 2, .inl (jl [nI n, nI n2]))), (q11, .inl (cI, 24, .inl (jl [(nI b0), nI to9_81, l2, nI b1, l4, nI to9_81, l6, nI b1, 2, 0, l10, l11, t12, t13, t14, t15, t16, t17, t18, t19, t20, t21, t22, t23])))] H := hP
            have hD : va_D A [(mo, .inr (6, [.int 0, .ref q1, .int (nI g), .ref q3, .ref q4, .ref q5, .ref q6, .int 1, .int gr, .int kd, .long w9_82, .ref q11, .int mk, .long w13, .long w14])), (q3, .inl (cI, 800, .inl m3)), (q5, .inl (cI, 800, .inl m5)), (q6, .inl (cI, 2, .inl (jl [nI n, nI n2]))), (q11, .inl (cI, 24, .inl (jl [(nI b0), nI to9_81, l2, nI b1, l4, nI to9_81, l6, nI b1, 2, 0, l10, l11, t12, t13, t14, t15, t16, t17, t18, t19, t20, t21, t22, t23])))] := hD
            refine lv_aload_n hx hb dX6_next_247 rfl (lv_at hl 2 rfl) ?_
            refine va_get (D := D) (ci := 6) (v := .int kd) (C := RX6) (T := TX6) (N := 15) hx hb hts (by decide +kernel) hown hK hP 0 rfl rfl 9 (by decide) (hts (.fieldLink RX6 60 "JoinDeskModel" "kind" "I") (by decide +kernel)) (fun _ h9 => h9) rfl dX6_next_248 ?_
            refine lv_aload_n hx hb dX6_next_251 rfl (lv_at hl 2 rfl) ?_
            refine va_get (D := D) (ci := 6) (v := .ref q11) (C := RX6) (T := TX6) (N := 15) hx hb hts (by decide +kernel) hown hK hP 0 rfl rfl 11 (by decide) (hts (.fieldLink RX6 25 "JoinDeskModel" "at" "[I") (by decide +kernel)) (fun _ h9 => h9) rfl dX6_next_252 ?_
            refine lv_bipush (v := 8) hx hb dX6_next_255 (by decide) ?_
            refine va_iald hx hb hK hP 4 0 rfl rfl (by unfold vp_in; decide) dX6_next_257 ?_
            refine W.eq (g2 := F0 m 258 ls [.int 2, .int kd]) rfl ?_
            refine vp_callSi (va_Run.run (va_runS (As := [.int kd, .int 2]) (rest := []) ⟨hx, hb, hml, hown, hts⟩ (gM_tells_2 l D cI cL cQ kd (by first | assumption | decide | omega)) (va_cwS 2 hts gX6_next_X6_tells rfl rfl rfl (by decide +kernel) ⟨Nat.le_of_ble_eq_true rfl, Nat.le_of_ble_eq_true rfl⟩) (jr_S hK hN hP [] rfl) rfl rfl hl.1 rfl (lv_room (Nat.le_of_ble_eq_true rfl)) dX6_next_258 ⟨Nat.le_of_ble_eq_true rfl, Nat.le_of_ble_eq_true rfl⟩)) (fun r f_87 => ?_)
            rcases f_87 with ⟨rfl, f_88⟩ | ⟨rfl, f_89⟩
            · refine lv_if_eq (tgt := 285) hx hb dX6_next_261 (by decide) (fun c_90 => absurd c_90 (by decide)) (fun c_90 => ?_)
              refine lv_aload_n hx hb dX6_next_264 rfl (lv_at hl 2 rfl) ?_
              refine va_get (D := D) (ci := 6) (v := .ref q11) (C := RX6) (T := TX6) (N := 15) hx hb hts (by decide +kernel) hown hK hP 0 rfl rfl 11 (by decide) (hts (.fieldLink RX6 25 "JoinDeskModel" "at" "[I") (by decide +kernel)) (fun _ h9 => h9) rfl dX6_next_265 ?_
              refine lv_bipush (v := 9) hx hb dX6_next_268 (by decide) ?_
              refine lv_iconst (v := 1) hx hb dX6_next_270 (by decide) ?_
              refine va_iast hx hb hK hP hD hS 4 0 rfl rfl (by unfold vp_in; decide) dX6_next_271 (fun H locs hP hD hS => ?_)
              rw [jl_upd (show (9 : Int32).toNatClampNeg = 9 by decide) (Nat.le_of_ble_eq_true rfl)] at hP hD
              have hP : va_P D vwCl [(mo, .inr (6, [.int 0, .ref q1, .int (nI g), .ref q3, .ref q4, .ref q5, .ref q6, .int 1, .int gr, .int kd, .long w9_82, .ref q11, .int mk, .long w13, .long w14])), (q3, .inl (cI, 800, .inl m3)), (q5, .inl (cI, 800, .inl m5)), (q6, .inl (cI, 2, .inl (jl [nI n, nI n2]))), (q11, .inl (cI, 24, .inl (jl [(nI b0), nI to9_81, l2, nI b1, l4, nI to9_81, l6, nI b1, 2, 1, l10, l11, t12, t13, t14, t15, t16, t17, t18, t19, t20, t21, t22, t23])))] H := hP
              have hD : va_D A [(mo, .inr (6, [.int 0, .ref q1, .int (nI g), .ref q3, .ref q4, .ref q5, .ref q6, .int 1, .int gr, .int kd, .long w9_82, .ref q11, .int mk, .long w13, .long w14])), (q3, .inl (cI, 800, .inl m3)), (q5, .inl (cI, 800, .inl m5)), (q6, .inl (cI, 2, .inl (jl [nI n, nI n2]))), (q11, .inl (cI, 24, .inl (jl [(nI b0), nI to9_81, l2, nI b1, l4, nI to9_81, l6, nI b1, 2, 1, l10, l11, t12, t13, t14, t15, t16, t17, t18, t19, t20, t21, t22, t23])))] := hD
              refine lv_aload_n hx hb dX6_next_272 rfl (lv_at hl 2 rfl) ?_
              refine va_get (D := D) (ci := 6) (v := .ref q11) (C := RX6) (T := TX6) (N := 15) hx hb hts (by decide +kernel) hown hK hP 0 rfl rfl 11 (by decide) (hts (.fieldLink RX6 25 "JoinDeskModel" "at" "[I") (by decide +kernel)) (fun _ h9 => h9) rfl dX6_next_273 ?_
              refine lv_bipush (v := 10) hx hb dX6_next_276 (by decide) ?_
              refine lv_dup2_11 hx hb dX6_next_278 rfl rfl ?_
              refine va_iald hx hb hK hP 4 0 rfl rfl (by unfold vp_in; decide) dX6_next_279 ?_
              refine W.eq (g2 := F0 m 280 ls [.int l10, .int 10, .ref q11]) rfl ?_
              refine lv_iconst (v := 1) hx hb dX6_next_280 (by decide) ?_
              refine lv_iadd hx hb dX6_next_281 ?_
              refine va_iast hx hb hK hP hD hS 4 0 rfl rfl (by unfold vp_in; decide) dX6_next_282 (fun H locs hP hD hS => ?_)
              rw [jl_upd (show (10 : Int32).toNatClampNeg = 10 by decide) (Nat.le_of_ble_eq_true rfl)] at hP hD
              have hP : va_P D vwCl [(mo, .inr (6, [.int 0, .ref q1, .int (nI g), .ref q3, .ref q4, .ref q5, .ref q6, .int 1, .int gr, .int kd, .long w9_82, .ref q11, .int mk, .long w13, .long w14])), (q3, .inl (cI, 800, .inl m3)), (q5, .inl (cI, 800, .inl m5)), (q6, .inl (cI, 2, .inl (jl [nI n, nI n2]))), (q11, .inl (cI, 24, .inl (jl [(nI b0), nI to9_81, l2, nI b1, l4, nI to9_81, l6, nI b1, 2, 1, l10 + 1, l11, t12, t13, t14, t15, t16, t17, t18, t19, t20, t21, t22, t23])))] H := hP
              have hD : va_D A [(mo, .inr (6, [.int 0, .ref q1, .int (nI g), .ref q3, .ref q4, .ref q5, .ref q6, .int 1, .int gr, .int kd, .long w9_82, .ref q11, .int mk, .long w13, .long w14])), (q3, .inl (cI, 800, .inl m3)), (q5, .inl (cI, 800, .inl m5)), (q6, .inl (cI, 2, .inl (jl [nI n, nI n2]))), (q11, .inl (cI, 24, .inl (jl [(nI b0), nI to9_81, l2, nI b1, l4, nI to9_81, l6, nI b1, 2, 1, l10 + 1, l11, t12, t13, t14, t15, t16, t17, t18, t19, t20, t21, t22, t23])))] := hD
              refine lv_iconst (v := 1) hx hb dX6_next_283 (by decide) ?_
              refine W.widen (k := 0) (n := 0) (by omega) (by omega) ?_
              exact W.zret (v := 1) (ty := .boolean) hx hb hr rfl (fun t ht hW => ⟨⟨1, [(mo, .inr (6, [.int 0, .ref q1, .int (nI g), .ref q3, .ref q4, .ref q5, .ref q6, .int 1, .int gr, .int kd, .long w9_82, .ref q11, .int mk, .long w13, .long w14])), (q3, .inl (cI, 800, .inl m3)), (q5, .inl (cI, 800, .inl m5)), (q6, .inl (cI, 2, .inl (jl [nI n, nI n2]))), (q11, .inl (cI, 24, .inl (jl [(nI b0), nI to9_81, l2, nI b1, l4, nI to9_81, l6, nI b1, 2, 1, l10 + 1, l11, t12, t13, t14, t15, t16, t17, t18, t19, t20, t21, t22, t23])))], rfl, (by exact (Or.inr (Or.inr (Or.inl ⟨_, _, _, _, _, _, _, _, _, _, _, rfl, rfl, by omega, by omega, by omega, by omega⟩)))), by rw [ht]; exact hP, hD⟩, hS.F ht⟩) hS.2.2 dX6_next_284
            · refine lv_if_eq (tgt := 285) hx hb dX6_next_261 (by decide) (fun c_91 => ?_) (fun c_91 => absurd c_91 (by decide))
              refine lv_goto (tgt := 60) hx hb dX6_next_285 (by decide) ?_
              exact ih_1 b0 to9_81 l2 (nI b1) l4 (nI to9_81) l6 (nI b1) 2 l10 l11 w9_82 (by omega) (by omega) (by omega) _ _ hP hD hS ls (lv_sub hl [2] rfl)
    exact hloop_1 ((n - e0) + (n2 - e1) + 1) e0 e1 t2 t3 (nI d0) t5 (nI (r0 + 1)) t7 1 t10 t11 w10 (Nat.lt_succ_self _) (by first | assumption | omega) (by first | assumption | omega) _ _ hP hD hS ls (lv_sub hl [0] rfl)
set_option maxHeartbeats 1000000 in
set_option maxRecDepth 100000 in
theorem gM_next_12 (l : Launch) (D : va_G) (cI cL cQ : ClassId) (mo : Nat) (g : Nat) (n : Nat) (n2 : Nat) (q1 : Nat) (q3 : Nat) (q4 : Nat) (q5 : Nat) (q6 : Nat) (q11 : Nat) (z0 : Int32) (gr : Int32) (kd : Int32) (mk : Int32) (w10 : Int64) (w13 : Int64) (w14 : Int64) (m3 : Nat → Int32) (m5 : Nat → Int32) (t2 : Int32) (t3 : Int32) (t4 : Int32) (t6 : Int32) (t10 : Int32) (t11 : Int32) (t12 : Int32) (t13 : Int32) (t14 : Int32) (t15 : Int32) (t16 : Int32) (t17 : Int32) (t18 : Int32) (t19 : Int32) (t20 : Int32) (t21 : Int32) (t22 : Int32) (t23 : Int32) (e0 : Nat) (e1 : Nat) (d1 : Nat) (r1 : Nat) (sz : Nat) (hn : n ≤ 400) (hn2 : n2 ≤ 400) (h5 : jo5 m5) (hk4 : jk4 kd) (he0 : e0 ≤ 400) (he1 : e1 ≤ 400) (hr1 : r1 < d1) (hd1 : d1 ≤ 400) : Met l yX6_next wsX6_next ({ frames := 2, cells := 0, slots := 0, locals := 45 }) (jw_P D vwCl (jT cI cL cQ) cL cQ [.ref mo] [(mo, .inr (6, [.int z0, .ref q1, .int (nI g), .ref q3, .ref q4, .ref q5, .ref q6, .int 1, .int gr, .int kd, .long w10, .ref q11, .int mk, .long w13, .long w14])), (q3, .inl (cI, 800, .inl m3)), (q5, .inl (cI, 800, .inl m5)), (q6, .inl (cI, 2, .inl (jl [nI n, nI n2]))), (q11, .inl (cI, 24, .inl (jl [nI e0, nI e1, t2, t3, t4, nI d1, t6, nI r1, 2, 1, t10, t11, t12, t13, t14, t15, t16, t17, t18, t19, t20, t21, t22, t23])))] sz) (va_Qi (fun (r : Int32) (u : va_W) => (∃ (d0x : Nat) (d1x : Nat) (e0x : Nat) (e1x : Nat) (f1x : Nat) (r0x : Nat) (r1x : Nat) (j10 : Int32) (j11 : Int32) (j2 : Int32) (wx : Int64), r = 1 ∧ u = [(mo, .inr (6, [.int 0, .ref q1, .int (nI g), .ref q3, .ref q4, .ref q5, .ref q6, .int 1, .int gr, .int kd, .long wx, .ref q11, .int mk, .long w13, .long w14])), (q3, .inl (cI, 800, .inl m3)), (q5, .inl (cI, 800, .inl m5)), (q6, .inl (cI, 2, .inl (jl [nI n, nI n2]))), (q11, .inl (cI, 24, .inl (jl [nI e0x, nI e1x, j2, nI f1x, nI d0x, nI d1x, nI r0x, nI r1x, 0, 1, j10, j11, t12, t13, t14, t15, t16, t17, t18, t19, t20, t21, t22, t23])))] ∧ (e0x ≤ 400) ∧ (e1x ≤ 400) ∧ (f1x < d1x) ∧ (r0x < d0x) ∧ (r1x < d1x) ∧ (d0x ≤ 400) ∧ (d1x ≤ 400)) ∨ (∃ (d0x : Nat) (e0x : Nat) (e1x : Nat) (r0x : Nat) (j10 : Int32) (j11 : Int32) (j2 : Int32) (j3 : Int32) (j5 : Int32) (j7 : Int32) (wx : Int64), r = 1 ∧ u = [(mo, .inr (6, [.int 0, .ref q1, .int (nI g), .ref q3, .ref q4, .ref q5, .ref q6, .int 1, .int gr, .int kd, .long wx, .ref q11, .int mk, .long w13, .long w14])), (q3, .inl (cI, 800, .inl m3)), (q5, .inl (cI, 800, .inl m5)), (q6, .inl (cI, 2, .inl (jl [nI n, nI n2]))), (q11, .inl (cI, 24, .inl (jl [nI e0x, nI e1x, j2, j3, nI d0x, j5, nI r0x, j7, 1, 1, j10, j11, t12, t13, t14, t15, t16, t17, t18, t19, t20, t21, t22, t23])))] ∧ (e0x ≤ 400) ∧ (e1x ≤ 400) ∧ (r0x < d0x) ∧ (d0x ≤ 400)) ∨ (∃ (d1x : Nat) (e0x : Nat) (e1x : Nat) (r1x : Nat) (j10 : Int32) (j11 : Int32) (j2 : Int32) (j3 : Int32) (j4 : Int32) (j6 : Int32) (wx : Int64), r = 1 ∧ u = [(mo, .inr (6, [.int 0, .ref q1, .int (nI g), .ref q3, .ref q4, .ref q5, .ref q6, .int 1, .int gr, .int kd, .long wx, .ref q11, .int mk, .long w13, .long w14])), (q3, .inl (cI, 800, .inl m3)), (q5, .inl (cI, 800, .inl m5)), (q6, .inl (cI, 2, .inl (jl [nI n, nI n2]))), (q11, .inl (cI, 24, .inl (jl [nI e0x, nI e1x, j2, j3, j4, nI d1x, j6, nI r1x, 2, 1, j10, j11, t12, t13, t14, t15, t16, t17, t18, t19, t20, t21, t22, t23])))] ∧ (e0x ≤ 400) ∧ (e1x ≤ 400) ∧ (r1x < d1x) ∧ (d1x ≤ 400)) ∨ (∃ (e0x : Nat) (e1x : Nat) (j10 : Int32) (j11 : Int32) (j2 : Int32) (j3 : Int32) (j4 : Int32) (j5 : Int32) (j6 : Int32) (j7 : Int32) (j8 : Int32) (wx : Int64), r = 0 ∧ u = [(mo, .inr (6, [.int 0, .ref q1, .int (nI g), .ref q3, .ref q4, .ref q5, .ref q6, .int 1, .int gr, .int kd, .long wx, .ref q11, .int mk, .long w13, .long w14])), (q3, .inl (cI, 800, .inl m3)), (q5, .inl (cI, 800, .inl m5)), (q6, .inl (cI, 2, .inl (jl [nI n, nI n2]))), (q11, .inl (cI, 24, .inl (jl [nI e0x, nI e1x, j2, j3, j4, j5, j6, j7, j8, 0, j10, j11, t12, t13, t14, t15, t16, t17, t18, t19, t20, t21, t22, t23])))] ∧ (e0x ≤ 400) ∧ (e1x ≤ 400))) (jw_B D vwCl (va_A [(mo, .inr (6, [.int z0, .ref q1, .int (nI g), .ref q3, .ref q4, .ref q5, .ref q6, .int 1, .int gr, .int kd, .long w10, .ref q11, .int mk, .long w13, .long w14])), (q3, .inl (cI, 800, .inl m3)), (q5, .inl (cI, 800, .inl m5)), (q6, .inl (cI, 2, .inl (jl [nI n, nI n2]))), (q11, .inl (cI, 24, .inl (jl [nI e0, nI e1, t2, t3, t4, nI d1, t6, nI r1, 2, 1, t10, t11, t12, t13, t14, t15, t16, t17, t18, t19, t20, t21, t22, t23])))] sz) (fun u : va_W => u)) (va_A [(mo, .inr (6, [.int z0, .ref q1, .int (nI g), .ref q3, .ref q4, .ref q5, .ref q6, .int 1, .int gr, .int kd, .long w10, .ref q11, .int mk, .long w13, .long w14])), (q3, .inl (cI, 800, .inl m3)), (q5, .inl (cI, 800, .inl m5)), (q6, .inl (cI, 2, .inl (jl [nI n, nI n2]))), (q11, .inl (cI, 24, .inl (jl [nI e0, nI e1, t2, t3, t4, nI d1, t6, nI r1, 2, 1, t10, t11, t12, t13, t14, t15, t16, t17, t18, t19, t20, t21, t22, t23])))] sz)) 0 0 (va_A [(mo, .inr (6, [.int z0, .ref q1, .int (nI g), .ref q3, .ref q4, .ref q5, .ref q6, .int 1, .int gr, .int kd, .long w10, .ref q11, .int mk, .long w13, .long w14])), (q3, .inl (cI, 800, .inl m3)), (q5, .inl (cI, 800, .inl m5)), (q6, .inl (cI, 2, .inl (jl [nI n, nI n2]))), (q11, .inl (cI, 24, .inl (jl [nI e0, nI e1, t2, t3, t4, nI d1, t6, nI r1, 2, 1, t10, t11, t12, t13, t14, t15, t16, t17, t18, t19, t20, t21, t22, t23])))] sz) := by
  refine Met.ofW (cc := cX6_next) (maxL := 5) (ret := (some .boolean)) (by decide) rfl ?_
  intro p e s m args below meth c s₁ B hml hv
  obtain ⟨rfl, hsz, hP, hK, hN, hD0⟩ := hv
  have hx := B.exec
  have hb := B.bytes
  have hr := B.returns
  have hts := atoms_spec (ws := wsX6_next) B.pre
  have hown : s.vm.findClass RX6 = some m.cls := findClass_of_methodNamed B.named
  have hlocks := B.notSynchronized
  subst hsz
  have hD := hD0.self (sz := s.heap.size)
  generalize hAe : va_A [(mo, .inr (6, [.int z0, .ref q1, .int (nI g), .ref q3, .ref q4, .ref q5, .ref q6, .int 1, .int gr, .int kd, .long w10, .ref q11, .int mk, .long w13, .long w14])), (q3, .inl (cI, 800, .inl m3)), (q5, .inl (cI, 800, .inl m5)), (q6, .inl (cI, 2, .inl (jl [nI n, nI n2]))), (q11, .inl (cI, 24, .inl (jl [nI e0, nI e1, t2, t3, t4, nI d1, t6, nI r1, 2, 1, t10, t11, t12, t13, t14, t15, t16, t17, t18, t19, t20, t21, t22, t23])))] s.heap.size = A at hD ⊢
  have hA : ∀ q : Nat, s.heap.size ≤ q → A q := fun q h => by rw [← hAe]; exact Or.inr h
  have hS : va_S A s.heap s.heap [] := va_S.rf
  have hl := lv_entry ([.ref mo]) (n := 5) (Nat.le_of_ble_eq_true rfl)
  rw [lg_entry_eq]
  generalize (lg_sl ([.ref mo]) ++ List.replicate (5 - (lg_sl ([.ref mo])).length) Slot.unset).toArray = ls at hl ⊢
  have hl : lv_has ls 5 [(0, .ref mo)] := hl
  refine lv_aload_n hx hb dX6_next_0 rfl (lv_at hl 0 rfl) ?_
  refine lv_aload_n hx hb dX6_next_1 rfl (lv_at hl 0 rfl) ?_
  refine va_get (D := D) (ci := 6) (v := .int 1) (C := RX6) (T := TX6) (N := 15) hx hb hts (by decide +kernel) hown hK hP 0 rfl rfl 7 (by decide) (hts (.fieldLink RX6 43 "JoinDeskModel" "prepared" "Z") (by decide +kernel)) (fun _ h9 => h9) rfl dX6_next_2 ?_
  refine lv_if_eq (tgt := 12) hx hb dX6_next_5 (by decide) (fun c_1 => absurd c_1 (by decide)) (fun c_1 => ?_)
  refine lv_iconst (v := 0) hx hb dX6_next_8 (by decide) ?_
  refine lv_goto (tgt := 13) hx hb dX6_next_9 (by decide) ?_
  refine jw_i (wr := [(q3, .inl (cI, 800, .inl m3)), (q5, .inl (cI, 800, .inl m5)), (q6, .inl (cI, 2, .inl (jl [nI n, nI n2]))), (q11, .inl (cI, 24, .inl (jl [nI e0, nI e1, t2, t3, t4, nI d1, t6, nI r1, 2, 1, t10, t11, t12, t13, t14, t15, t16, t17, t18, t19, t20, t21, t22, t23])))]) (va_runV (As := [.int 0]) (rest := []) ⟨hx, hb, hml, hown, hts⟩ (gM_refuses_0 l D cI cL cQ mo g q1 q3 q4 q5 q6 q11 z0 1 gr kd mk w10 w13 w14 _) (cwV 1 hts gX6_next_X6_refuses rfl rfl rfl (by decide +kernel) ⟨Nat.le_of_ble_eq_true rfl, Nat.le_of_ble_eq_true rfl⟩) (jw_V hK hN hP hD [0] (by decide) rfl 6 0 rfl rfl rfl) rfl rfl hl.1 rfl (lv_room (Nat.le_of_ble_eq_true rfl)) dX6_next_13 ⟨Nat.le_of_ble_eq_true rfl, Nat.le_of_ble_eq_true rfl⟩) hP hD hS hA [0] [1, 2, 3, 4] rfl rfl (by decide) (by decide) (fun r u H locs f_2 hP hD hS => ?_)
  obtain ⟨rfl, rfl⟩ := f_2
  have hP : va_P D vwCl [(q3, .inl (cI, 800, .inl m3)), (q5, .inl (cI, 800, .inl m5)), (q6, .inl (cI, 2, .inl (jl [nI n, nI n2]))), (q11, .inl (cI, 24, .inl (jl [nI e0, nI e1, t2, t3, t4, nI d1, t6, nI r1, 2, 1, t10, t11, t12, t13, t14, t15, t16, t17, t18, t19, t20, t21, t22, t23]))), (mo, .inr (6, [.int 0, .ref q1, .int (nI g), .ref q3, .ref q4, .ref q5, .ref q6, .int 1, .int gr, .int kd, .long w10, .ref q11, .int mk, .long w13, .long w14]))] H := hP
  have hD : va_D A [(q3, .inl (cI, 800, .inl m3)), (q5, .inl (cI, 800, .inl m5)), (q6, .inl (cI, 2, .inl (jl [nI n, nI n2]))), (q11, .inl (cI, 24, .inl (jl [nI e0, nI e1, t2, t3, t4, nI d1, t6, nI r1, 2, 1, t10, t11, t12, t13, t14, t15, t16, t17, t18, t19, t20, t21, t22, t23]))), (mo, .inr (6, [.int 0, .ref q1, .int (nI g), .ref q3, .ref q4, .ref q5, .ref q6, .int 1, .int gr, .int kd, .long w10, .ref q11, .int mk, .long w13, .long w14]))] := hD
  refine lv_if_eq (tgt := 21) hx hb dX6_next_16 (by decide) (fun c_3 => ?_) (fun c_3 => absurd c_3 (by decide))
  refine lv_aload_n hx hb dX6_next_21 rfl (lv_at hl 0 rfl) ?_
  refine va_get (D := D) (ci := 6) (v := .ref q11) (C := RX6) (T := TX6) (N := 15) hx hb hts (by decide +kernel) hown hK hP 4 rfl rfl 11 (by decide) (hts (.fieldLink RX6 25 "JoinDeskModel" "at" "[I") (by decide +kernel)) (fun _ h9 => h9) rfl dX6_next_22 ?_
  refine lv_bipush (v := 9) hx hb dX6_next_25 (by decide) ?_
  refine va_iald hx hb hK hP 3 0 rfl rfl (by unfold vp_in; decide) dX6_next_27 ?_
  refine W.eq (g2 := F0 m 28 ls [.int 1]) rfl ?_
  refine lv_iconst (v := 1) hx hb dX6_next_28 (by decide) ?_
  refine lv_icmp_ne (tgt := 52) hx hb dX6_next_29 (by decide) (fun c_4 => absurd c_4 (by decide)) (fun c_4 => ?_)
  refine lv_aload_n hx hb dX6_next_32 rfl (lv_at hl 0 rfl) ?_
  refine jw_i (wr := [(q3, .inl (cI, 800, .inl m3)), (q5, .inl (cI, 800, .inl m5)), (q6, .inl (cI, 2, .inl (jl [nI n, nI n2])))]) (va_runV (As := []) (rest := []) ⟨hx, hb, hml, hown, hts⟩ (gM_steps_2 l D cI cL cQ mo g q1 q3 q4 q5 q6 q11 0 1 gr kd mk w10 w13 w14 t2 t3 t4 t6 t10 t11 t12 t13 t14 t15 t16 t17 t18 t19 t20 t21 t22 t23 e0 e1 d1 r1 _ (by first | assumption | decide | omega) (by first | assumption | decide | omega)) (cwV 0 hts gX6_next_X6_steps rfl rfl rfl (by decide +kernel) ⟨Nat.le_of_ble_eq_true rfl, Nat.le_of_ble_eq_true rfl⟩) (jw_V hK hN hP hD [4, 3] (by decide) rfl 6 4 rfl rfl rfl) rfl rfl hl.1 rfl (lv_room (Nat.le_of_ble_eq_true rfl)) dX6_next_33 ⟨Nat.le_of_ble_eq_true rfl, Nat.le_of_ble_eq_true rfl⟩) hP hD hS hA [4, 3] [0, 1, 2] rfl rfl (by decide) (by decide) (fun r u H locs f_5 hP hD hS => ?_)
  rcases f_5 with ⟨rfl, rfl, f_6⟩ | ⟨rfl, rfl⟩
  · have hP : va_P D vwCl [(q3, .inl (cI, 800, .inl m3)), (q5, .inl (cI, 800, .inl m5)), (q6, .inl (cI, 2, .inl (jl [nI n, nI n2]))), (mo, .inr (6, [.int 0, .ref q1, .int (nI g), .ref q3, .ref q4, .ref q5, .ref q6, .int 1, .int gr, .int kd, .long w10, .ref q11, .int mk, .long w13, .long w14])), (q11, .inl (cI, 24, .inl (jl [nI e0, nI e1, t2, t3, t4, nI d1, t6, nI (r1 + 1), 2, 1, t10, t11, t12, t13, t14, t15, t16, t17, t18, t19, t20, t21, t22, t23])))] H := hP
    have hD : va_D A [(q3, .inl (cI, 800, .inl m3)), (q5, .inl (cI, 800, .inl m5)), (q6, .inl (cI, 2, .inl (jl [nI n, nI n2]))), (mo, .inr (6, [.int 0, .ref q1, .int (nI g), .ref q3, .ref q4, .ref q5, .ref q6, .int 1, .int gr, .int kd, .long w10, .ref q11, .int mk, .long w13, .long w14])), (q11, .inl (cI, 24, .inl (jl [nI e0, nI e1, t2, t3, t4, nI d1, t6, nI (r1 + 1), 2, 1, t10, t11, t12, t13, t14, t15, t16, t17, t18, t19, t20, t21, t22, t23])))] := hD
    refine lv_if_eq (tgt := 52) hx hb dX6_next_36 (by decide) (fun c_7 => absurd c_7 (by decide)) (fun c_7 => ?_)
    refine lv_aload_n hx hb dX6_next_39 rfl (lv_at hl 0 rfl) ?_
    refine va_get (D := D) (ci := 6) (v := .ref q11) (C := RX6) (T := TX6) (N := 15) hx hb hts (by decide +kernel) hown hK hP 3 rfl rfl 11 (by decide) (hts (.fieldLink RX6 25 "JoinDeskModel" "at" "[I") (by decide +kernel)) (fun _ h9 => h9) rfl dX6_next_40 ?_
    refine lv_bipush (v := 10) hx hb dX6_next_43 (by decide) ?_
    refine lv_dup2_11 hx hb dX6_next_45 rfl rfl ?_
    refine va_iald hx hb hK hP 4 0 rfl rfl (by unfold vp_in; decide) dX6_next_46 ?_
    refine W.eq (g2 := F0 m 47 ls [.int t10, .int 10, .ref q11]) rfl ?_
    refine lv_iconst (v := 1) hx hb dX6_next_47 (by decide) ?_
    refine lv_iadd hx hb dX6_next_48 ?_
    refine va_iast hx hb hK hP hD hS 4 0 rfl rfl (by unfold vp_in; decide) dX6_next_49 (fun H locs hP hD hS => ?_)
    rw [jl_upd (show (10 : Int32).toNatClampNeg = 10 by decide) (Nat.le_of_ble_eq_true rfl)] at hP hD
    have hP : va_P D vwCl [(q3, .inl (cI, 800, .inl m3)), (q5, .inl (cI, 800, .inl m5)), (q6, .inl (cI, 2, .inl (jl [nI n, nI n2]))), (mo, .inr (6, [.int 0, .ref q1, .int (nI g), .ref q3, .ref q4, .ref q5, .ref q6, .int 1, .int gr, .int kd, .long w10, .ref q11, .int mk, .long w13, .long w14])), (q11, .inl (cI, 24, .inl (jl [nI e0, nI e1, t2, t3, t4, nI d1, t6, nI (r1 + 1), 2, 1, t10 + 1, t11, t12, t13, t14, t15, t16, t17, t18, t19, t20, t21, t22, t23])))] H := hP
    have hD : va_D A [(q3, .inl (cI, 800, .inl m3)), (q5, .inl (cI, 800, .inl m5)), (q6, .inl (cI, 2, .inl (jl [nI n, nI n2]))), (mo, .inr (6, [.int 0, .ref q1, .int (nI g), .ref q3, .ref q4, .ref q5, .ref q6, .int 1, .int gr, .int kd, .long w10, .ref q11, .int mk, .long w13, .long w14])), (q11, .inl (cI, 24, .inl (jl [nI e0, nI e1, t2, t3, t4, nI d1, t6, nI (r1 + 1), 2, 1, t10 + 1, t11, t12, t13, t14, t15, t16, t17, t18, t19, t20, t21, t22, t23])))] := hD
    refine lv_iconst (v := 1) hx hb dX6_next_50 (by decide) ?_
    have hP := hP.sub (ws' := [(mo, .inr (6, [.int 0, .ref q1, .int (nI g), .ref q3, .ref q4, .ref q5, .ref q6, .int 1, .int gr, .int kd, .long w10, .ref q11, .int mk, .long w13, .long w14])), (q3, .inl (cI, 800, .inl m3)), (q5, .inl (cI, 800, .inl m5)), (q6, .inl (cI, 2, .inl (jl [nI n, nI n2]))), (q11, .inl (cI, 24, .inl (jl [nI e0, nI e1, t2, t3, t4, nI d1, t6, nI (r1 + 1), 2, 1, t10 + 1, t11, t12, t13, t14, t15, t16, t17, t18, t19, t20, t21, t22, t23])))]) [3, 0, 1, 2, 4] rfl
    have hD := hD.sub (ws' := [(mo, .inr (6, [.int 0, .ref q1, .int (nI g), .ref q3, .ref q4, .ref q5, .ref q6, .int 1, .int gr, .int kd, .long w10, .ref q11, .int mk, .long w13, .long w14])), (q3, .inl (cI, 800, .inl m3)), (q5, .inl (cI, 800, .inl m5)), (q6, .inl (cI, 2, .inl (jl [nI n, nI n2]))), (q11, .inl (cI, 24, .inl (jl [nI e0, nI e1, t2, t3, t4, nI d1, t6, nI (r1 + 1), 2, 1, t10 + 1, t11, t12, t13, t14, t15, t16, t17, t18, t19, t20, t21, t22, t23])))]) [3, 0, 1, 2, 4] (by decide) rfl
    refine W.widen (k := 0) (n := 0) (by omega) (by omega) ?_
    exact W.zret (v := 1) (ty := .boolean) hx hb hr rfl (fun t ht hW => ⟨⟨1, [(mo, .inr (6, [.int 0, .ref q1, .int (nI g), .ref q3, .ref q4, .ref q5, .ref q6, .int 1, .int gr, .int kd, .long w10, .ref q11, .int mk, .long w13, .long w14])), (q3, .inl (cI, 800, .inl m3)), (q5, .inl (cI, 800, .inl m5)), (q6, .inl (cI, 2, .inl (jl [nI n, nI n2]))), (q11, .inl (cI, 24, .inl (jl [nI e0, nI e1, t2, t3, t4, nI d1, t6, nI (r1 + 1), 2, 1, t10 + 1, t11, t12, t13, t14, t15, t16, t17, t18, t19, t20, t21, t22, t23])))], rfl, (by exact (Or.inr (Or.inr (Or.inl ⟨_, _, _, _, _, _, _, _, _, _, _, rfl, rfl, by omega, by omega, by omega, by omega⟩)))), by rw [ht]; exact hP, hD⟩, hS.F ht⟩) hS.2.2 dX6_next_51
  · have hP : va_P D vwCl [(q3, .inl (cI, 800, .inl m3)), (q5, .inl (cI, 800, .inl m5)), (q6, .inl (cI, 2, .inl (jl [nI n, nI n2]))), (mo, .inr (6, [.int 0, .ref q1, .int (nI g), .ref q3, .ref q4, .ref q5, .ref q6, .int 1, .int gr, .int kd, .long w10, .ref q11, .int mk, .long w13, .long w14])), (q11, .inl (cI, 24, .inl (jl [nI e0, nI e1, t2, t3, t4, nI d1, t6, nI (r1 + 1), 2, 1, t10, t11, t12, t13, t14, t15, t16, t17, t18, t19, t20, t21, t22, t23])))] H := hP
    have hD : va_D A [(q3, .inl (cI, 800, .inl m3)), (q5, .inl (cI, 800, .inl m5)), (q6, .inl (cI, 2, .inl (jl [nI n, nI n2]))), (mo, .inr (6, [.int 0, .ref q1, .int (nI g), .ref q3, .ref q4, .ref q5, .ref q6, .int 1, .int gr, .int kd, .long w10, .ref q11, .int mk, .long w13, .long w14])), (q11, .inl (cI, 24, .inl (jl [nI e0, nI e1, t2, t3, t4, nI d1, t6, nI (r1 + 1), 2, 1, t10, t11, t12, t13, t14, t15, t16, t17, t18, t19, t20, t21, t22, t23])))] := hD
    refine lv_if_eq (tgt := 52) hx hb dX6_next_36 (by decide) (fun c_8 => ?_) (fun c_8 => absurd c_8 (by decide))
    refine lv_aload_n hx hb dX6_next_52 rfl (lv_at hl 0 rfl) ?_
    refine va_get (D := D) (ci := 6) (v := .ref q11) (C := RX6) (T := TX6) (N := 15) hx hb hts (by decide +kernel) hown hK hP 3 rfl rfl 11 (by decide) (hts (.fieldLink RX6 25 "JoinDeskModel" "at" "[I") (by decide +kernel)) (fun _ h9 => h9) rfl dX6_next_53 ?_
    refine lv_bipush (v := 9) hx hb dX6_next_56 (by decide) ?_
    refine lv_iconst (v := 0) hx hb dX6_next_58 (by decide) ?_
    refine va_iast hx hb hK hP hD hS 4 0 rfl rfl (by unfold vp_in; decide) dX6_next_59 (fun H locs hP hD hS => ?_)
    rw [jl_upd (show (9 : Int32).toNatClampNeg = 9 by decide) (Nat.le_of_ble_eq_true rfl)] at hP hD
    have hP : va_P D vwCl [(q3, .inl (cI, 800, .inl m3)), (q5, .inl (cI, 800, .inl m5)), (q6, .inl (cI, 2, .inl (jl [nI n, nI n2]))), (mo, .inr (6, [.int 0, .ref q1, .int (nI g), .ref q3, .ref q4, .ref q5, .ref q6, .int 1, .int gr, .int kd, .long w10, .ref q11, .int mk, .long w13, .long w14])), (q11, .inl (cI, 24, .inl (jl [nI e0, nI e1, t2, t3, t4, nI d1, t6, nI (r1 + 1), 2, 0, t10, t11, t12, t13, t14, t15, t16, t17, t18, t19, t20, t21, t22, t23])))] H := hP
    have hD : va_D A [(q3, .inl (cI, 800, .inl m3)), (q5, .inl (cI, 800, .inl m5)), (q6, .inl (cI, 2, .inl (jl [nI n, nI n2]))), (mo, .inr (6, [.int 0, .ref q1, .int (nI g), .ref q3, .ref q4, .ref q5, .ref q6, .int 1, .int gr, .int kd, .long w10, .ref q11, .int mk, .long w13, .long w14])), (q11, .inl (cI, 24, .inl (jl [nI e0, nI e1, t2, t3, t4, nI d1, t6, nI (r1 + 1), 2, 0, t10, t11, t12, t13, t14, t15, t16, t17, t18, t19, t20, t21, t22, t23])))] := hD
    have hP := hP.sub (ws' := [(mo, .inr (6, [.int 0, .ref q1, .int (nI g), .ref q3, .ref q4, .ref q5, .ref q6, .int 1, .int gr, .int kd, .long w10, .ref q11, .int mk, .long w13, .long w14])), (q3, .inl (cI, 800, .inl m3)), (q5, .inl (cI, 800, .inl m5)), (q6, .inl (cI, 2, .inl (jl [nI n, nI n2]))), (q11, .inl (cI, 24, .inl (jl [nI e0, nI e1, t2, t3, t4, nI d1, t6, nI (r1 + 1), 2, 0, t10, t11, t12, t13, t14, t15, t16, t17, t18, t19, t20, t21, t22, t23])))]) [3, 0, 1, 2, 4] rfl
    have hD := hD.sub (ws' := [(mo, .inr (6, [.int 0, .ref q1, .int (nI g), .ref q3, .ref q4, .ref q5, .ref q6, .int 1, .int gr, .int kd, .long w10, .ref q11, .int mk, .long w13, .long w14])), (q3, .inl (cI, 800, .inl m3)), (q5, .inl (cI, 800, .inl m5)), (q6, .inl (cI, 2, .inl (jl [nI n, nI n2]))), (q11, .inl (cI, 24, .inl (jl [nI e0, nI e1, t2, t3, t4, nI d1, t6, nI (r1 + 1), 2, 0, t10, t11, t12, t13, t14, t15, t16, t17, t18, t19, t20, t21, t22, t23])))]) [3, 0, 1, 2, 4] (by decide) rfl
    have hloop_1 : ∀ (k_1 : Nat) (b0 : Nat) (b1 : Nat) (l2 : Int32) (l3 : Int32) (l4 : Int32) (l5 : Int32) (l6 : Int32) (l7 : Int32) (l8 : Int32) (l10 : Int32) (l11 : Int32) (wl : Int64), (n - b0) + (n2 - b1) < k_1 → (b0 ≤ 400) → (b1 ≤ 400) → ∀ (H : Heap) (locs : List Loc), va_P D vwCl [(mo, .inr (6, [.int 0, .ref q1, .int (nI g), .ref q3, .ref q4, .ref q5, .ref q6, .int 1, .int gr, .int kd, .long wl, .ref q11, .int mk, .long w13, .long w14])), (q3, .inl (cI, 800, .inl m3)), (q5, .inl (cI, 800, .inl m5)), (q6, .inl (cI, 2, .inl (jl [nI n, nI n2]))), (q11, .inl (cI, 24, .inl (jl [nI b0, nI b1, l2, l3, l4, l5, l6, l7, l8, 0, l10, l11, t12, t13, t14, t15, t16, t17, t18, t19, t20, t21, t22, t23])))] H → va_D A [(mo, .inr (6, [.int 0, .ref q1, .int (nI g), .ref q3, .ref q4, .ref q5, .ref q6, .int 1, .int gr, .int kd, .long wl, .ref q11, .int mk, .long w13, .long w14])), (q3, .inl (cI, 800, .inl m3)), (q5, .inl (cI, 800, .inl m5)), (q6, .inl (cI, 2, .inl (jl [nI n, nI n2]))), (q11, .inl (cI, 24, .inl (jl [nI b0, nI b1, l2, l3, l4, l5, l6, l7, l8, 0, l10, l11, t12, t13, t14, t15, t16, t17, t18, t19, t20, t21, t22, t23])))] → va_S A s.heap H locs → ∀ ls : Array Slot, lv_has ls 5 [(0, .ref mo)] → W p l e (headSpec wsX6_next ({ frames := 2, cells := 0, slots := 0, locals := 45 })).room s m #[.ref mo] below meth c H locs 0 0 (MQ below (va_Qi (fun (r : Int32) (u : va_W) => (∃ (d0x : Nat) (d1x : Nat) (e0x : Nat) (e1x : Nat) (f1x : Nat) (r0x : Nat) (r1x : Nat) (j10 : Int32) (j11 : Int32) (j2 : Int32) (wx : Int64), r = 1 ∧ u = [(mo, .inr (6, [.int 0, .ref q1, .int (nI g), .ref q3, .ref q4, .ref q5, .ref q6, .int 1, .int gr, .int kd, .long wx, .ref q11, .int mk, .long w13, .long w14])), (q3, .inl (cI, 800, .inl m3)), (q5, .inl (cI, 800, .inl m5)), (q6, .inl (cI, 2, .inl (jl [nI n, nI n2]))), (q11, .inl (cI, 24, .inl (jl [nI e0x, nI e1x, j2, nI f1x, nI d0x, nI d1x, nI r0x, nI r1x, 0, 1, j10, j11, t12, t13, t14, t15, t16, t17, t18, t19, t20, t21, t22, t23])))] ∧ (e0x ≤ 400) ∧ (e1x ≤ 400) ∧ (f1x < d1x) ∧ (r0x < d0x) ∧ (r1x < d1x) ∧ (d0x ≤ 400) ∧ (d1x ≤ 400)) ∨ (∃ (d0x : Nat) (e0x : Nat) (e1x : Nat) (r0x : Nat) (j10 : Int32) (j11 : Int32) (j2 : Int32) (j3 : Int32) (j5 : Int32) (j7 : Int32) (wx : Int64), r = 1 ∧ u = [(mo, .inr (6, [.int 0, .ref q1, .int (nI g), .ref q3, .ref q4, .ref q5, .ref q6, .int 1, .int gr, .int kd, .long wx, .ref q11, .int mk, .long w13, .long w14])), (q3, .inl (cI, 800, .inl m3)), (q5, .inl (cI, 800, .inl m5)), (q6, .inl (cI, 2, .inl (jl [nI n, nI n2]))), (q11, .inl (cI, 24, .inl (jl [nI e0x, nI e1x, j2, j3, nI d0x, j5, nI r0x, j7, 1, 1, j10, j11, t12, t13, t14, t15, t16, t17, t18, t19, t20, t21, t22, t23])))] ∧ (e0x ≤ 400) ∧ (e1x ≤ 400) ∧ (r0x < d0x) ∧ (d0x ≤ 400)) ∨ (∃ (d1x : Nat) (e0x : Nat) (e1x : Nat) (r1x : Nat) (j10 : Int32) (j11 : Int32) (j2 : Int32) (j3 : Int32) (j4 : Int32) (j6 : Int32) (wx : Int64), r = 1 ∧ u = [(mo, .inr (6, [.int 0, .ref q1, .int (nI g), .ref q3, .ref q4, .ref q5, .ref q6, .int 1, .int gr, .int kd, .long wx, .ref q11, .int mk, .long w13, .long w14])), (q3, .inl (cI, 800, .inl m3)), (q5, .inl (cI, 800, .inl m5)), (q6, .inl (cI, 2, .inl (jl [nI n, nI n2]))), (q11, .inl (cI, 24, .inl (jl [nI e0x, nI e1x, j2, j3, j4, nI d1x, j6, nI r1x, 2, 1, j10, j11, t12, t13, t14, t15, t16, t17, t18, t19, t20, t21, t22, t23])))] ∧ (e0x ≤ 400) ∧ (e1x ≤ 400) ∧ (r1x < d1x) ∧ (d1x ≤ 400)) ∨ (∃ (e0x : Nat) (e1x : Nat) (j10 : Int32) (j11 : Int32) (j2 : Int32) (j3 : Int32) (j4 : Int32) (j5 : Int32) (j6 : Int32) (j7 : Int32) (j8 : Int32) (wx : Int64), r = 0 ∧ u = [(mo, .inr (6, [.int 0, .ref q1, .int (nI g), .ref q3, .ref q4, .ref q5, .ref q6, .int 1, .int gr, .int kd, .long wx, .ref q11, .int mk, .long w13, .long w14])), (q3, .inl (cI, 800, .inl m3)), (q5, .inl (cI, 800, .inl m5)), (q6, .inl (cI, 2, .inl (jl [nI n, nI n2]))), (q11, .inl (cI, 24, .inl (jl [nI e0x, nI e1x, j2, j3, j4, j5, j6, j7, j8, 0, j10, j11, t12, t13, t14, t15, t16, t17, t18, t19, t20, t21, t22, t23])))] ∧ (e0x ≤ 400) ∧ (e1x ≤ 400))) (jw_B D vwCl A (fun u : va_W => u)) A) #[.ref mo] s 0 0 A) (F0 m 60 ls []) := by
      intro k_1
      induction k_1 with
      | zero => exact fun _ _ _ _ _ _ _ _ _ _ _ _ hm => absurd hm (Nat.not_lt_zero _)
      | succ k_1 ih_1 =>
        intro b0 b1 l2 l3 l4 l5 l6 l7 l8 l10 l11 wl hm1 hb0 hb1 H locs hP hD hS ls hl
        refine lv_aload_n hx hb dX6_next_60 rfl (lv_at hl 0 rfl) ?_
        refine va_get (D := D) (ci := 6) (v := .ref q11) (C := RX6) (T := TX6) (N := 15) hx hb hts (by decide +kernel) hown hK hP 0 rfl rfl 11 (by decide) (hts (.fieldLink RX6 25 "JoinDeskModel" "at" "[I") (by decide +kernel)) (fun _ h9 => h9) rfl dX6_next_61 ?_
        refine lv_iconst (v := 0) hx hb dX6_next_64 (by decide) ?_
        refine va_iald hx hb hK hP 4 0 rfl rfl (by unfold vp_in; decide) dX6_next_65 ?_
        refine W.eq (g2 := F0 m 66 ls [.int (nI b0)]) rfl ?_
        refine lv_aload_n hx hb dX6_next_66 rfl (lv_at hl 0 rfl) ?_
        refine va_get (D := D) (ci := 6) (v := .ref q6) (C := RX6) (T := TX6) (N := 15) hx hb hts (by decide +kernel) hown hK hP 0 rfl rfl 6 (by decide) (hts (.fieldLink RX6 22 "JoinDeskModel" "many" "[I") (by decide +kernel)) (fun _ h9 => h9) rfl dX6_next_67 ?_
        refine lv_iconst (v := 0) hx hb dX6_next_70 (by decide) ?_
        refine va_iald hx hb hK hP 3 0 rfl rfl (by unfold vp_in; decide) dX6_next_71 ?_
        refine W.eq (g2 := F0 m 72 ls [.int (nI n), .int (nI b0)]) rfl ?_
        refine lv_icmp_lt (tgt := 90) hx hb dX6_next_72 (by decide) (fun cl0 => ?_) (fun cl0 => ?_)
        · refine lv_aload_n hx hb dX6_next_90 rfl (lv_at hl 0 rfl) ?_
          refine va_get (D := D) (ci := 6) (v := .ref q11) (C := RX6) (T := TX6) (N := 15) hx hb hts (by decide +kernel) hown hK hP 0 rfl rfl 11 (by decide) (hts (.fieldLink RX6 25 "JoinDeskModel" "at" "[I") (by decide +kernel)) (fun _ h9 => h9) rfl dX6_next_91 ?_
          refine lv_iconst (v := 0) hx hb dX6_next_94 (by decide) ?_
          refine va_iald hx hb hK hP 4 0 rfl rfl (by unfold vp_in; decide) dX6_next_95 ?_
          refine W.eq (g2 := F0 m 96 ls [.int (nI b0)]) rfl ?_
          refine lv_aload_n hx hb dX6_next_96 rfl (lv_at hl 0 rfl) ?_
          refine va_get (D := D) (ci := 6) (v := .ref q6) (C := RX6) (T := TX6) (N := 15) hx hb hts (by decide +kernel) hown hK hP 0 rfl rfl 6 (by decide) (hts (.fieldLink RX6 22 "JoinDeskModel" "many" "[I") (by decide +kernel)) (fun _ h9 => h9) rfl dX6_next_97 ?_
          refine lv_iconst (v := 0) hx hb dX6_next_100 (by decide) ?_
          refine va_iald hx hb hK hP 3 0 rfl rfl (by unfold vp_in; decide) dX6_next_101 ?_
          refine W.eq (g2 := F0 m 102 ls [.int (nI n), .int (nI b0)]) rfl ?_
          refine lv_icmp_ge (tgt := 109) hx hb dX6_next_102 (by decide) (fun cl1 => absurd cl1 (by exact j_nle cl0)) (fun cl1 => ?_)
          refine lv_iconst (v := 1) hx hb dX6_next_105 (by decide) ?_
          refine lv_goto (tgt := 110) hx hb dX6_next_106 (by decide) ?_
          refine lv_istore_n (lv' := [(1, .int 1), (0, .ref mo)]) hx hb dX6_next_110 rfl hl (by decide) rfl (fun ls hl => ?_)
          refine lv_aload_n hx hb dX6_next_111 rfl (lv_at hl 1 rfl) ?_
          refine va_get (D := D) (ci := 6) (v := .ref q11) (C := RX6) (T := TX6) (N := 15) hx hb hts (by decide +kernel) hown hK hP 0 rfl rfl 11 (by decide) (hts (.fieldLink RX6 25 "JoinDeskModel" "at" "[I") (by decide +kernel)) (fun _ h9 => h9) rfl dX6_next_112 ?_
          refine lv_iconst (v := 1) hx hb dX6_next_115 (by decide) ?_
          refine va_iald hx hb hK hP 4 0 rfl rfl (by unfold vp_in; decide) dX6_next_116 ?_
          refine W.eq (g2 := F0 m 117 ls [.int (nI b1)]) rfl ?_
          refine lv_aload_n hx hb dX6_next_117 rfl (lv_at hl 1 rfl) ?_
          refine va_get (D := D) (ci := 6) (v := .ref q6) (C := RX6) (T := TX6) (N := 15) hx hb hts (by decide +kernel) hown hK hP 0 rfl rfl 6 (by decide) (hts (.fieldLink RX6 22 "JoinDeskModel" "many" "[I") (by decide +kernel)) (fun _ h9 => h9) rfl dX6_next_118 ?_
          refine lv_iconst (v := 1) hx hb dX6_next_121 (by decide) ?_
          refine va_iald hx hb hK hP 3 0 rfl rfl (by unfold vp_in; decide) dX6_next_122 ?_
          refine W.eq (g2 := F0 m 123 ls [.int (nI n2), .int (nI b1)]) rfl ?_
          refine lv_icmp_ge (tgt := 130) hx hb dX6_next_123 (by decide) (fun cr1 => ?_) (fun cr1 => ?_)
          · refine lv_iconst (v := 0) hx hb dX6_next_130 (by decide) ?_
            refine lv_istore_n (lv' := [(2, .int 0), (1, .int 1), (0, .ref mo)]) hx hb dX6_next_131 rfl hl (by decide) rfl (fun ls hl => ?_)
            refine lv_iload_n hx hb dX6_next_132 rfl (lv_at hl 1 rfl) ?_
            refine lv_if_eq (tgt := 201) hx hb dX6_next_133 (by decide) (fun c_9 => absurd c_9 (by decide)) (fun c_9 => ?_)
            refine lv_iload_n hx hb dX6_next_136 rfl (lv_at hl 0 rfl) ?_
            refine lv_if_eq (tgt := 201) hx hb dX6_next_137 (by decide) (fun c_10 => ?_) (fun c_10 => absurd c_10 (by decide))
            refine lv_iload_n hx hb dX6_next_201 rfl (lv_at hl 1 rfl) ?_
            refine lv_if_eq (tgt := 210) hx hb dX6_next_202 (by decide) (fun c_11 => absurd c_11 (by decide)) (fun c_11 => ?_)
            refine lv_aload_n hx hb dX6_next_205 rfl (lv_at hl 2 rfl) ?_
            refine lv_iconst (v := 0) hx hb dX6_next_206 (by decide) ?_
            refine jw_v (wr := []) (va_runV (As := [.int 0]) (rest := []) ⟨hx, hb, hml, hown, hts⟩ (gM_goes_0 l D cI cL cQ mo g n n2 q1 q3 q4 q5 q6 q11 0 1 gr kd mk wl w13 w14 m3 m5 (nI b1) l2 l3 l4 l5 l6 l7 l8 0 l10 l11 t12 t13 t14 t15 t16 t17 t18 t19 t20 t21 t22 t23 b0 _ (by first | assumption | decide | omega) (by first | assumption | decide | omega) (by rw [nI_leI (by omega) (by omega)] at cl1; omega)) (cwV 1 hts gX6_next_X6_goes rfl rfl rfl (by decide +kernel) ⟨Nat.le_of_ble_eq_true rfl, Nat.le_of_ble_eq_true rfl⟩) (jw_V hK hN hP hD [0, 1, 2, 3, 4] (by decide) rfl 6 0 rfl rfl rfl) rfl rfl hl.1 rfl (lv_room (Nat.le_of_ble_eq_true rfl)) dX6_next_207 ⟨Nat.le_of_ble_eq_true rfl, Nat.le_of_ble_eq_true rfl⟩) hP hD hS hA [0, 1, 2, 3, 4] [] rfl rfl (by decide) (by decide) (fun u H locs f_12 hP hD hS => ?_)
            obtain ⟨to9_13, w9_14, rfl, f_15, f_16⟩ := f_12
            have hP : va_P D vwCl [(mo, .inr (6, [.int 0, .ref q1, .int (nI g), .ref q3, .ref q4, .ref q5, .ref q6, .int 1, .int gr, .int kd, .long w9_14, .ref q11, .int mk, .long w13, .long w14])), (q3, .inl (cI, 800, .inl m3)), (q5, .inl (cI, 800, .inl m5)), (q6, .inl (cI, 2, .inl (jl [nI n, nI n2]))), (q11, .inl (cI, 24, .inl (jl [nI to9_13, (nI b1), nI b0, l3, nI to9_13, l5, nI b0, l7, l8, 0, l10, l11, t12, t13, t14, t15, t16, t17, t18, t19, t20, t21, t22, t23])))] H := hP
            have hD : va_D A [(mo, .inr (6, [.int 0, .ref q1, .int (nI g), .ref q3, .ref q4, .ref q5, .ref q6, .int 1, .int gr, .int kd, .long w9_14, .ref q11, .int mk, .long w13, .long w14])), (q3, .inl (cI, 800, .inl m3)), (q5, .inl (cI, 800, .inl m5)), (q6, .inl (cI, 2, .inl (jl [nI n, nI n2]))), (q11, .inl (cI, 24, .inl (jl [nI to9_13, (nI b1), nI b0, l3, nI to9_13, l5, nI b0, l7, l8, 0, l10, l11, t12, t13, t14, t15, t16, t17, t18, t19, t20, t21, t22, t23])))] := hD
            refine lv_iload_n hx hb dX6_next_210 rfl (lv_at hl 0 rfl) ?_
            refine lv_if_eq (tgt := 219) hx hb dX6_next_211 (by decide) (fun c_17 => ?_) (fun c_17 => absurd c_17 (by decide))
            refine lv_aload_n hx hb dX6_next_219 rfl (lv_at hl 2 rfl) ?_
            refine va_get (D := D) (ci := 6) (v := .ref q11) (C := RX6) (T := TX6) (N := 15) hx hb hts (by decide +kernel) hown hK hP 0 rfl rfl 11 (by decide) (hts (.fieldLink RX6 25 "JoinDeskModel" "at" "[I") (by decide +kernel)) (fun _ h9 => h9) rfl dX6_next_220 ?_
            refine lv_bipush (v := 8) hx hb dX6_next_223 (by decide) ?_
            refine lv_iload_n hx hb dX6_next_225 rfl (lv_at hl 1 rfl) ?_
            refine lv_if_eq (tgt := 237) hx hb dX6_next_226 (by decide) (fun c_18 => absurd c_18 (by decide)) (fun c_18 => ?_)
            refine lv_iload_n hx hb dX6_next_229 rfl (lv_at hl 0 rfl) ?_
            refine lv_if_eq (tgt := 237) hx hb dX6_next_230 (by decide) (fun c_19 => ?_) (fun c_19 => absurd c_19 (by decide))
            refine lv_iload_n hx hb dX6_next_237 rfl (lv_at hl 1 rfl) ?_
            refine lv_if_eq (tgt := 245) hx hb dX6_next_238 (by decide) (fun c_20 => absurd c_20 (by decide)) (fun c_20 => ?_)
            refine lv_iconst (v := 1) hx hb dX6_next_241 (by decide) ?_
            refine lv_goto (tgt := 246) hx hb dX6_next_242 (by decide) ?_
            refine va_iast hx hb hK hP hD hS 4 0 rfl rfl (by unfold vp_in; decide) dX6_next_246 (fun H locs hP hD hS => ?_)
            rw [jl_upd (show (8 : Int32).toNatClampNeg = 8 by decide) (Nat.le_of_ble_eq_true rfl)] at hP hD
            have hP : va_P D vwCl [(mo, .inr (6, [.int 0, .ref q1, .int (nI g), .ref q3, .ref q4, .ref q5, .ref q6, .int 1, .int gr, .int kd, .long w9_14, .ref q11, .int mk, .long w13, .long w14])), (q3, .inl (cI, 800, .inl m3)), (q5, .inl (cI, 800, .inl m5)), (q6, .inl (cI, 2, .inl (jl [nI n, nI n2]))), (q11, .inl (cI, 24, .inl (jl [nI to9_13, (nI b1), nI b0, l3, nI to9_13, l5, nI b0, l7, 1, 0, l10, l11, t12, t13, t14, t15, t16, t17, t18, t19, t20, t21, t22, t23])))] H := hP
            have hD : va_D A [(mo, .inr (6, [.int 0, .ref q1, .int (nI g), .ref q3, .ref q4, .ref q5, .ref q6, .int 1, .int gr, .int kd, .long w9_14, .ref q11, .int mk, .long w13, .long w14])), (q3, .inl (cI, 800, .inl m3)), (q5, .inl (cI, 800, .inl m5)), (q6, .inl (cI, 2, .inl (jl [nI n, nI n2]))), (q11, .inl (cI, 24, .inl (jl [nI to9_13, (nI b1), nI b0, l3, nI to9_13, l5, nI b0, l7, 1, 0, l10, l11, t12, t13, t14, t15, t16, t17, t18, t19, t20, t21, t22, t23])))] := hD
            refine lv_aload_n hx hb dX6_next_247 rfl (lv_at hl 2 rfl) ?_
            refine va_get (D := D) (ci := 6) (v := .int kd) (C := RX6) (T := TX6) (N := 15) hx hb hts (by decide +kernel) hown hK hP 0 rfl rfl 9 (by decide) (hts (.fieldLink RX6 60 "JoinDeskModel" "kind" "I") (by decide +kernel)) (fun _ h9 => h9) rfl dX6_next_248 ?_
            refine lv_aload_n hx hb dX6_next_251 rfl (lv_at hl 2 rfl) ?_
            refine va_get (D := D) (ci := 6) (v := .ref q11) (C := RX6) (T := TX6) (N := 15) hx hb hts (by decide +kernel) hown hK hP 0 rfl rfl 11 (by decide) (hts (.fieldLink RX6 25 "JoinDeskModel" "at" "[I") (by decide +kernel)) (fun _ h9 => h9) rfl dX6_next_252 ?_
            refine lv_bipush (v := 8) hx hb dX6_next_255 (by decide) ?_
            refine va_iald hx hb hK hP 4 0 rfl rfl (by unfold vp_in; decide) dX6_next_257 ?_
            refine W.eq (g2 := F0 m 258 ls [.int 1, .int kd]) rfl ?_
            refine vp_callSi (va_Run.run (va_runS (As := [.int kd, .int 1]) (rest := []) ⟨hx, hb, hml, hown, hts⟩ (gM_tells_1 l D cI cL cQ kd (by first | assumption | decide | omega)) (va_cwS 2 hts gX6_next_X6_tells rfl rfl rfl (by decide +kernel) ⟨Nat.le_of_ble_eq_true rfl, Nat.le_of_ble_eq_true rfl⟩) (jr_S hK hN hP [] rfl) rfl rfl hl.1 rfl (lv_room (Nat.le_of_ble_eq_true rfl)) dX6_next_258 ⟨Nat.le_of_ble_eq_true rfl, Nat.le_of_ble_eq_true rfl⟩)) (fun r f_21 => ?_)
            rcases f_21 with ⟨rfl, f_22⟩ | ⟨rfl, f_23⟩
            · refine lv_if_eq (tgt := 285) hx hb dX6_next_261 (by decide) (fun c_24 => absurd c_24 (by decide)) (fun c_24 => ?_)
              refine lv_aload_n hx hb dX6_next_264 rfl (lv_at hl 2 rfl) ?_
              refine va_get (D := D) (ci := 6) (v := .ref q11) (C := RX6) (T := TX6) (N := 15) hx hb hts (by decide +kernel) hown hK hP 0 rfl rfl 11 (by decide) (hts (.fieldLink RX6 25 "JoinDeskModel" "at" "[I") (by decide +kernel)) (fun _ h9 => h9) rfl dX6_next_265 ?_
              refine lv_bipush (v := 9) hx hb dX6_next_268 (by decide) ?_
              refine lv_iconst (v := 1) hx hb dX6_next_270 (by decide) ?_
              refine va_iast hx hb hK hP hD hS 4 0 rfl rfl (by unfold vp_in; decide) dX6_next_271 (fun H locs hP hD hS => ?_)
              rw [jl_upd (show (9 : Int32).toNatClampNeg = 9 by decide) (Nat.le_of_ble_eq_true rfl)] at hP hD
              have hP : va_P D vwCl [(mo, .inr (6, [.int 0, .ref q1, .int (nI g), .ref q3, .ref q4, .ref q5, .ref q6, .int 1, .int gr, .int kd, .long w9_14, .ref q11, .int mk, .long w13, .long w14])), (q3, .inl (cI, 800, .inl m3)), (q5, .inl (cI, 800, .inl m5)), (q6, .inl (cI, 2, .inl (jl [nI n, nI n2]))), (q11, .inl (cI, 24, .inl (jl [nI to9_13, (nI b1), nI b0, l3, nI to9_13, l5, nI b0, l7, 1, 1, l10, l11, t12, t13, t14, t15, t16, t17, t18, t19, t20, t21, t22, t23])))] H := hP
              have hD : va_D A [(mo, .inr (6, [.int 0, .ref q1, .int (nI g), .ref q3, .ref q4, .ref q5, .ref q6, .int 1, .int gr, .int kd, .long w9_14, .ref q11, .int mk, .long w13, .long w14])), (q3, .inl (cI, 800, .inl m3)), (q5, .inl (cI, 800, .inl m5)), (q6, .inl (cI, 2, .inl (jl [nI n, nI n2]))), (q11, .inl (cI, 24, .inl (jl [nI to9_13, (nI b1), nI b0, l3, nI to9_13, l5, nI b0, l7, 1, 1, l10, l11, t12, t13, t14, t15, t16, t17, t18, t19, t20, t21, t22, t23])))] := hD
              refine lv_aload_n hx hb dX6_next_272 rfl (lv_at hl 2 rfl) ?_
              refine va_get (D := D) (ci := 6) (v := .ref q11) (C := RX6) (T := TX6) (N := 15) hx hb hts (by decide +kernel) hown hK hP 0 rfl rfl 11 (by decide) (hts (.fieldLink RX6 25 "JoinDeskModel" "at" "[I") (by decide +kernel)) (fun _ h9 => h9) rfl dX6_next_273 ?_
              refine lv_bipush (v := 10) hx hb dX6_next_276 (by decide) ?_
              refine lv_dup2_11 hx hb dX6_next_278 rfl rfl ?_
              refine va_iald hx hb hK hP 4 0 rfl rfl (by unfold vp_in; decide) dX6_next_279 ?_
              refine W.eq (g2 := F0 m 280 ls [.int l10, .int 10, .ref q11]) rfl ?_
              refine lv_iconst (v := 1) hx hb dX6_next_280 (by decide) ?_
              refine lv_iadd hx hb dX6_next_281 ?_
              refine va_iast hx hb hK hP hD hS 4 0 rfl rfl (by unfold vp_in; decide) dX6_next_282 (fun H locs hP hD hS => ?_)
              rw [jl_upd (show (10 : Int32).toNatClampNeg = 10 by decide) (Nat.le_of_ble_eq_true rfl)] at hP hD
              have hP : va_P D vwCl [(mo, .inr (6, [.int 0, .ref q1, .int (nI g), .ref q3, .ref q4, .ref q5, .ref q6, .int 1, .int gr, .int kd, .long w9_14, .ref q11, .int mk, .long w13, .long w14])), (q3, .inl (cI, 800, .inl m3)), (q5, .inl (cI, 800, .inl m5)), (q6, .inl (cI, 2, .inl (jl [nI n, nI n2]))), (q11, .inl (cI, 24, .inl (jl [nI to9_13, (nI b1), nI b0, l3, nI to9_13, l5, nI b0, l7, 1, 1, l10 + 1, l11, t12, t13, t14, t15, t16, t17, t18, t19, t20, t21, t22, t23])))] H := hP
              have hD : va_D A [(mo, .inr (6, [.int 0, .ref q1, .int (nI g), .ref q3, .ref q4, .ref q5, .ref q6, .int 1, .int gr, .int kd, .long w9_14, .ref q11, .int mk, .long w13, .long w14])), (q3, .inl (cI, 800, .inl m3)), (q5, .inl (cI, 800, .inl m5)), (q6, .inl (cI, 2, .inl (jl [nI n, nI n2]))), (q11, .inl (cI, 24, .inl (jl [nI to9_13, (nI b1), nI b0, l3, nI to9_13, l5, nI b0, l7, 1, 1, l10 + 1, l11, t12, t13, t14, t15, t16, t17, t18, t19, t20, t21, t22, t23])))] := hD
              refine lv_iconst (v := 1) hx hb dX6_next_283 (by decide) ?_
              refine W.widen (k := 0) (n := 0) (by omega) (by omega) ?_
              exact W.zret (v := 1) (ty := .boolean) hx hb hr rfl (fun t ht hW => ⟨⟨1, [(mo, .inr (6, [.int 0, .ref q1, .int (nI g), .ref q3, .ref q4, .ref q5, .ref q6, .int 1, .int gr, .int kd, .long w9_14, .ref q11, .int mk, .long w13, .long w14])), (q3, .inl (cI, 800, .inl m3)), (q5, .inl (cI, 800, .inl m5)), (q6, .inl (cI, 2, .inl (jl [nI n, nI n2]))), (q11, .inl (cI, 24, .inl (jl [nI to9_13, (nI b1), nI b0, l3, nI to9_13, l5, nI b0, l7, 1, 1, l10 + 1, l11, t12, t13, t14, t15, t16, t17, t18, t19, t20, t21, t22, t23])))], rfl, (by exact (Or.inr (Or.inl ⟨_, _, _, _, _, _, _, _, _, _, _, rfl, rfl, by omega, by omega, by omega, by omega⟩))), by rw [ht]; exact hP, hD⟩, hS.F ht⟩) hS.2.2 dX6_next_284
            · refine lv_if_eq (tgt := 285) hx hb dX6_next_261 (by decide) (fun c_25 => ?_) (fun c_25 => absurd c_25 (by decide))
              refine lv_goto (tgt := 60) hx hb dX6_next_285 (by decide) ?_
              exact ih_1 to9_13 b1 (nI b0) l3 (nI to9_13) l5 (nI b0) l7 1 l10 l11 w9_14 (by omega) (by omega) (by omega) _ _ hP hD hS ls (lv_sub hl [2] rfl)
          · refine lv_iconst (v := 1) hx hb dX6_next_126 (by decide) ?_
            refine lv_goto (tgt := 131) hx hb dX6_next_127 (by decide) ?_
            refine lv_istore_n (lv' := [(2, .int 1), (1, .int 1), (0, .ref mo)]) hx hb dX6_next_131 rfl hl (by decide) rfl (fun ls hl => ?_)
            refine lv_iload_n hx hb dX6_next_132 rfl (lv_at hl 1 rfl) ?_
            refine lv_if_eq (tgt := 201) hx hb dX6_next_133 (by decide) (fun c_26 => absurd c_26 (by decide)) (fun c_26 => ?_)
            refine lv_iload_n hx hb dX6_next_136 rfl (lv_at hl 0 rfl) ?_
            refine lv_if_eq (tgt := 201) hx hb dX6_next_137 (by decide) (fun c_27 => absurd c_27 (by decide)) (fun c_27 => ?_)
            refine lv_aload_n hx hb dX6_next_140 rfl (lv_at hl 2 rfl) ?_
            refine lv_iconst (v := 0) hx hb dX6_next_141 (by decide) ?_
            refine lv_aload_n hx hb dX6_next_142 rfl (lv_at hl 2 rfl) ?_
            refine va_get (D := D) (ci := 6) (v := .ref q11) (C := RX6) (T := TX6) (N := 15) hx hb hts (by decide +kernel) hown hK hP 0 rfl rfl 11 (by decide) (hts (.fieldLink RX6 25 "JoinDeskModel" "at" "[I") (by decide +kernel)) (fun _ h9 => h9) rfl dX6_next_143 ?_
            refine lv_iconst (v := 0) hx hb dX6_next_146 (by decide) ?_
            refine va_iald hx hb hK hP 4 0 rfl rfl (by unfold vp_in; decide) dX6_next_147 ?_
            refine W.eq (g2 := F0 m 148 ls [.int (nI b0), .int 0, .ref mo]) rfl ?_
            refine vp_callSi (va_Run.run (va_runV (As := [.int 0, .int (nI b0)]) (rest := []) ⟨hx, hb, hml, hown, hts⟩ (gM_key_0 l D cI cL cQ mo g q1 q3 q4 q5 q6 q11 0 1 gr kd mk wl w13 w14 m3 m5 b0 (by first | assumption | decide | omega) (by rw [nI_leI (by omega) (by omega)] at cl1; omega)) (cwV 2 hts gX6_next_X6_key rfl rfl rfl (by decide +kernel) ⟨Nat.le_of_ble_eq_true rfl, Nat.le_of_ble_eq_true rfl⟩) (jr_V hK hN hP [0, 1, 2] rfl 6 0 rfl rfl rfl) rfl rfl hl.1 rfl (lv_room (Nat.le_of_ble_eq_true rfl)) dX6_next_148 ⟨Nat.le_of_ble_eq_true rfl, Nat.le_of_ble_eq_true rfl⟩)) (fun r f_28 => ?_)
            obtain rfl := f_28
            refine lv_istore_n (lv' := [(3, .int (jmk 0 m3 m5 b0)), (2, .int 1), (1, .int 1), (0, .ref mo)]) hx hb dX6_next_151 rfl hl (by decide) rfl (fun ls hl => ?_)
            refine lv_aload_n hx hb dX6_next_152 rfl (lv_at hl 3 rfl) ?_
            refine lv_iconst (v := 1) hx hb dX6_next_153 (by decide) ?_
            refine lv_aload_n hx hb dX6_next_154 rfl (lv_at hl 3 rfl) ?_
            refine va_get (D := D) (ci := 6) (v := .ref q11) (C := RX6) (T := TX6) (N := 15) hx hb hts (by decide +kernel) hown hK hP 0 rfl rfl 11 (by decide) (hts (.fieldLink RX6 25 "JoinDeskModel" "at" "[I") (by decide +kernel)) (fun _ h9 => h9) rfl dX6_next_155 ?_
            refine lv_iconst (v := 1) hx hb dX6_next_158 (by decide) ?_
            refine va_iald hx hb hK hP 4 0 rfl rfl (by unfold vp_in; decide) dX6_next_159 ?_
            refine W.eq (g2 := F0 m 160 ls [.int (nI b1), .int 1, .ref mo]) rfl ?_
            refine vp_callSi (va_Run.run (va_runV (As := [.int 1, .int (nI b1)]) (rest := []) ⟨hx, hb, hml, hown, hts⟩ (gM_key_1 l D cI cL cQ mo g q1 q3 q4 q5 q6 q11 0 1 gr kd mk wl w13 w14 m3 m5 b1 (by first | assumption | decide | omega) (by rw [nI_leI (by omega) (by omega)] at cr1; omega)) (cwV 2 hts gX6_next_X6_key rfl rfl rfl (by decide +kernel) ⟨Nat.le_of_ble_eq_true rfl, Nat.le_of_ble_eq_true rfl⟩) (jr_V hK hN hP [0, 1, 2] rfl 6 0 rfl rfl rfl) rfl rfl hl.1 rfl (lv_room (Nat.le_of_ble_eq_true rfl)) dX6_next_160 ⟨Nat.le_of_ble_eq_true rfl, Nat.le_of_ble_eq_true rfl⟩)) (fun r f_29 => ?_)
            obtain rfl := f_29
            refine lv_istore (lv' := [(4, .int (jmk 400 m3 m5 b1)), (3, .int (jmk 0 m3 m5 b0)), (2, .int 1), (1, .int 1), (0, .ref mo)]) hx hb dX6_next_163 hl (by decide) rfl (fun ls hl => ?_)
            refine lv_aload_n hx hb dX6_next_165 rfl (lv_at hl 4 rfl) ?_
            refine lv_dup hx hb dX6_next_166 rfl ?_
            refine va_get (D := D) (ci := 6) (v := .long wl) (C := RX6) (T := TX6) (N := 15) hx hb hts (by decide +kernel) hown hK hP 0 rfl rfl 10 (by decide) (hts (.fieldLink RX6 53 "JoinDeskModel" "cells" "J") (by decide +kernel)) (fun _ h9 => h9) rfl dX6_next_167 ?_
            refine lv_ldc2 (v := (2)) hx hb hown (hts (.constantLong RX6 71 (2)) (by decide +kernel)) dX6_next_170 ?_
            refine lv_ladd hx hb dX6_next_173 ?_
            refine va_put (D := D) (ci := 6) (v := .long (wl + (2))) (ty := .long) (C := RX6) (T := TX6) (N := 15) hx hb hts (by decide +kernel) tyX6 tyX6_ok nmX6 hown hK hP hD hS 0 rfl rfl 10 (by decide) (hts (.fieldLink RX6 53 "JoinDeskModel" "cells" "J") (by decide +kernel)) (fun _ h9 => h9) rfl (by decide +kernel) rfl rfl (Nat.le_of_ble_eq_true rfl) dX6_next_174 (fun H locs hP hD hS => ?_)
            have hP : va_P D vwCl [(mo, .inr (6, [.int 0, .ref q1, .int (nI g), .ref q3, .ref q4, .ref q5, .ref q6, .int 1, .int gr, .int kd, .long (wl + (2)), .ref q11, .int mk, .long w13, .long w14])), (q3, .inl (cI, 800, .inl m3)), (q5, .inl (cI, 800, .inl m5)), (q6, .inl (cI, 2, .inl (jl [nI n, nI n2]))), (q11, .inl (cI, 24, .inl (jl [nI b0, nI b1, l2, l3, l4, l5, l6, l7, l8, 0, l10, l11, t12, t13, t14, t15, t16, t17, t18, t19, t20, t21, t22, t23])))] H := hP
            have hD : va_D A [(mo, .inr (6, [.int 0, .ref q1, .int (nI g), .ref q3, .ref q4, .ref q5, .ref q6, .int 1, .int gr, .int kd, .long (wl + (2)), .ref q11, .int mk, .long w13, .long w14])), (q3, .inl (cI, 800, .inl m3)), (q5, .inl (cI, 800, .inl m5)), (q6, .inl (cI, 2, .inl (jl [nI n, nI n2]))), (q11, .inl (cI, 24, .inl (jl [nI b0, nI b1, l2, l3, l4, l5, l6, l7, l8, 0, l10, l11, t12, t13, t14, t15, t16, t17, t18, t19, t20, t21, t22, t23])))] := hD
            refine lv_iload_n hx hb dX6_next_177 rfl (lv_at hl 1 rfl) ?_
            refine lv_iload hx hb dX6_next_178 (lv_at hl 0 rfl) ?_
            refine lv_icmp_gt (tgt := 187) hx hb dX6_next_180 (by decide) (fun ck => ?_) (fun ck => ?_)
            · refine lv_iconst (v := 0) hx hb dX6_next_187 (by decide) ?_
              refine lv_istore_n (lv' := [(1, .int 0), (4, .int (jmk 400 m3 m5 b1)), (3, .int (jmk 0 m3 m5 b0)), (2, .int 1), (0, .ref mo)]) hx hb dX6_next_188 rfl hl (by decide) rfl (fun ls hl => ?_)
              refine lv_iload hx hb dX6_next_189 (lv_at hl 1 rfl) ?_
              refine lv_iload_n hx hb dX6_next_191 rfl (lv_at hl 2 rfl) ?_
              refine lv_icmp_gt (tgt := 199) hx hb dX6_next_192 (by decide) (fun c_30 => absurd c_30 (by exact j_asym ck)) (fun c_30 => ?_)
              refine lv_iconst (v := 1) hx hb dX6_next_195 (by decide) ?_
              refine lv_goto (tgt := 200) hx hb dX6_next_196 (by decide) ?_
              refine lv_istore_n (lv' := [(2, .int 1), (1, .int 0), (4, .int (jmk 400 m3 m5 b1)), (3, .int (jmk 0 m3 m5 b0)), (0, .ref mo)]) hx hb dX6_next_200 rfl hl (by decide) rfl (fun ls hl => ?_)
              refine lv_iload_n hx hb dX6_next_201 rfl (lv_at hl 1 rfl) ?_
              refine lv_if_eq (tgt := 210) hx hb dX6_next_202 (by decide) (fun c_31 => ?_) (fun c_31 => absurd c_31 (by decide))
              refine lv_iload_n hx hb dX6_next_210 rfl (lv_at hl 0 rfl) ?_
              refine lv_if_eq (tgt := 219) hx hb dX6_next_211 (by decide) (fun c_32 => absurd c_32 (by decide)) (fun c_32 => ?_)
              refine lv_aload_n hx hb dX6_next_214 rfl (lv_at hl 4 rfl) ?_
              refine lv_iconst (v := 1) hx hb dX6_next_215 (by decide) ?_
              refine jw_v (wr := []) (va_runV (As := [.int 1]) (rest := []) ⟨hx, hb, hml, hown, hts⟩ (gM_goes_1 l D cI cL cQ mo g n n2 q1 q3 q4 q5 q6 q11 0 1 gr kd mk (wl + (2)) w13 w14 m3 m5 (nI b0) l2 l3 l4 l5 l6 l7 l8 0 l10 l11 t12 t13 t14 t15 t16 t17 t18 t19 t20 t21 t22 t23 b1 _ (by first | assumption | decide | omega) (by first | assumption | decide | omega) (by rw [nI_leI (by omega) (by omega)] at cr1; omega)) (cwV 1 hts gX6_next_X6_goes rfl rfl rfl (by decide +kernel) ⟨Nat.le_of_ble_eq_true rfl, Nat.le_of_ble_eq_true rfl⟩) (jw_V hK hN hP hD [0, 1, 2, 3, 4] (by decide) rfl 6 0 rfl rfl rfl) rfl rfl hl.1 rfl (lv_room (Nat.le_of_ble_eq_true rfl)) dX6_next_216 ⟨Nat.le_of_ble_eq_true rfl, Nat.le_of_ble_eq_true rfl⟩) hP hD hS hA [0, 1, 2, 3, 4] [] rfl rfl (by decide) (by decide) (fun u H locs f_33 hP hD hS => ?_)
              obtain ⟨to9_34, w9_35, rfl, f_36, f_37⟩ := f_33
              have hP : va_P D vwCl [(mo, .inr (6, [.int 0, .ref q1, .int (nI g), .ref q3, .ref q4, .ref q5, .ref q6, .int 1, .int gr, .int kd, .long w9_35, .ref q11, .int mk, .long w13, .long w14])), (q3, .inl (cI, 800, .inl m3)), (q5, .inl (cI, 800, .inl m5)), (q6, .inl (cI, 2, .inl (jl [nI n, nI n2]))), (q11, .inl (cI, 24, .inl (jl [(nI b0), nI to9_34, l2, nI b1, l4, nI to9_34, l6, nI b1, l8, 0, l10, l11, t12, t13, t14, t15, t16, t17, t18, t19, t20, t21, t22, t23])))] H := hP
              have hD : va_D A [(mo, .inr (6, [.int 0, .ref q1, .int (nI g), .ref q3, .ref q4, .ref q5, .ref q6, .int 1, .int gr, .int kd, .long w9_35, .ref q11, .int mk, .long w13, .long w14])), (q3, .inl (cI, 800, .inl m3)), (q5, .inl (cI, 800, .inl m5)), (q6, .inl (cI, 2, .inl (jl [nI n, nI n2]))), (q11, .inl (cI, 24, .inl (jl [(nI b0), nI to9_34, l2, nI b1, l4, nI to9_34, l6, nI b1, l8, 0, l10, l11, t12, t13, t14, t15, t16, t17, t18, t19, t20, t21, t22, t23])))] := hD
              refine lv_aload_n hx hb dX6_next_219 rfl (lv_at hl 4 rfl) ?_
              refine va_get (D := D) (ci := 6) (v := .ref q11) (C := RX6) (T := TX6) (N := 15) hx hb hts (by decide +kernel) hown hK hP 0 rfl rfl 11 (by decide) (hts (.fieldLink RX6 25 "JoinDeskModel" "at" "[I") (by decide +kernel)) (fun _ h9 => h9) rfl dX6_next_220 ?_
              refine lv_bipush (v := 8) hx hb dX6_next_223 (by decide) ?_
              refine lv_iload_n hx hb dX6_next_225 rfl (lv_at hl 1 rfl) ?_
              refine lv_if_eq (tgt := 237) hx hb dX6_next_226 (by decide) (fun c_38 => ?_) (fun c_38 => absurd c_38 (by decide))
              refine lv_iload_n hx hb dX6_next_237 rfl (lv_at hl 1 rfl) ?_
              refine lv_if_eq (tgt := 245) hx hb dX6_next_238 (by decide) (fun c_39 => ?_) (fun c_39 => absurd c_39 (by decide))
              refine lv_iconst (v := 2) hx hb dX6_next_245 (by decide) ?_
              refine va_iast hx hb hK hP hD hS 4 0 rfl rfl (by unfold vp_in; decide) dX6_next_246 (fun H locs hP hD hS => ?_)
              rw [jl_upd (show (8 : Int32).toNatClampNeg = 8 by decide) (Nat.le_of_ble_eq_true rfl)] at hP hD
              have hP : va_P D vwCl [(mo, .inr (6, [.int 0, .ref q1, .int (nI g), .ref q3, .ref q4, .ref q5, .ref q6, .int 1, .int gr, .int kd, .long w9_35, .ref q11, .int mk, .long w13, .long w14])), (q3, .inl (cI, 800, .inl m3)), (q5, .inl (cI, 800, .inl m5)), (q6, .inl (cI, 2, .inl (jl [nI n, nI n2]))), (q11, .inl (cI, 24, .inl (jl [(nI b0), nI to9_34, l2, nI b1, l4, nI to9_34, l6, nI b1, 2, 0, l10, l11, t12, t13, t14, t15, t16, t17, t18, t19, t20, t21, t22, t23])))] H := hP
              have hD : va_D A [(mo, .inr (6, [.int 0, .ref q1, .int (nI g), .ref q3, .ref q4, .ref q5, .ref q6, .int 1, .int gr, .int kd, .long w9_35, .ref q11, .int mk, .long w13, .long w14])), (q3, .inl (cI, 800, .inl m3)), (q5, .inl (cI, 800, .inl m5)), (q6, .inl (cI, 2, .inl (jl [nI n, nI n2]))), (q11, .inl (cI, 24, .inl (jl [(nI b0), nI to9_34, l2, nI b1, l4, nI to9_34, l6, nI b1, 2, 0, l10, l11, t12, t13, t14, t15, t16, t17, t18, t19, t20, t21, t22, t23])))] := hD
              refine lv_aload_n hx hb dX6_next_247 rfl (lv_at hl 4 rfl) ?_
              refine va_get (D := D) (ci := 6) (v := .int kd) (C := RX6) (T := TX6) (N := 15) hx hb hts (by decide +kernel) hown hK hP 0 rfl rfl 9 (by decide) (hts (.fieldLink RX6 60 "JoinDeskModel" "kind" "I") (by decide +kernel)) (fun _ h9 => h9) rfl dX6_next_248 ?_
              refine lv_aload_n hx hb dX6_next_251 rfl (lv_at hl 4 rfl) ?_
              refine va_get (D := D) (ci := 6) (v := .ref q11) (C := RX6) (T := TX6) (N := 15) hx hb hts (by decide +kernel) hown hK hP 0 rfl rfl 11 (by decide) (hts (.fieldLink RX6 25 "JoinDeskModel" "at" "[I") (by decide +kernel)) (fun _ h9 => h9) rfl dX6_next_252 ?_
              refine lv_bipush (v := 8) hx hb dX6_next_255 (by decide) ?_
              refine va_iald hx hb hK hP 4 0 rfl rfl (by unfold vp_in; decide) dX6_next_257 ?_
              refine W.eq (g2 := F0 m 258 ls [.int 2, .int kd]) rfl ?_
              refine vp_callSi (va_Run.run (va_runS (As := [.int kd, .int 2]) (rest := []) ⟨hx, hb, hml, hown, hts⟩ (gM_tells_2 l D cI cL cQ kd (by first | assumption | decide | omega)) (va_cwS 2 hts gX6_next_X6_tells rfl rfl rfl (by decide +kernel) ⟨Nat.le_of_ble_eq_true rfl, Nat.le_of_ble_eq_true rfl⟩) (jr_S hK hN hP [] rfl) rfl rfl hl.1 rfl (lv_room (Nat.le_of_ble_eq_true rfl)) dX6_next_258 ⟨Nat.le_of_ble_eq_true rfl, Nat.le_of_ble_eq_true rfl⟩)) (fun r f_40 => ?_)
              rcases f_40 with ⟨rfl, f_41⟩ | ⟨rfl, f_42⟩
              · refine lv_if_eq (tgt := 285) hx hb dX6_next_261 (by decide) (fun c_43 => absurd c_43 (by decide)) (fun c_43 => ?_)
                refine lv_aload_n hx hb dX6_next_264 rfl (lv_at hl 4 rfl) ?_
                refine va_get (D := D) (ci := 6) (v := .ref q11) (C := RX6) (T := TX6) (N := 15) hx hb hts (by decide +kernel) hown hK hP 0 rfl rfl 11 (by decide) (hts (.fieldLink RX6 25 "JoinDeskModel" "at" "[I") (by decide +kernel)) (fun _ h9 => h9) rfl dX6_next_265 ?_
                refine lv_bipush (v := 9) hx hb dX6_next_268 (by decide) ?_
                refine lv_iconst (v := 1) hx hb dX6_next_270 (by decide) ?_
                refine va_iast hx hb hK hP hD hS 4 0 rfl rfl (by unfold vp_in; decide) dX6_next_271 (fun H locs hP hD hS => ?_)
                rw [jl_upd (show (9 : Int32).toNatClampNeg = 9 by decide) (Nat.le_of_ble_eq_true rfl)] at hP hD
                have hP : va_P D vwCl [(mo, .inr (6, [.int 0, .ref q1, .int (nI g), .ref q3, .ref q4, .ref q5, .ref q6, .int 1, .int gr, .int kd, .long w9_35, .ref q11, .int mk, .long w13, .long w14])), (q3, .inl (cI, 800, .inl m3)), (q5, .inl (cI, 800, .inl m5)), (q6, .inl (cI, 2, .inl (jl [nI n, nI n2]))), (q11, .inl (cI, 24, .inl (jl [(nI b0), nI to9_34, l2, nI b1, l4, nI to9_34, l6, nI b1, 2, 1, l10, l11, t12, t13, t14, t15, t16, t17, t18, t19, t20, t21, t22, t23])))] H := hP
                have hD : va_D A [(mo, .inr (6, [.int 0, .ref q1, .int (nI g), .ref q3, .ref q4, .ref q5, .ref q6, .int 1, .int gr, .int kd, .long w9_35, .ref q11, .int mk, .long w13, .long w14])), (q3, .inl (cI, 800, .inl m3)), (q5, .inl (cI, 800, .inl m5)), (q6, .inl (cI, 2, .inl (jl [nI n, nI n2]))), (q11, .inl (cI, 24, .inl (jl [(nI b0), nI to9_34, l2, nI b1, l4, nI to9_34, l6, nI b1, 2, 1, l10, l11, t12, t13, t14, t15, t16, t17, t18, t19, t20, t21, t22, t23])))] := hD
                refine lv_aload_n hx hb dX6_next_272 rfl (lv_at hl 4 rfl) ?_
                refine va_get (D := D) (ci := 6) (v := .ref q11) (C := RX6) (T := TX6) (N := 15) hx hb hts (by decide +kernel) hown hK hP 0 rfl rfl 11 (by decide) (hts (.fieldLink RX6 25 "JoinDeskModel" "at" "[I") (by decide +kernel)) (fun _ h9 => h9) rfl dX6_next_273 ?_
                refine lv_bipush (v := 10) hx hb dX6_next_276 (by decide) ?_
                refine lv_dup2_11 hx hb dX6_next_278 rfl rfl ?_
                refine va_iald hx hb hK hP 4 0 rfl rfl (by unfold vp_in; decide) dX6_next_279 ?_
                refine W.eq (g2 := F0 m 280 ls [.int l10, .int 10, .ref q11]) rfl ?_
                refine lv_iconst (v := 1) hx hb dX6_next_280 (by decide) ?_
                refine lv_iadd hx hb dX6_next_281 ?_
                refine va_iast hx hb hK hP hD hS 4 0 rfl rfl (by unfold vp_in; decide) dX6_next_282 (fun H locs hP hD hS => ?_)
                rw [jl_upd (show (10 : Int32).toNatClampNeg = 10 by decide) (Nat.le_of_ble_eq_true rfl)] at hP hD
                have hP : va_P D vwCl [(mo, .inr (6, [.int 0, .ref q1, .int (nI g), .ref q3, .ref q4, .ref q5, .ref q6, .int 1, .int gr, .int kd, .long w9_35, .ref q11, .int mk, .long w13, .long w14])), (q3, .inl (cI, 800, .inl m3)), (q5, .inl (cI, 800, .inl m5)), (q6, .inl (cI, 2, .inl (jl [nI n, nI n2]))), (q11, .inl (cI, 24, .inl (jl [(nI b0), nI to9_34, l2, nI b1, l4, nI to9_34, l6, nI b1, 2, 1, l10 + 1, l11, t12, t13, t14, t15, t16, t17, t18, t19, t20, t21, t22, t23])))] H := hP
                have hD : va_D A [(mo, .inr (6, [.int 0, .ref q1, .int (nI g), .ref q3, .ref q4, .ref q5, .ref q6, .int 1, .int gr, .int kd, .long w9_35, .ref q11, .int mk, .long w13, .long w14])), (q3, .inl (cI, 800, .inl m3)), (q5, .inl (cI, 800, .inl m5)), (q6, .inl (cI, 2, .inl (jl [nI n, nI n2]))), (q11, .inl (cI, 24, .inl (jl [(nI b0), nI to9_34, l2, nI b1, l4, nI to9_34, l6, nI b1, 2, 1, l10 + 1, l11, t12, t13, t14, t15, t16, t17, t18, t19, t20, t21, t22, t23])))] := hD
                refine lv_iconst (v := 1) hx hb dX6_next_283 (by decide) ?_
                refine W.widen (k := 0) (n := 0) (by omega) (by omega) ?_
                exact W.zret (v := 1) (ty := .boolean) hx hb hr rfl (fun t ht hW => ⟨⟨1, [(mo, .inr (6, [.int 0, .ref q1, .int (nI g), .ref q3, .ref q4, .ref q5, .ref q6, .int 1, .int gr, .int kd, .long w9_35, .ref q11, .int mk, .long w13, .long w14])), (q3, .inl (cI, 800, .inl m3)), (q5, .inl (cI, 800, .inl m5)), (q6, .inl (cI, 2, .inl (jl [nI n, nI n2]))), (q11, .inl (cI, 24, .inl (jl [(nI b0), nI to9_34, l2, nI b1, l4, nI to9_34, l6, nI b1, 2, 1, l10 + 1, l11, t12, t13, t14, t15, t16, t17, t18, t19, t20, t21, t22, t23])))], rfl, (by exact (Or.inr (Or.inr (Or.inl ⟨_, _, _, _, _, _, _, _, _, _, _, rfl, rfl, by omega, by omega, by omega, by omega⟩)))), by rw [ht]; exact hP, hD⟩, hS.F ht⟩) hS.2.2 dX6_next_284
              · refine lv_if_eq (tgt := 285) hx hb dX6_next_261 (by decide) (fun c_44 => ?_) (fun c_44 => absurd c_44 (by decide))
                refine lv_goto (tgt := 60) hx hb dX6_next_285 (by decide) ?_
                exact ih_1 b0 to9_34 l2 (nI b1) l4 (nI to9_34) l6 (nI b1) 2 l10 l11 w9_35 (by omega) (by omega) (by omega) _ _ hP hD hS ls (lv_sub hl [4] rfl)
            · refine lv_iconst (v := 1) hx hb dX6_next_183 (by decide) ?_
              refine lv_goto (tgt := 188) hx hb dX6_next_184 (by decide) ?_
              refine lv_istore_n (lv' := [(1, .int 1), (4, .int (jmk 400 m3 m5 b1)), (3, .int (jmk 0 m3 m5 b0)), (2, .int 1), (0, .ref mo)]) hx hb dX6_next_188 rfl hl (by decide) rfl (fun ls hl => ?_)
              refine lv_iload hx hb dX6_next_189 (lv_at hl 1 rfl) ?_
              refine lv_iload_n hx hb dX6_next_191 rfl (lv_at hl 2 rfl) ?_
              refine lv_icmp_gt (tgt := 199) hx hb dX6_next_192 (by decide) (fun c_45 => ?_) (fun c_45 => ?_)
              · refine lv_iconst (v := 0) hx hb dX6_next_199 (by decide) ?_
                refine lv_istore_n (lv' := [(2, .int 0), (1, .int 1), (4, .int (jmk 400 m3 m5 b1)), (3, .int (jmk 0 m3 m5 b0)), (0, .ref mo)]) hx hb dX6_next_200 rfl hl (by decide) rfl (fun ls hl => ?_)
                refine lv_iload_n hx hb dX6_next_201 rfl (lv_at hl 1 rfl) ?_
                refine lv_if_eq (tgt := 210) hx hb dX6_next_202 (by decide) (fun c_46 => absurd c_46 (by decide)) (fun c_46 => ?_)
                refine lv_aload_n hx hb dX6_next_205 rfl (lv_at hl 4 rfl) ?_
                refine lv_iconst (v := 0) hx hb dX6_next_206 (by decide) ?_
                refine jw_v (wr := []) (va_runV (As := [.int 0]) (rest := []) ⟨hx, hb, hml, hown, hts⟩ (gM_goes_0 l D cI cL cQ mo g n n2 q1 q3 q4 q5 q6 q11 0 1 gr kd mk (wl + (2)) w13 w14 m3 m5 (nI b1) l2 l3 l4 l5 l6 l7 l8 0 l10 l11 t12 t13 t14 t15 t16 t17 t18 t19 t20 t21 t22 t23 b0 _ (by first | assumption | decide | omega) (by first | assumption | decide | omega) (by rw [nI_leI (by omega) (by omega)] at cl1; omega)) (cwV 1 hts gX6_next_X6_goes rfl rfl rfl (by decide +kernel) ⟨Nat.le_of_ble_eq_true rfl, Nat.le_of_ble_eq_true rfl⟩) (jw_V hK hN hP hD [0, 1, 2, 3, 4] (by decide) rfl 6 0 rfl rfl rfl) rfl rfl hl.1 rfl (lv_room (Nat.le_of_ble_eq_true rfl)) dX6_next_207 ⟨Nat.le_of_ble_eq_true rfl, Nat.le_of_ble_eq_true rfl⟩) hP hD hS hA [0, 1, 2, 3, 4] [] rfl rfl (by decide) (by decide) (fun u H locs f_47 hP hD hS => ?_)
                obtain ⟨to9_48, w9_49, rfl, f_50, f_51⟩ := f_47
                have hP : va_P D vwCl [(mo, .inr (6, [.int 0, .ref q1, .int (nI g), .ref q3, .ref q4, .ref q5, .ref q6, .int 1, .int gr, .int kd, .long w9_49, .ref q11, .int mk, .long w13, .long w14])), (q3, .inl (cI, 800, .inl m3)), (q5, .inl (cI, 800, .inl m5)), (q6, .inl (cI, 2, .inl (jl [nI n, nI n2]))), (q11, .inl (cI, 24, .inl (jl [nI to9_48, (nI b1), nI b0, l3, nI to9_48, l5, nI b0, l7, l8, 0, l10, l11, t12, t13, t14, t15, t16, t17, t18, t19, t20, t21, t22, t23])))] H := hP
                have hD : va_D A [(mo, .inr (6, [.int 0, .ref q1, .int (nI g), .ref q3, .ref q4, .ref q5, .ref q6, .int 1, .int gr, .int kd, .long w9_49, .ref q11, .int mk, .long w13, .long w14])), (q3, .inl (cI, 800, .inl m3)), (q5, .inl (cI, 800, .inl m5)), (q6, .inl (cI, 2, .inl (jl [nI n, nI n2]))), (q11, .inl (cI, 24, .inl (jl [nI to9_48, (nI b1), nI b0, l3, nI to9_48, l5, nI b0, l7, l8, 0, l10, l11, t12, t13, t14, t15, t16, t17, t18, t19, t20, t21, t22, t23])))] := hD
                refine lv_iload_n hx hb dX6_next_210 rfl (lv_at hl 0 rfl) ?_
                refine lv_if_eq (tgt := 219) hx hb dX6_next_211 (by decide) (fun c_52 => ?_) (fun c_52 => absurd c_52 (by decide))
                refine lv_aload_n hx hb dX6_next_219 rfl (lv_at hl 4 rfl) ?_
                refine va_get (D := D) (ci := 6) (v := .ref q11) (C := RX6) (T := TX6) (N := 15) hx hb hts (by decide +kernel) hown hK hP 0 rfl rfl 11 (by decide) (hts (.fieldLink RX6 25 "JoinDeskModel" "at" "[I") (by decide +kernel)) (fun _ h9 => h9) rfl dX6_next_220 ?_
                refine lv_bipush (v := 8) hx hb dX6_next_223 (by decide) ?_
                refine lv_iload_n hx hb dX6_next_225 rfl (lv_at hl 1 rfl) ?_
                refine lv_if_eq (tgt := 237) hx hb dX6_next_226 (by decide) (fun c_53 => absurd c_53 (by decide)) (fun c_53 => ?_)
                refine lv_iload_n hx hb dX6_next_229 rfl (lv_at hl 0 rfl) ?_
                refine lv_if_eq (tgt := 237) hx hb dX6_next_230 (by decide) (fun c_54 => ?_) (fun c_54 => absurd c_54 (by decide))
                refine lv_iload_n hx hb dX6_next_237 rfl (lv_at hl 1 rfl) ?_
                refine lv_if_eq (tgt := 245) hx hb dX6_next_238 (by decide) (fun c_55 => absurd c_55 (by decide)) (fun c_55 => ?_)
                refine lv_iconst (v := 1) hx hb dX6_next_241 (by decide) ?_
                refine lv_goto (tgt := 246) hx hb dX6_next_242 (by decide) ?_
                refine va_iast hx hb hK hP hD hS 4 0 rfl rfl (by unfold vp_in; decide) dX6_next_246 (fun H locs hP hD hS => ?_)
                rw [jl_upd (show (8 : Int32).toNatClampNeg = 8 by decide) (Nat.le_of_ble_eq_true rfl)] at hP hD
                have hP : va_P D vwCl [(mo, .inr (6, [.int 0, .ref q1, .int (nI g), .ref q3, .ref q4, .ref q5, .ref q6, .int 1, .int gr, .int kd, .long w9_49, .ref q11, .int mk, .long w13, .long w14])), (q3, .inl (cI, 800, .inl m3)), (q5, .inl (cI, 800, .inl m5)), (q6, .inl (cI, 2, .inl (jl [nI n, nI n2]))), (q11, .inl (cI, 24, .inl (jl [nI to9_48, (nI b1), nI b0, l3, nI to9_48, l5, nI b0, l7, 1, 0, l10, l11, t12, t13, t14, t15, t16, t17, t18, t19, t20, t21, t22, t23])))] H := hP
                have hD : va_D A [(mo, .inr (6, [.int 0, .ref q1, .int (nI g), .ref q3, .ref q4, .ref q5, .ref q6, .int 1, .int gr, .int kd, .long w9_49, .ref q11, .int mk, .long w13, .long w14])), (q3, .inl (cI, 800, .inl m3)), (q5, .inl (cI, 800, .inl m5)), (q6, .inl (cI, 2, .inl (jl [nI n, nI n2]))), (q11, .inl (cI, 24, .inl (jl [nI to9_48, (nI b1), nI b0, l3, nI to9_48, l5, nI b0, l7, 1, 0, l10, l11, t12, t13, t14, t15, t16, t17, t18, t19, t20, t21, t22, t23])))] := hD
                refine lv_aload_n hx hb dX6_next_247 rfl (lv_at hl 4 rfl) ?_
                refine va_get (D := D) (ci := 6) (v := .int kd) (C := RX6) (T := TX6) (N := 15) hx hb hts (by decide +kernel) hown hK hP 0 rfl rfl 9 (by decide) (hts (.fieldLink RX6 60 "JoinDeskModel" "kind" "I") (by decide +kernel)) (fun _ h9 => h9) rfl dX6_next_248 ?_
                refine lv_aload_n hx hb dX6_next_251 rfl (lv_at hl 4 rfl) ?_
                refine va_get (D := D) (ci := 6) (v := .ref q11) (C := RX6) (T := TX6) (N := 15) hx hb hts (by decide +kernel) hown hK hP 0 rfl rfl 11 (by decide) (hts (.fieldLink RX6 25 "JoinDeskModel" "at" "[I") (by decide +kernel)) (fun _ h9 => h9) rfl dX6_next_252 ?_
                refine lv_bipush (v := 8) hx hb dX6_next_255 (by decide) ?_
                refine va_iald hx hb hK hP 4 0 rfl rfl (by unfold vp_in; decide) dX6_next_257 ?_
                refine W.eq (g2 := F0 m 258 ls [.int 1, .int kd]) rfl ?_
                refine vp_callSi (va_Run.run (va_runS (As := [.int kd, .int 1]) (rest := []) ⟨hx, hb, hml, hown, hts⟩ (gM_tells_1 l D cI cL cQ kd (by first | assumption | decide | omega)) (va_cwS 2 hts gX6_next_X6_tells rfl rfl rfl (by decide +kernel) ⟨Nat.le_of_ble_eq_true rfl, Nat.le_of_ble_eq_true rfl⟩) (jr_S hK hN hP [] rfl) rfl rfl hl.1 rfl (lv_room (Nat.le_of_ble_eq_true rfl)) dX6_next_258 ⟨Nat.le_of_ble_eq_true rfl, Nat.le_of_ble_eq_true rfl⟩)) (fun r f_56 => ?_)
                rcases f_56 with ⟨rfl, f_57⟩ | ⟨rfl, f_58⟩
                · refine lv_if_eq (tgt := 285) hx hb dX6_next_261 (by decide) (fun c_59 => absurd c_59 (by decide)) (fun c_59 => ?_)
                  refine lv_aload_n hx hb dX6_next_264 rfl (lv_at hl 4 rfl) ?_
                  refine va_get (D := D) (ci := 6) (v := .ref q11) (C := RX6) (T := TX6) (N := 15) hx hb hts (by decide +kernel) hown hK hP 0 rfl rfl 11 (by decide) (hts (.fieldLink RX6 25 "JoinDeskModel" "at" "[I") (by decide +kernel)) (fun _ h9 => h9) rfl dX6_next_265 ?_
                  refine lv_bipush (v := 9) hx hb dX6_next_268 (by decide) ?_
                  refine lv_iconst (v := 1) hx hb dX6_next_270 (by decide) ?_
                  refine va_iast hx hb hK hP hD hS 4 0 rfl rfl (by unfold vp_in; decide) dX6_next_271 (fun H locs hP hD hS => ?_)
                  rw [jl_upd (show (9 : Int32).toNatClampNeg = 9 by decide) (Nat.le_of_ble_eq_true rfl)] at hP hD
                  have hP : va_P D vwCl [(mo, .inr (6, [.int 0, .ref q1, .int (nI g), .ref q3, .ref q4, .ref q5, .ref q6, .int 1, .int gr, .int kd, .long w9_49, .ref q11, .int mk, .long w13, .long w14])), (q3, .inl (cI, 800, .inl m3)), (q5, .inl (cI, 800, .inl m5)), (q6, .inl (cI, 2, .inl (jl [nI n, nI n2]))), (q11, .inl (cI, 24, .inl (jl [nI to9_48, (nI b1), nI b0, l3, nI to9_48, l5, nI b0, l7, 1, 1, l10, l11, t12, t13, t14, t15, t16, t17, t18, t19, t20, t21, t22, t23])))] H := hP
                  have hD : va_D A [(mo, .inr (6, [.int 0, .ref q1, .int (nI g), .ref q3, .ref q4, .ref q5, .ref q6, .int 1, .int gr, .int kd, .long w9_49, .ref q11, .int mk, .long w13, .long w14])), (q3, .inl (cI, 800, .inl m3)), (q5, .inl (cI, 800, .inl m5)), (q6, .inl (cI, 2, .inl (jl [nI n, nI n2]))), (q11, .inl (cI, 24, .inl (jl [nI to9_48, (nI b1), nI b0, l3, nI to9_48, l5, nI b0, l7, 1, 1, l10, l11, t12, t13, t14, t15, t16, t17, t18, t19, t20, t21, t22, t23])))] := hD
                  refine lv_aload_n hx hb dX6_next_272 rfl (lv_at hl 4 rfl) ?_
                  refine va_get (D := D) (ci := 6) (v := .ref q11) (C := RX6) (T := TX6) (N := 15) hx hb hts (by decide +kernel) hown hK hP 0 rfl rfl 11 (by decide) (hts (.fieldLink RX6 25 "JoinDeskModel" "at" "[I") (by decide +kernel)) (fun _ h9 => h9) rfl dX6_next_273 ?_
                  refine lv_bipush (v := 10) hx hb dX6_next_276 (by decide) ?_
                  refine lv_dup2_11 hx hb dX6_next_278 rfl rfl ?_
                  refine va_iald hx hb hK hP 4 0 rfl rfl (by unfold vp_in; decide) dX6_next_279 ?_
                  refine W.eq (g2 := F0 m 280 ls [.int l10, .int 10, .ref q11]) rfl ?_
                  refine lv_iconst (v := 1) hx hb dX6_next_280 (by decide) ?_
                  refine lv_iadd hx hb dX6_next_281 ?_
                  refine va_iast hx hb hK hP hD hS 4 0 rfl rfl (by unfold vp_in; decide) dX6_next_282 (fun H locs hP hD hS => ?_)
                  rw [jl_upd (show (10 : Int32).toNatClampNeg = 10 by decide) (Nat.le_of_ble_eq_true rfl)] at hP hD
                  have hP : va_P D vwCl [(mo, .inr (6, [.int 0, .ref q1, .int (nI g), .ref q3, .ref q4, .ref q5, .ref q6, .int 1, .int gr, .int kd, .long w9_49, .ref q11, .int mk, .long w13, .long w14])), (q3, .inl (cI, 800, .inl m3)), (q5, .inl (cI, 800, .inl m5)), (q6, .inl (cI, 2, .inl (jl [nI n, nI n2]))), (q11, .inl (cI, 24, .inl (jl [nI to9_48, (nI b1), nI b0, l3, nI to9_48, l5, nI b0, l7, 1, 1, l10 + 1, l11, t12, t13, t14, t15, t16, t17, t18, t19, t20, t21, t22, t23])))] H := hP
                  have hD : va_D A [(mo, .inr (6, [.int 0, .ref q1, .int (nI g), .ref q3, .ref q4, .ref q5, .ref q6, .int 1, .int gr, .int kd, .long w9_49, .ref q11, .int mk, .long w13, .long w14])), (q3, .inl (cI, 800, .inl m3)), (q5, .inl (cI, 800, .inl m5)), (q6, .inl (cI, 2, .inl (jl [nI n, nI n2]))), (q11, .inl (cI, 24, .inl (jl [nI to9_48, (nI b1), nI b0, l3, nI to9_48, l5, nI b0, l7, 1, 1, l10 + 1, l11, t12, t13, t14, t15, t16, t17, t18, t19, t20, t21, t22, t23])))] := hD
                  refine lv_iconst (v := 1) hx hb dX6_next_283 (by decide) ?_
                  refine W.widen (k := 0) (n := 0) (by omega) (by omega) ?_
                  exact W.zret (v := 1) (ty := .boolean) hx hb hr rfl (fun t ht hW => ⟨⟨1, [(mo, .inr (6, [.int 0, .ref q1, .int (nI g), .ref q3, .ref q4, .ref q5, .ref q6, .int 1, .int gr, .int kd, .long w9_49, .ref q11, .int mk, .long w13, .long w14])), (q3, .inl (cI, 800, .inl m3)), (q5, .inl (cI, 800, .inl m5)), (q6, .inl (cI, 2, .inl (jl [nI n, nI n2]))), (q11, .inl (cI, 24, .inl (jl [nI to9_48, (nI b1), nI b0, l3, nI to9_48, l5, nI b0, l7, 1, 1, l10 + 1, l11, t12, t13, t14, t15, t16, t17, t18, t19, t20, t21, t22, t23])))], rfl, (by exact (Or.inr (Or.inl ⟨_, _, _, _, _, _, _, _, _, _, _, rfl, rfl, by omega, by omega, by omega, by omega⟩))), by rw [ht]; exact hP, hD⟩, hS.F ht⟩) hS.2.2 dX6_next_284
                · refine lv_if_eq (tgt := 285) hx hb dX6_next_261 (by decide) (fun c_60 => ?_) (fun c_60 => absurd c_60 (by decide))
                  refine lv_goto (tgt := 60) hx hb dX6_next_285 (by decide) ?_
                  exact ih_1 to9_48 b1 (nI b0) l3 (nI to9_48) l5 (nI b0) l7 1 l10 l11 w9_49 (by omega) (by omega) (by omega) _ _ hP hD hS ls (lv_sub hl [4] rfl)
              · refine lv_iconst (v := 1) hx hb dX6_next_195 (by decide) ?_
                refine lv_goto (tgt := 200) hx hb dX6_next_196 (by decide) ?_
                refine lv_istore_n (lv' := [(2, .int 1), (1, .int 1), (4, .int (jmk 400 m3 m5 b1)), (3, .int (jmk 0 m3 m5 b0)), (0, .ref mo)]) hx hb dX6_next_200 rfl hl (by decide) rfl (fun ls hl => ?_)
                refine lv_iload_n hx hb dX6_next_201 rfl (lv_at hl 1 rfl) ?_
                refine lv_if_eq (tgt := 210) hx hb dX6_next_202 (by decide) (fun c_61 => absurd c_61 (by decide)) (fun c_61 => ?_)
                refine lv_aload_n hx hb dX6_next_205 rfl (lv_at hl 4 rfl) ?_
                refine lv_iconst (v := 0) hx hb dX6_next_206 (by decide) ?_
                refine jw_v (wr := []) (va_runV (As := [.int 0]) (rest := []) ⟨hx, hb, hml, hown, hts⟩ (gM_goes_0 l D cI cL cQ mo g n n2 q1 q3 q4 q5 q6 q11 0 1 gr kd mk (wl + (2)) w13 w14 m3 m5 (nI b1) l2 l3 l4 l5 l6 l7 l8 0 l10 l11 t12 t13 t14 t15 t16 t17 t18 t19 t20 t21 t22 t23 b0 _ (by first | assumption | decide | omega) (by first | assumption | decide | omega) (by rw [nI_leI (by omega) (by omega)] at cl1; omega)) (cwV 1 hts gX6_next_X6_goes rfl rfl rfl (by decide +kernel) ⟨Nat.le_of_ble_eq_true rfl, Nat.le_of_ble_eq_true rfl⟩) (jw_V hK hN hP hD [0, 1, 2, 3, 4] (by decide) rfl 6 0 rfl rfl rfl) rfl rfl hl.1 rfl (lv_room (Nat.le_of_ble_eq_true rfl)) dX6_next_207 ⟨Nat.le_of_ble_eq_true rfl, Nat.le_of_ble_eq_true rfl⟩) hP hD hS hA [0, 1, 2, 3, 4] [] rfl rfl (by decide) (by decide) (fun u H locs f_62 hP hD hS => ?_)
                obtain ⟨to9_63, w9_64, rfl, f_65, f_66⟩ := f_62
                have hP : va_P D vwCl [(mo, .inr (6, [.int 0, .ref q1, .int (nI g), .ref q3, .ref q4, .ref q5, .ref q6, .int 1, .int gr, .int kd, .long w9_64, .ref q11, .int mk, .long w13, .long w14])), (q3, .inl (cI, 800, .inl m3)), (q5, .inl (cI, 800, .inl m5)), (q6, .inl (cI, 2, .inl (jl [nI n, nI n2]))), (q11, .inl (cI, 24, .inl (jl [nI to9_63, (nI b1), nI b0, l3, nI to9_63, l5, nI b0, l7, l8, 0, l10, l11, t12, t13, t14, t15, t16, t17, t18, t19, t20, t21, t22, t23])))] H := hP
                have hD : va_D A [(mo, .inr (6, [.int 0, .ref q1, .int (nI g), .ref q3, .ref q4, .ref q5, .ref q6, .int 1, .int gr, .int kd, .long w9_64, .ref q11, .int mk, .long w13, .long w14])), (q3, .inl (cI, 800, .inl m3)), (q5, .inl (cI, 800, .inl m5)), (q6, .inl (cI, 2, .inl (jl [nI n, nI n2]))), (q11, .inl (cI, 24, .inl (jl [nI to9_63, (nI b1), nI b0, l3, nI to9_63, l5, nI b0, l7, l8, 0, l10, l11, t12, t13, t14, t15, t16, t17, t18, t19, t20, t21, t22, t23])))] := hD
                refine lv_iload_n hx hb dX6_next_210 rfl (lv_at hl 0 rfl) ?_
                refine lv_if_eq (tgt := 219) hx hb dX6_next_211 (by decide) (fun c_67 => absurd c_67 (by decide)) (fun c_67 => ?_)
                refine lv_aload_n hx hb dX6_next_214 rfl (lv_at hl 4 rfl) ?_
                refine lv_iconst (v := 1) hx hb dX6_next_215 (by decide) ?_
                refine jw_v (wr := []) (va_runV (As := [.int 1]) (rest := []) ⟨hx, hb, hml, hown, hts⟩ (gM_goes_1 l D cI cL cQ mo g n n2 q1 q3 q4 q5 q6 q11 0 1 gr kd mk w9_64 w13 w14 m3 m5 (nI to9_63) (nI b0) l3 (nI to9_63) l5 (nI b0) l7 l8 0 l10 l11 t12 t13 t14 t15 t16 t17 t18 t19 t20 t21 t22 t23 b1 _ (by first | assumption | decide | omega) (by first | assumption | decide | omega) (by rw [nI_leI (by omega) (by omega)] at cr1; omega)) (cwV 1 hts gX6_next_X6_goes rfl rfl rfl (by decide +kernel) ⟨Nat.le_of_ble_eq_true rfl, Nat.le_of_ble_eq_true rfl⟩) (jw_V hK hN hP hD [0, 1, 2, 3, 4] (by decide) rfl 6 0 rfl rfl rfl) rfl rfl hl.1 rfl (lv_room (Nat.le_of_ble_eq_true rfl)) dX6_next_216 ⟨Nat.le_of_ble_eq_true rfl, Nat.le_of_ble_eq_true rfl⟩) hP hD hS hA [0, 1, 2, 3, 4] [] rfl rfl (by decide) (by decide) (fun u H locs f_68 hP hD hS => ?_)
                obtain ⟨to9_69, w9_70, rfl, f_71, f_72⟩ := f_68
                have hP : va_P D vwCl [(mo, .inr (6, [.int 0, .ref q1, .int (nI g), .ref q3, .ref q4, .ref q5, .ref q6, .int 1, .int gr, .int kd, .long w9_70, .ref q11, .int mk, .long w13, .long w14])), (q3, .inl (cI, 800, .inl m3)), (q5, .inl (cI, 800, .inl m5)), (q6, .inl (cI, 2, .inl (jl [nI n, nI n2]))), (q11, .inl (cI, 24, .inl (jl [(nI to9_63), nI to9_69, (nI b0), nI b1, (nI to9_63), nI to9_69, (nI b0), nI b1, l8, 0, l10, l11, t12, t13, t14, t15, t16, t17, t18, t19, t20, t21, t22, t23])))] H := hP
                have hD : va_D A [(mo, .inr (6, [.int 0, .ref q1, .int (nI g), .ref q3, .ref q4, .ref q5, .ref q6, .int 1, .int gr, .int kd, .long w9_70, .ref q11, .int mk, .long w13, .long w14])), (q3, .inl (cI, 800, .inl m3)), (q5, .inl (cI, 800, .inl m5)), (q6, .inl (cI, 2, .inl (jl [nI n, nI n2]))), (q11, .inl (cI, 24, .inl (jl [(nI to9_63), nI to9_69, (nI b0), nI b1, (nI to9_63), nI to9_69, (nI b0), nI b1, l8, 0, l10, l11, t12, t13, t14, t15, t16, t17, t18, t19, t20, t21, t22, t23])))] := hD
                refine lv_aload_n hx hb dX6_next_219 rfl (lv_at hl 4 rfl) ?_
                refine va_get (D := D) (ci := 6) (v := .ref q11) (C := RX6) (T := TX6) (N := 15) hx hb hts (by decide +kernel) hown hK hP 0 rfl rfl 11 (by decide) (hts (.fieldLink RX6 25 "JoinDeskModel" "at" "[I") (by decide +kernel)) (fun _ h9 => h9) rfl dX6_next_220 ?_
                refine lv_bipush (v := 8) hx hb dX6_next_223 (by decide) ?_
                refine lv_iload_n hx hb dX6_next_225 rfl (lv_at hl 1 rfl) ?_
                refine lv_if_eq (tgt := 237) hx hb dX6_next_226 (by decide) (fun c_73 => absurd c_73 (by decide)) (fun c_73 => ?_)
                refine lv_iload_n hx hb dX6_next_229 rfl (lv_at hl 0 rfl) ?_
                refine lv_if_eq (tgt := 237) hx hb dX6_next_230 (by decide) (fun c_74 => absurd c_74 (by decide)) (fun c_74 => ?_)
                refine lv_iconst (v := 0) hx hb dX6_next_233 (by decide) ?_
                refine lv_goto (tgt := 246) hx hb dX6_next_234 (by decide) ?_
                refine va_iast hx hb hK hP hD hS 4 0 rfl rfl (by unfold vp_in; decide) dX6_next_246 (fun H locs hP hD hS => ?_)
                rw [jl_upd (show (8 : Int32).toNatClampNeg = 8 by decide) (Nat.le_of_ble_eq_true rfl)] at hP hD
                have hP : va_P D vwCl [(mo, .inr (6, [.int 0, .ref q1, .int (nI g), .ref q3, .ref q4, .ref q5, .ref q6, .int 1, .int gr, .int kd, .long w9_70, .ref q11, .int mk, .long w13, .long w14])), (q3, .inl (cI, 800, .inl m3)), (q5, .inl (cI, 800, .inl m5)), (q6, .inl (cI, 2, .inl (jl [nI n, nI n2]))), (q11, .inl (cI, 24, .inl (jl [(nI to9_63), nI to9_69, (nI b0), nI b1, (nI to9_63), nI to9_69, (nI b0), nI b1, 0, 0, l10, l11, t12, t13, t14, t15, t16, t17, t18, t19, t20, t21, t22, t23])))] H := hP
                have hD : va_D A [(mo, .inr (6, [.int 0, .ref q1, .int (nI g), .ref q3, .ref q4, .ref q5, .ref q6, .int 1, .int gr, .int kd, .long w9_70, .ref q11, .int mk, .long w13, .long w14])), (q3, .inl (cI, 800, .inl m3)), (q5, .inl (cI, 800, .inl m5)), (q6, .inl (cI, 2, .inl (jl [nI n, nI n2]))), (q11, .inl (cI, 24, .inl (jl [(nI to9_63), nI to9_69, (nI b0), nI b1, (nI to9_63), nI to9_69, (nI b0), nI b1, 0, 0, l10, l11, t12, t13, t14, t15, t16, t17, t18, t19, t20, t21, t22, t23])))] := hD
                refine lv_aload_n hx hb dX6_next_247 rfl (lv_at hl 4 rfl) ?_
                refine va_get (D := D) (ci := 6) (v := .int kd) (C := RX6) (T := TX6) (N := 15) hx hb hts (by decide +kernel) hown hK hP 0 rfl rfl 9 (by decide) (hts (.fieldLink RX6 60 "JoinDeskModel" "kind" "I") (by decide +kernel)) (fun _ h9 => h9) rfl dX6_next_248 ?_
                refine lv_aload_n hx hb dX6_next_251 rfl (lv_at hl 4 rfl) ?_
                refine va_get (D := D) (ci := 6) (v := .ref q11) (C := RX6) (T := TX6) (N := 15) hx hb hts (by decide +kernel) hown hK hP 0 rfl rfl 11 (by decide) (hts (.fieldLink RX6 25 "JoinDeskModel" "at" "[I") (by decide +kernel)) (fun _ h9 => h9) rfl dX6_next_252 ?_
                refine lv_bipush (v := 8) hx hb dX6_next_255 (by decide) ?_
                refine va_iald hx hb hK hP 4 0 rfl rfl (by unfold vp_in; decide) dX6_next_257 ?_
                refine W.eq (g2 := F0 m 258 ls [.int 0, .int kd]) rfl ?_
                refine vp_callSi (va_Run.run (va_runS (As := [.int kd, .int 0]) (rest := []) ⟨hx, hb, hml, hown, hts⟩ (gM_tells_0 l D cI cL cQ kd) (va_cwS 2 hts gX6_next_X6_tells rfl rfl rfl (by decide +kernel) ⟨Nat.le_of_ble_eq_true rfl, Nat.le_of_ble_eq_true rfl⟩) (jr_S hK hN hP [] rfl) rfl rfl hl.1 rfl (lv_room (Nat.le_of_ble_eq_true rfl)) dX6_next_258 ⟨Nat.le_of_ble_eq_true rfl, Nat.le_of_ble_eq_true rfl⟩)) (fun r f_75 => ?_)
                obtain rfl := f_75
                refine lv_if_eq (tgt := 285) hx hb dX6_next_261 (by decide) (fun c_76 => absurd c_76 (by decide)) (fun c_76 => ?_)
                refine lv_aload_n hx hb dX6_next_264 rfl (lv_at hl 4 rfl) ?_
                refine va_get (D := D) (ci := 6) (v := .ref q11) (C := RX6) (T := TX6) (N := 15) hx hb hts (by decide +kernel) hown hK hP 0 rfl rfl 11 (by decide) (hts (.fieldLink RX6 25 "JoinDeskModel" "at" "[I") (by decide +kernel)) (fun _ h9 => h9) rfl dX6_next_265 ?_
                refine lv_bipush (v := 9) hx hb dX6_next_268 (by decide) ?_
                refine lv_iconst (v := 1) hx hb dX6_next_270 (by decide) ?_
                refine va_iast hx hb hK hP hD hS 4 0 rfl rfl (by unfold vp_in; decide) dX6_next_271 (fun H locs hP hD hS => ?_)
                rw [jl_upd (show (9 : Int32).toNatClampNeg = 9 by decide) (Nat.le_of_ble_eq_true rfl)] at hP hD
                have hP : va_P D vwCl [(mo, .inr (6, [.int 0, .ref q1, .int (nI g), .ref q3, .ref q4, .ref q5, .ref q6, .int 1, .int gr, .int kd, .long w9_70, .ref q11, .int mk, .long w13, .long w14])), (q3, .inl (cI, 800, .inl m3)), (q5, .inl (cI, 800, .inl m5)), (q6, .inl (cI, 2, .inl (jl [nI n, nI n2]))), (q11, .inl (cI, 24, .inl (jl [(nI to9_63), nI to9_69, (nI b0), nI b1, (nI to9_63), nI to9_69, (nI b0), nI b1, 0, 1, l10, l11, t12, t13, t14, t15, t16, t17, t18, t19, t20, t21, t22, t23])))] H := hP
                have hD : va_D A [(mo, .inr (6, [.int 0, .ref q1, .int (nI g), .ref q3, .ref q4, .ref q5, .ref q6, .int 1, .int gr, .int kd, .long w9_70, .ref q11, .int mk, .long w13, .long w14])), (q3, .inl (cI, 800, .inl m3)), (q5, .inl (cI, 800, .inl m5)), (q6, .inl (cI, 2, .inl (jl [nI n, nI n2]))), (q11, .inl (cI, 24, .inl (jl [(nI to9_63), nI to9_69, (nI b0), nI b1, (nI to9_63), nI to9_69, (nI b0), nI b1, 0, 1, l10, l11, t12, t13, t14, t15, t16, t17, t18, t19, t20, t21, t22, t23])))] := hD
                refine lv_aload_n hx hb dX6_next_272 rfl (lv_at hl 4 rfl) ?_
                refine va_get (D := D) (ci := 6) (v := .ref q11) (C := RX6) (T := TX6) (N := 15) hx hb hts (by decide +kernel) hown hK hP 0 rfl rfl 11 (by decide) (hts (.fieldLink RX6 25 "JoinDeskModel" "at" "[I") (by decide +kernel)) (fun _ h9 => h9) rfl dX6_next_273 ?_
                refine lv_bipush (v := 10) hx hb dX6_next_276 (by decide) ?_
                refine lv_dup2_11 hx hb dX6_next_278 rfl rfl ?_
                refine va_iald hx hb hK hP 4 0 rfl rfl (by unfold vp_in; decide) dX6_next_279 ?_
                refine W.eq (g2 := F0 m 280 ls [.int l10, .int 10, .ref q11]) rfl ?_
                refine lv_iconst (v := 1) hx hb dX6_next_280 (by decide) ?_
                refine lv_iadd hx hb dX6_next_281 ?_
                refine va_iast hx hb hK hP hD hS 4 0 rfl rfl (by unfold vp_in; decide) dX6_next_282 (fun H locs hP hD hS => ?_)
                rw [jl_upd (show (10 : Int32).toNatClampNeg = 10 by decide) (Nat.le_of_ble_eq_true rfl)] at hP hD
                have hP : va_P D vwCl [(mo, .inr (6, [.int 0, .ref q1, .int (nI g), .ref q3, .ref q4, .ref q5, .ref q6, .int 1, .int gr, .int kd, .long w9_70, .ref q11, .int mk, .long w13, .long w14])), (q3, .inl (cI, 800, .inl m3)), (q5, .inl (cI, 800, .inl m5)), (q6, .inl (cI, 2, .inl (jl [nI n, nI n2]))), (q11, .inl (cI, 24, .inl (jl [(nI to9_63), nI to9_69, (nI b0), nI b1, (nI to9_63), nI to9_69, (nI b0), nI b1, 0, 1, l10 + 1, l11, t12, t13, t14, t15, t16, t17, t18, t19, t20, t21, t22, t23])))] H := hP
                have hD : va_D A [(mo, .inr (6, [.int 0, .ref q1, .int (nI g), .ref q3, .ref q4, .ref q5, .ref q6, .int 1, .int gr, .int kd, .long w9_70, .ref q11, .int mk, .long w13, .long w14])), (q3, .inl (cI, 800, .inl m3)), (q5, .inl (cI, 800, .inl m5)), (q6, .inl (cI, 2, .inl (jl [nI n, nI n2]))), (q11, .inl (cI, 24, .inl (jl [(nI to9_63), nI to9_69, (nI b0), nI b1, (nI to9_63), nI to9_69, (nI b0), nI b1, 0, 1, l10 + 1, l11, t12, t13, t14, t15, t16, t17, t18, t19, t20, t21, t22, t23])))] := hD
                refine lv_iconst (v := 1) hx hb dX6_next_283 (by decide) ?_
                refine W.widen (k := 0) (n := 0) (by omega) (by omega) ?_
                exact W.zret (v := 1) (ty := .boolean) hx hb hr rfl (fun t ht hW => ⟨⟨1, [(mo, .inr (6, [.int 0, .ref q1, .int (nI g), .ref q3, .ref q4, .ref q5, .ref q6, .int 1, .int gr, .int kd, .long w9_70, .ref q11, .int mk, .long w13, .long w14])), (q3, .inl (cI, 800, .inl m3)), (q5, .inl (cI, 800, .inl m5)), (q6, .inl (cI, 2, .inl (jl [nI n, nI n2]))), (q11, .inl (cI, 24, .inl (jl [(nI to9_63), nI to9_69, (nI b0), nI b1, (nI to9_63), nI to9_69, (nI b0), nI b1, 0, 1, l10 + 1, l11, t12, t13, t14, t15, t16, t17, t18, t19, t20, t21, t22, t23])))], rfl, (by exact (Or.inl ⟨_, _, _, _, _, _, _, _, _, _, _, rfl, rfl, by omega, by omega, by omega, by omega, by omega, by omega, by omega⟩)), by rw [ht]; exact hP, hD⟩, hS.F ht⟩) hS.2.2 dX6_next_284
        · refine lv_aload_n hx hb dX6_next_75 rfl (lv_at hl 0 rfl) ?_
          refine va_get (D := D) (ci := 6) (v := .ref q11) (C := RX6) (T := TX6) (N := 15) hx hb hts (by decide +kernel) hown hK hP 0 rfl rfl 11 (by decide) (hts (.fieldLink RX6 25 "JoinDeskModel" "at" "[I") (by decide +kernel)) (fun _ h9 => h9) rfl dX6_next_76 ?_
          refine lv_iconst (v := 1) hx hb dX6_next_79 (by decide) ?_
          refine va_iald hx hb hK hP 4 0 rfl rfl (by unfold vp_in; decide) dX6_next_80 ?_
          refine W.eq (g2 := F0 m 81 ls [.int (nI b1)]) rfl ?_
          refine lv_aload_n hx hb dX6_next_81 rfl (lv_at hl 0 rfl) ?_
          refine va_get (D := D) (ci := 6) (v := .ref q6) (C := RX6) (T := TX6) (N := 15) hx hb hts (by decide +kernel) hown hK hP 0 rfl rfl 6 (by decide) (hts (.fieldLink RX6 22 "JoinDeskModel" "many" "[I") (by decide +kernel)) (fun _ h9 => h9) rfl dX6_next_82 ?_
          refine lv_iconst (v := 1) hx hb dX6_next_85 (by decide) ?_
          refine va_iald hx hb hK hP 3 0 rfl rfl (by unfold vp_in; decide) dX6_next_86 ?_
          refine W.eq (g2 := F0 m 87 ls [.int (nI n2), .int (nI b1)]) rfl ?_
          refine lv_icmp_ge (tgt := 288) hx hb dX6_next_87 (by decide) (fun cr0 => ?_) (fun cr0 => ?_)
          · refine lv_iconst (v := 0) hx hb dX6_next_288 (by decide) ?_
            refine W.widen (k := 0) (n := 0) (by omega) (by omega) ?_
            exact W.zret (v := 0) (ty := .boolean) hx hb hr rfl (fun t ht hW => ⟨⟨0, [(mo, .inr (6, [.int 0, .ref q1, .int (nI g), .ref q3, .ref q4, .ref q5, .ref q6, .int 1, .int gr, .int kd, .long wl, .ref q11, .int mk, .long w13, .long w14])), (q3, .inl (cI, 800, .inl m3)), (q5, .inl (cI, 800, .inl m5)), (q6, .inl (cI, 2, .inl (jl [nI n, nI n2]))), (q11, .inl (cI, 24, .inl (jl [nI b0, nI b1, l2, l3, l4, l5, l6, l7, l8, 0, l10, l11, t12, t13, t14, t15, t16, t17, t18, t19, t20, t21, t22, t23])))], rfl, (by exact (Or.inr (Or.inr (Or.inr (⟨_, _, _, _, _, _, _, _, _, _, _, _, rfl, rfl, by omega, by omega⟩))))), by rw [ht]; exact hP, hD⟩, hS.F ht⟩) hS.2.2 dX6_next_289
          · refine lv_aload_n hx hb dX6_next_90 rfl (lv_at hl 0 rfl) ?_
            refine va_get (D := D) (ci := 6) (v := .ref q11) (C := RX6) (T := TX6) (N := 15) hx hb hts (by decide +kernel) hown hK hP 0 rfl rfl 11 (by decide) (hts (.fieldLink RX6 25 "JoinDeskModel" "at" "[I") (by decide +kernel)) (fun _ h9 => h9) rfl dX6_next_91 ?_
            refine lv_iconst (v := 0) hx hb dX6_next_94 (by decide) ?_
            refine va_iald hx hb hK hP 4 0 rfl rfl (by unfold vp_in; decide) dX6_next_95 ?_
            refine W.eq (g2 := F0 m 96 ls [.int (nI b0)]) rfl ?_
            refine lv_aload_n hx hb dX6_next_96 rfl (lv_at hl 0 rfl) ?_
            refine va_get (D := D) (ci := 6) (v := .ref q6) (C := RX6) (T := TX6) (N := 15) hx hb hts (by decide +kernel) hown hK hP 0 rfl rfl 6 (by decide) (hts (.fieldLink RX6 22 "JoinDeskModel" "many" "[I") (by decide +kernel)) (fun _ h9 => h9) rfl dX6_next_97 ?_
            refine lv_iconst (v := 0) hx hb dX6_next_100 (by decide) ?_
            refine va_iald hx hb hK hP 3 0 rfl rfl (by unfold vp_in; decide) dX6_next_101 ?_
            refine W.eq (g2 := F0 m 102 ls [.int (nI n), .int (nI b0)]) rfl ?_
            refine lv_icmp_ge (tgt := 109) hx hb dX6_next_102 (by decide) (fun cl1 => ?_) (fun cl1 => absurd cl1 (by exact fun h => h (by rw [nI_leI (by omega) (by omega)]; rw [nI_ltI (by omega) (by omega)] at cl0; omega)))
            refine lv_iconst (v := 0) hx hb dX6_next_109 (by decide) ?_
            refine lv_istore_n (lv' := [(1, .int 0), (0, .ref mo)]) hx hb dX6_next_110 rfl hl (by decide) rfl (fun ls hl => ?_)
            refine lv_aload_n hx hb dX6_next_111 rfl (lv_at hl 1 rfl) ?_
            refine va_get (D := D) (ci := 6) (v := .ref q11) (C := RX6) (T := TX6) (N := 15) hx hb hts (by decide +kernel) hown hK hP 0 rfl rfl 11 (by decide) (hts (.fieldLink RX6 25 "JoinDeskModel" "at" "[I") (by decide +kernel)) (fun _ h9 => h9) rfl dX6_next_112 ?_
            refine lv_iconst (v := 1) hx hb dX6_next_115 (by decide) ?_
            refine va_iald hx hb hK hP 4 0 rfl rfl (by unfold vp_in; decide) dX6_next_116 ?_
            refine W.eq (g2 := F0 m 117 ls [.int (nI b1)]) rfl ?_
            refine lv_aload_n hx hb dX6_next_117 rfl (lv_at hl 1 rfl) ?_
            refine va_get (D := D) (ci := 6) (v := .ref q6) (C := RX6) (T := TX6) (N := 15) hx hb hts (by decide +kernel) hown hK hP 0 rfl rfl 6 (by decide) (hts (.fieldLink RX6 22 "JoinDeskModel" "many" "[I") (by decide +kernel)) (fun _ h9 => h9) rfl dX6_next_118 ?_
            refine lv_iconst (v := 1) hx hb dX6_next_121 (by decide) ?_
            refine va_iald hx hb hK hP 3 0 rfl rfl (by unfold vp_in; decide) dX6_next_122 ?_
            refine W.eq (g2 := F0 m 123 ls [.int (nI n2), .int (nI b1)]) rfl ?_
            refine lv_icmp_ge (tgt := 130) hx hb dX6_next_123 (by decide) (fun cr1 => absurd cr1 (by exact cr0)) (fun cr1 => ?_)
            refine lv_iconst (v := 1) hx hb dX6_next_126 (by decide) ?_
            refine lv_goto (tgt := 131) hx hb dX6_next_127 (by decide) ?_
            refine lv_istore_n (lv' := [(2, .int 1), (1, .int 0), (0, .ref mo)]) hx hb dX6_next_131 rfl hl (by decide) rfl (fun ls hl => ?_)
            refine lv_iload_n hx hb dX6_next_132 rfl (lv_at hl 1 rfl) ?_
            refine lv_if_eq (tgt := 201) hx hb dX6_next_133 (by decide) (fun c_77 => ?_) (fun c_77 => absurd c_77 (by decide))
            refine lv_iload_n hx hb dX6_next_201 rfl (lv_at hl 1 rfl) ?_
            refine lv_if_eq (tgt := 210) hx hb dX6_next_202 (by decide) (fun c_78 => ?_) (fun c_78 => absurd c_78 (by decide))
            refine lv_iload_n hx hb dX6_next_210 rfl (lv_at hl 0 rfl) ?_
            refine lv_if_eq (tgt := 219) hx hb dX6_next_211 (by decide) (fun c_79 => absurd c_79 (by decide)) (fun c_79 => ?_)
            refine lv_aload_n hx hb dX6_next_214 rfl (lv_at hl 2 rfl) ?_
            refine lv_iconst (v := 1) hx hb dX6_next_215 (by decide) ?_
            refine jw_v (wr := []) (va_runV (As := [.int 1]) (rest := []) ⟨hx, hb, hml, hown, hts⟩ (gM_goes_1 l D cI cL cQ mo g n n2 q1 q3 q4 q5 q6 q11 0 1 gr kd mk wl w13 w14 m3 m5 (nI b0) l2 l3 l4 l5 l6 l7 l8 0 l10 l11 t12 t13 t14 t15 t16 t17 t18 t19 t20 t21 t22 t23 b1 _ (by first | assumption | decide | omega) (by first | assumption | decide | omega) (by rw [nI_leI (by omega) (by omega)] at cr1; omega)) (cwV 1 hts gX6_next_X6_goes rfl rfl rfl (by decide +kernel) ⟨Nat.le_of_ble_eq_true rfl, Nat.le_of_ble_eq_true rfl⟩) (jw_V hK hN hP hD [0, 1, 2, 3, 4] (by decide) rfl 6 0 rfl rfl rfl) rfl rfl hl.1 rfl (lv_room (Nat.le_of_ble_eq_true rfl)) dX6_next_216 ⟨Nat.le_of_ble_eq_true rfl, Nat.le_of_ble_eq_true rfl⟩) hP hD hS hA [0, 1, 2, 3, 4] [] rfl rfl (by decide) (by decide) (fun u H locs f_80 hP hD hS => ?_)
            obtain ⟨to9_81, w9_82, rfl, f_83, f_84⟩ := f_80
            have hP : va_P D vwCl [(mo, .inr (6, [.int 0, .ref q1, .int (nI g), .ref q3, .ref q4, .ref q5, .ref q6, .int 1, .int gr, .int kd, .long w9_82, .ref q11, .int mk, .long w13, .long w14])), (q3, .inl (cI, 800, .inl m3)), (q5, .inl (cI, 800, .inl m5)), (q6, .inl (cI, 2, .inl (jl [nI n, nI n2]))), (q11, .inl (cI, 24, .inl (jl [(nI b0), nI to9_81, l2, nI b1, l4, nI to9_81, l6, nI b1, l8, 0, l10, l11, t12, t13, t14, t15, t16, t17, t18, t19, t20, t21, t22, t23])))] H := hP
            have hD : va_D A [(mo, .inr (6, [.int 0, .ref q1, .int (nI g), .ref q3, .ref q4, .ref q5, .ref q6, .int 1, .int gr, .int kd, .long w9_82, .ref q11, .int mk, .long w13, .long w14])), (q3, .inl (cI, 800, .inl m3)), (q5, .inl (cI, 800, .inl m5)), (q6, .inl (cI, 2, .inl (jl [nI n, nI n2]))), (q11, .inl (cI, 24, .inl (jl [(nI b0), nI to9_81, l2, nI b1, l4, nI to9_81, l6, nI b1, l8, 0, l10, l11, t12, t13, t14, t15, t16, t17, t18, t19, t20, t21, t22, t23])))] := hD
            refine lv_aload_n hx hb dX6_next_219 rfl (lv_at hl 2 rfl) ?_
            refine va_get (D := D) (ci := 6) (v := .ref q11) (C := RX6) (T := TX6) (N := 15) hx hb hts (by decide +kernel) hown hK hP 0 rfl rfl 11 (by decide) (hts (.fieldLink RX6 25 "JoinDeskModel" "at" "[I") (by decide +kernel)) (fun _ h9 => h9) rfl dX6_next_220 ?_
            refine lv_bipush (v := 8) hx hb dX6_next_223 (by decide) ?_
            refine lv_iload_n hx hb dX6_next_225 rfl (lv_at hl 1 rfl) ?_
            refine lv_if_eq (tgt := 237) hx hb dX6_next_226 (by decide) (fun c_85 => ?_) (fun c_85 => absurd c_85 (by decide))
            refine lv_iload_n hx hb dX6_next_237 rfl (lv_at hl 1 rfl) ?_
            refine lv_if_eq (tgt := 245) hx hb dX6_next_238 (by decide) (fun c_86 => ?_) (fun c_86 => absurd c_86 (by decide))
            refine lv_iconst (v := 2) hx hb dX6_next_245 (by decide) ?_
            refine va_iast hx hb hK hP hD hS 4 0 rfl rfl (by unfold vp_in; decide) dX6_next_246 (fun H locs hP hD hS => ?_)
            rw [jl_upd (show (8 : Int32).toNatClampNeg = 8 by decide) (Nat.le_of_ble_eq_true rfl)] at hP hD
            have hP : va_P D vwCl [(mo, .inr (6, [.int 0, .ref q1, .int (nI g), .ref q3, .ref q4, .ref q5, .ref q6, .int 1, .int gr, .int kd, .long w9_82, .ref q11, .int mk, .long w13, .long w14])), (q3, .inl (cI, 800, .inl m3)), (q5, .inl (cI, 800, .inl m5)), (q6, .inl (cI, 2, .inl (jl [nI n, nI n2]))), (q11, .inl (cI, 24, .inl (jl [(nI b0), nI to9_81, l2, nI b1, l4, nI to9_81, l6, nI b1, 2, 0, l10, l11, t12, t13, t14, t15, t16, t17, t18, t19, t20, t21, t22, t23])))] H := hP
            have hD : va_D A [(mo, .inr (6, [.int 0, .ref q1, .int (nI g), .ref q3, .ref q4, .ref q5, .ref q6, .int 1, .int gr, .int kd, .long w9_82, .ref q11, .int mk, .long w13, .long w14])), (q3, .inl (cI, 800, .inl m3)), (q5, .inl (cI, 800, .inl m5)), (q6, .inl (cI, 2, .inl (jl [nI n, nI n2]))), (q11, .inl (cI, 24, .inl (jl [(nI b0), nI to9_81, l2, nI b1, l4, nI to9_81, l6, nI b1, 2, 0, l10, l11, t12, t13, t14, t15, t16, t17, t18, t19, t20, t21, t22, t23])))] := hD
            refine lv_aload_n hx hb dX6_next_247 rfl (lv_at hl 2 rfl) ?_
            refine va_get (D := D) (ci := 6) (v := .int kd) (C := RX6) (T := TX6) (N := 15) hx hb hts (by decide +kernel) hown hK hP 0 rfl rfl 9 (by decide) (hts (.fieldLink RX6 60 "JoinDeskModel" "kind" "I") (by decide +kernel)) (fun _ h9 => h9) rfl dX6_next_248 ?_
            refine lv_aload_n hx hb dX6_next_251 rfl (lv_at hl 2 rfl) ?_
            refine va_get (D := D) (ci := 6) (v := .ref q11) (C := RX6) (T := TX6) (N := 15) hx hb hts (by decide +kernel) hown hK hP 0 rfl rfl 11 (by decide) (hts (.fieldLink RX6 25 "JoinDeskModel" "at" "[I") (by decide +kernel)) (fun _ h9 => h9) rfl dX6_next_252 ?_
            refine lv_bipush (v := 8) hx hb dX6_next_255 (by decide) ?_
            refine va_iald hx hb hK hP 4 0 rfl rfl (by unfold vp_in; decide) dX6_next_257 ?_
            refine W.eq (g2 := F0 m 258 ls [.int 2, .int kd]) rfl ?_
            refine vp_callSi (va_Run.run (va_runS (As := [.int kd, .int 2]) (rest := []) ⟨hx, hb, hml, hown, hts⟩ (gM_tells_2 l D cI cL cQ kd (by first | assumption | decide | omega)) (va_cwS 2 hts gX6_next_X6_tells rfl rfl rfl (by decide +kernel) ⟨Nat.le_of_ble_eq_true rfl, Nat.le_of_ble_eq_true rfl⟩) (jr_S hK hN hP [] rfl) rfl rfl hl.1 rfl (lv_room (Nat.le_of_ble_eq_true rfl)) dX6_next_258 ⟨Nat.le_of_ble_eq_true rfl, Nat.le_of_ble_eq_true rfl⟩)) (fun r f_87 => ?_)
            rcases f_87 with ⟨rfl, f_88⟩ | ⟨rfl, f_89⟩
            · refine lv_if_eq (tgt := 285) hx hb dX6_next_261 (by decide) (fun c_90 => absurd c_90 (by decide)) (fun c_90 => ?_)
              refine lv_aload_n hx hb dX6_next_264 rfl (lv_at hl 2 rfl) ?_
              refine va_get (D := D) (ci := 6) (v := .ref q11) (C := RX6) (T := TX6) (N := 15) hx hb hts (by decide +kernel) hown hK hP 0 rfl rfl 11 (by decide) (hts (.fieldLink RX6 25 "JoinDeskModel" "at" "[I") (by decide +kernel)) (fun _ h9 => h9) rfl dX6_next_265 ?_
              refine lv_bipush (v := 9) hx hb dX6_next_268 (by decide) ?_
              refine lv_iconst (v := 1) hx hb dX6_next_270 (by decide) ?_
              refine va_iast hx hb hK hP hD hS 4 0 rfl rfl (by unfold vp_in; decide) dX6_next_271 (fun H locs hP hD hS => ?_)
              rw [jl_upd (show (9 : Int32).toNatClampNeg = 9 by decide) (Nat.le_of_ble_eq_true rfl)] at hP hD
              have hP : va_P D vwCl [(mo, .inr (6, [.int 0, .ref q1, .int (nI g), .ref q3, .ref q4, .ref q5, .ref q6, .int 1, .int gr, .int kd, .long w9_82, .ref q11, .int mk, .long w13, .long w14])), (q3, .inl (cI, 800, .inl m3)), (q5, .inl (cI, 800, .inl m5)), (q6, .inl (cI, 2, .inl (jl [nI n, nI n2]))), (q11, .inl (cI, 24, .inl (jl [(nI b0), nI to9_81, l2, nI b1, l4, nI to9_81, l6, nI b1, 2, 1, l10, l11, t12, t13, t14, t15, t16, t17, t18, t19, t20, t21, t22, t23])))] H := hP
              have hD : va_D A [(mo, .inr (6, [.int 0, .ref q1, .int (nI g), .ref q3, .ref q4, .ref q5, .ref q6, .int 1, .int gr, .int kd, .long w9_82, .ref q11, .int mk, .long w13, .long w14])), (q3, .inl (cI, 800, .inl m3)), (q5, .inl (cI, 800, .inl m5)), (q6, .inl (cI, 2, .inl (jl [nI n, nI n2]))), (q11, .inl (cI, 24, .inl (jl [(nI b0), nI to9_81, l2, nI b1, l4, nI to9_81, l6, nI b1, 2, 1, l10, l11, t12, t13, t14, t15, t16, t17, t18, t19, t20, t21, t22, t23])))] := hD
              refine lv_aload_n hx hb dX6_next_272 rfl (lv_at hl 2 rfl) ?_
              refine va_get (D := D) (ci := 6) (v := .ref q11) (C := RX6) (T := TX6) (N := 15) hx hb hts (by decide +kernel) hown hK hP 0 rfl rfl 11 (by decide) (hts (.fieldLink RX6 25 "JoinDeskModel" "at" "[I") (by decide +kernel)) (fun _ h9 => h9) rfl dX6_next_273 ?_
              refine lv_bipush (v := 10) hx hb dX6_next_276 (by decide) ?_
              refine lv_dup2_11 hx hb dX6_next_278 rfl rfl ?_
              refine va_iald hx hb hK hP 4 0 rfl rfl (by unfold vp_in; decide) dX6_next_279 ?_
              refine W.eq (g2 := F0 m 280 ls [.int l10, .int 10, .ref q11]) rfl ?_
              refine lv_iconst (v := 1) hx hb dX6_next_280 (by decide) ?_
              refine lv_iadd hx hb dX6_next_281 ?_
              refine va_iast hx hb hK hP hD hS 4 0 rfl rfl (by unfold vp_in; decide) dX6_next_282 (fun H locs hP hD hS => ?_)
              rw [jl_upd (show (10 : Int32).toNatClampNeg = 10 by decide) (Nat.le_of_ble_eq_true rfl)] at hP hD
              have hP : va_P D vwCl [(mo, .inr (6, [.int 0, .ref q1, .int (nI g), .ref q3, .ref q4, .ref q5, .ref q6, .int 1, .int gr, .int kd, .long w9_82, .ref q11, .int mk, .long w13, .long w14])), (q3, .inl (cI, 800, .inl m3)), (q5, .inl (cI, 800, .inl m5)), (q6, .inl (cI, 2, .inl (jl [nI n, nI n2]))), (q11, .inl (cI, 24, .inl (jl [(nI b0), nI to9_81, l2, nI b1, l4, nI to9_81, l6, nI b1, 2, 1, l10 + 1, l11, t12, t13, t14, t15, t16, t17, t18, t19, t20, t21, t22, t23])))] H := hP
              have hD : va_D A [(mo, .inr (6, [.int 0, .ref q1, .int (nI g), .ref q3, .ref q4, .ref q5, .ref q6, .int 1, .int gr, .int kd, .long w9_82, .ref q11, .int mk, .long w13, .long w14])), (q3, .inl (cI, 800, .inl m3)), (q5, .inl (cI, 800, .inl m5)), (q6, .inl (cI, 2, .inl (jl [nI n, nI n2]))), (q11, .inl (cI, 24, .inl (jl [(nI b0), nI to9_81, l2, nI b1, l4, nI to9_81, l6, nI b1, 2, 1, l10 + 1, l11, t12, t13, t14, t15, t16, t17, t18, t19, t20, t21, t22, t23])))] := hD
              refine lv_iconst (v := 1) hx hb dX6_next_283 (by decide) ?_
              refine W.widen (k := 0) (n := 0) (by omega) (by omega) ?_
              exact W.zret (v := 1) (ty := .boolean) hx hb hr rfl (fun t ht hW => ⟨⟨1, [(mo, .inr (6, [.int 0, .ref q1, .int (nI g), .ref q3, .ref q4, .ref q5, .ref q6, .int 1, .int gr, .int kd, .long w9_82, .ref q11, .int mk, .long w13, .long w14])), (q3, .inl (cI, 800, .inl m3)), (q5, .inl (cI, 800, .inl m5)), (q6, .inl (cI, 2, .inl (jl [nI n, nI n2]))), (q11, .inl (cI, 24, .inl (jl [(nI b0), nI to9_81, l2, nI b1, l4, nI to9_81, l6, nI b1, 2, 1, l10 + 1, l11, t12, t13, t14, t15, t16, t17, t18, t19, t20, t21, t22, t23])))], rfl, (by exact (Or.inr (Or.inr (Or.inl ⟨_, _, _, _, _, _, _, _, _, _, _, rfl, rfl, by omega, by omega, by omega, by omega⟩)))), by rw [ht]; exact hP, hD⟩, hS.F ht⟩) hS.2.2 dX6_next_284
            · refine lv_if_eq (tgt := 285) hx hb dX6_next_261 (by decide) (fun c_91 => ?_) (fun c_91 => absurd c_91 (by decide))
              refine lv_goto (tgt := 60) hx hb dX6_next_285 (by decide) ?_
              exact ih_1 b0 to9_81 l2 (nI b1) l4 (nI to9_81) l6 (nI b1) 2 l10 l11 w9_82 (by omega) (by omega) (by omega) _ _ hP hD hS ls (lv_sub hl [2] rfl)
    exact hloop_1 ((n - e0) + (n2 - e1) + 1) e0 e1 t2 t3 t4 (nI d1) t6 (nI (r1 + 1)) 2 t10 t11 w10 (Nat.lt_succ_self _) (by first | assumption | omega) (by first | assumption | omega) _ _ hP hD hS ls (lv_sub hl [0] rfl)
