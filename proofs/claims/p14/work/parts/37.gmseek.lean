set_option maxHeartbeats 1000000 in
set_option maxRecDepth 100000 in
theorem gM_seek (l : Launch) (D : va_G) (cI cL cQ : ClassId) (mo : Nat) (g : Nat) (n : Nat) (n2 : Nat) (q1 : Nat) (q3 : Nat) (q4 : Nat) (q5 : Nat) (q6 : Nat) (q11 : Nat) (z0 : Int32) (gr : Int32) (kd : Int32) (mk : Int32) (w10 : Int64) (w13 : Int64) (w14 : Int64) (m3 : Nat → Int32) (m5 : Nat → Int32) (t0 : Int32) (t1 : Int32) (t2 : Int32) (t3 : Int32) (t4 : Int32) (t5 : Int32) (t6 : Int32) (t7 : Int32) (t8 : Int32) (t9 : Int32) (t10 : Int32) (t11 : Int32) (t12 : Int32) (t13 : Int32) (t14 : Int32) (t15 : Int32) (t16 : Int32) (t17 : Int32) (t18 : Int32) (t19 : Int32) (t20 : Int32) (t21 : Int32) (t22 : Int32) (t23 : Int32) (x : Int32) (sz : Nat) (hn : n ≤ 400) (hn2 : n2 ≤ 400) (h5 : jo5 m5) (hk4 : jk4 kd) : Met l yX6_seek wsX6_seek ({ frames := 2, cells := 0, slots := 0, locals := 54 }) (jw_P D vwCl (jT cI cL cQ) cL cQ [.ref mo, .int x] [(mo, .inr (6, [.int z0, .ref q1, .int (nI g), .ref q3, .ref q4, .ref q5, .ref q6, .int 1, .int gr, .int kd, .long w10, .ref q11, .int mk, .long w13, .long w14])), (q3, .inl (cI, 800, .inl m3)), (q5, .inl (cI, 800, .inl m5)), (q6, .inl (cI, 2, .inl (jl [nI n, nI n2]))), (q11, .inl (cI, 24, .inl (jl [t0, t1, t2, t3, t4, t5, t6, t7, t8, t9, t10, t11, t12, t13, t14, t15, t16, t17, t18, t19, t20, t21, t22, t23])))] sz) (va_Qi (fun (r : Int32) (u : va_W) => (∃ (l0 : Nat) (l1 : Nat) (ct : Int32) (w9 : Int64), r = 1 ∧ u = [(mo, .inr (6, [.int 0, .ref q1, .int (nI g), .ref q3, .ref q4, .ref q5, .ref q6, .int 1, .int gr, .int kd, .long w9, .ref q11, .int mk, .long w13, .long w14])), (q3, .inl (cI, 800, .inl m3)), (q5, .inl (cI, 800, .inl m5)), (q6, .inl (cI, 2, .inl (jl [nI n, nI n2]))), (q11, .inl (cI, 24, .inl (jl [nI l0, nI l1, 0, 0, 0, 0, 0, 0, 0, 0, ct, 0, t12, t13, t14, t15, t16, t17, t18, t19, t20, t21, t22, t23])))] ∧ (l0 ≤ 400) ∧ (l1 ≤ 400)) ∨ (∃ (l0 : Nat) (l1 : Nat) (ct : Int32) (w9 : Int64), r = 0 ∧ u = [(mo, .inr (6, [.int 0, .ref q1, .int (nI g), .ref q3, .ref q4, .ref q5, .ref q6, .int 1, .int gr, .int kd, .long w9, .ref q11, .int mk, .long w13, .long w14])), (q3, .inl (cI, 800, .inl m3)), (q5, .inl (cI, 800, .inl m5)), (q6, .inl (cI, 2, .inl (jl [nI n, nI n2]))), (q11, .inl (cI, 24, .inl (jl [nI l0, nI l1, 0, 0, 0, 0, 0, 0, 0, 0, ct, 0, t12, t13, t14, t15, t16, t17, t18, t19, t20, t21, t22, t23])))] ∧ (l0 ≤ 400) ∧ (l1 ≤ 400))) (jw_B D vwCl (va_A [(mo, .inr (6, [.int z0, .ref q1, .int (nI g), .ref q3, .ref q4, .ref q5, .ref q6, .int 1, .int gr, .int kd, .long w10, .ref q11, .int mk, .long w13, .long w14])), (q3, .inl (cI, 800, .inl m3)), (q5, .inl (cI, 800, .inl m5)), (q6, .inl (cI, 2, .inl (jl [nI n, nI n2]))), (q11, .inl (cI, 24, .inl (jl [t0, t1, t2, t3, t4, t5, t6, t7, t8, t9, t10, t11, t12, t13, t14, t15, t16, t17, t18, t19, t20, t21, t22, t23])))] sz) (fun u : va_W => u)) (va_A [(mo, .inr (6, [.int z0, .ref q1, .int (nI g), .ref q3, .ref q4, .ref q5, .ref q6, .int 1, .int gr, .int kd, .long w10, .ref q11, .int mk, .long w13, .long w14])), (q3, .inl (cI, 800, .inl m3)), (q5, .inl (cI, 800, .inl m5)), (q6, .inl (cI, 2, .inl (jl [nI n, nI n2]))), (q11, .inl (cI, 24, .inl (jl [t0, t1, t2, t3, t4, t5, t6, t7, t8, t9, t10, t11, t12, t13, t14, t15, t16, t17, t18, t19, t20, t21, t22, t23])))] sz)) 0 0 (va_A [(mo, .inr (6, [.int z0, .ref q1, .int (nI g), .ref q3, .ref q4, .ref q5, .ref q6, .int 1, .int gr, .int kd, .long w10, .ref q11, .int mk, .long w13, .long w14])), (q3, .inl (cI, 800, .inl m3)), (q5, .inl (cI, 800, .inl m5)), (q6, .inl (cI, 2, .inl (jl [nI n, nI n2]))), (q11, .inl (cI, 24, .inl (jl [t0, t1, t2, t3, t4, t5, t6, t7, t8, t9, t10, t11, t12, t13, t14, t15, t16, t17, t18, t19, t20, t21, t22, t23])))] sz) := by
  refine Met.ofW (cc := cX6_seek) (maxL := 6) (ret := (some .boolean)) (by decide) rfl ?_
  intro p e s m args below meth c s₁ B hml hv
  obtain ⟨rfl, hsz, hP, hK, hN, hD0⟩ := hv
  have hx := B.exec
  have hb := B.bytes
  have hr := B.returns
  have hts := atoms_spec (ws := wsX6_seek) B.pre
  have hown : s.vm.findClass RX6 = some m.cls := findClass_of_methodNamed B.named
  have hlocks := B.notSynchronized
  subst hsz
  have hD := hD0.self (sz := s.heap.size)
  generalize hAe : va_A [(mo, .inr (6, [.int z0, .ref q1, .int (nI g), .ref q3, .ref q4, .ref q5, .ref q6, .int 1, .int gr, .int kd, .long w10, .ref q11, .int mk, .long w13, .long w14])), (q3, .inl (cI, 800, .inl m3)), (q5, .inl (cI, 800, .inl m5)), (q6, .inl (cI, 2, .inl (jl [nI n, nI n2]))), (q11, .inl (cI, 24, .inl (jl [t0, t1, t2, t3, t4, t5, t6, t7, t8, t9, t10, t11, t12, t13, t14, t15, t16, t17, t18, t19, t20, t21, t22, t23])))] s.heap.size = A at hD ⊢
  have hA : ∀ q : Nat, s.heap.size ≤ q → A q := fun q h => by rw [← hAe]; exact Or.inr h
  have hS : va_S A s.heap s.heap [] := va_S.rf
  have hl := lv_entry ([.ref mo, .int x]) (n := 6) (Nat.le_of_ble_eq_true rfl)
  rw [lg_entry_eq]
  generalize (lg_sl ([.ref mo, .int x]) ++ List.replicate (6 - (lg_sl ([.ref mo, .int x])).length) Slot.unset).toArray = ls at hl ⊢
  have hl : lv_has ls 6 [(0, .ref mo), (1, .int x)] := hl
  refine lv_aload_n hx hb dX6_seek_0 rfl (lv_at hl 0 rfl) ?_
  refine lv_aload_n hx hb dX6_seek_1 rfl (lv_at hl 0 rfl) ?_
  refine va_get (D := D) (ci := 6) (v := .int 1) (C := RX6) (T := TX6) (N := 15) hx hb hts (by decide +kernel) hown hK hP 0 rfl rfl 7 (by decide) (hts (.fieldLink RX6 43 "JoinDeskModel" "prepared" "Z") (by decide +kernel)) (fun _ h9 => h9) rfl dX6_seek_2 ?_
  refine lv_if_eq (tgt := 12) hx hb dX6_seek_5 (by decide) (fun c_1 => absurd c_1 (by decide)) (fun c_1 => ?_)
  refine lv_iconst (v := 0) hx hb dX6_seek_8 (by decide) ?_
  refine lv_goto (tgt := 13) hx hb dX6_seek_9 (by decide) ?_
  refine jw_i (wr := [(q3, .inl (cI, 800, .inl m3)), (q5, .inl (cI, 800, .inl m5)), (q6, .inl (cI, 2, .inl (jl [nI n, nI n2]))), (q11, .inl (cI, 24, .inl (jl [t0, t1, t2, t3, t4, t5, t6, t7, t8, t9, t10, t11, t12, t13, t14, t15, t16, t17, t18, t19, t20, t21, t22, t23])))]) (va_runV (As := [.int 0]) (rest := []) ⟨hx, hb, hml, hown, hts⟩ (gM_refuses_0 l D cI cL cQ mo g q1 q3 q4 q5 q6 q11 z0 1 gr kd mk w10 w13 w14 _) (cwV 1 hts gX6_seek_X6_refuses rfl rfl rfl (by decide +kernel) ⟨Nat.le_of_ble_eq_true rfl, Nat.le_of_ble_eq_true rfl⟩) (jw_V hK hN hP hD [0] (by decide) rfl 6 0 rfl rfl rfl) rfl rfl hl.1 rfl (lv_room (Nat.le_of_ble_eq_true rfl)) dX6_seek_13 ⟨Nat.le_of_ble_eq_true rfl, Nat.le_of_ble_eq_true rfl⟩) hP hD hS hA [0] [1, 2, 3, 4] rfl rfl (by decide) (by decide) (fun r u H locs f_2 hP hD hS => ?_)
  obtain ⟨rfl, rfl⟩ := f_2
  have hP : va_P D vwCl [(q3, .inl (cI, 800, .inl m3)), (q5, .inl (cI, 800, .inl m5)), (q6, .inl (cI, 2, .inl (jl [nI n, nI n2]))), (q11, .inl (cI, 24, .inl (jl [t0, t1, t2, t3, t4, t5, t6, t7, t8, t9, t10, t11, t12, t13, t14, t15, t16, t17, t18, t19, t20, t21, t22, t23]))), (mo, .inr (6, [.int 0, .ref q1, .int (nI g), .ref q3, .ref q4, .ref q5, .ref q6, .int 1, .int gr, .int kd, .long w10, .ref q11, .int mk, .long w13, .long w14]))] H := hP
  have hD : va_D A [(q3, .inl (cI, 800, .inl m3)), (q5, .inl (cI, 800, .inl m5)), (q6, .inl (cI, 2, .inl (jl [nI n, nI n2]))), (q11, .inl (cI, 24, .inl (jl [t0, t1, t2, t3, t4, t5, t6, t7, t8, t9, t10, t11, t12, t13, t14, t15, t16, t17, t18, t19, t20, t21, t22, t23]))), (mo, .inr (6, [.int 0, .ref q1, .int (nI g), .ref q3, .ref q4, .ref q5, .ref q6, .int 1, .int gr, .int kd, .long w10, .ref q11, .int mk, .long w13, .long w14]))] := hD
  refine lv_if_eq (tgt := 21) hx hb dX6_seek_16 (by decide) (fun c_3 => ?_) (fun c_3 => absurd c_3 (by decide))
  refine lv_aload_n hx hb dX6_seek_21 rfl (lv_at hl 0 rfl) ?_
  refine jw_v (wr := [(q3, .inl (cI, 800, .inl m3)), (q5, .inl (cI, 800, .inl m5)), (q6, .inl (cI, 2, .inl (jl [nI n, nI n2])))]) (va_runV (As := []) (rest := []) ⟨hx, hb, hml, hown, hts⟩ (gM_begins l D cI cL cQ mo g q1 q3 q4 q5 q6 q11 0 1 gr kd mk w10 w13 w14 t0 t1 t2 t3 t4 t5 t6 t7 t8 t9 t10 t11 t12 t13 t14 t15 t16 t17 t18 t19 t20 t21 t22 t23 _) (cwV 0 hts gX6_seek_X6_begins rfl rfl rfl (by decide +kernel) ⟨Nat.le_of_ble_eq_true rfl, Nat.le_of_ble_eq_true rfl⟩) (jw_V hK hN hP hD [4, 3] (by decide) rfl 6 4 rfl rfl rfl) rfl rfl hl.1 rfl (lv_room (Nat.le_of_ble_eq_true rfl)) dX6_seek_22 ⟨Nat.le_of_ble_eq_true rfl, Nat.le_of_ble_eq_true rfl⟩) hP hD hS hA [4, 3] [0, 1, 2] rfl rfl (by decide) (by decide) (fun u H locs f_4 hP hD hS => ?_)
  obtain rfl := f_4
  have hP : va_P D vwCl [(q3, .inl (cI, 800, .inl m3)), (q5, .inl (cI, 800, .inl m5)), (q6, .inl (cI, 2, .inl (jl [nI n, nI n2]))), (mo, .inr (6, [.int 0, .ref q1, .int (nI g), .ref q3, .ref q4, .ref q5, .ref q6, .int 1, .int gr, .int kd, .long w10, .ref q11, .int mk, .long w13, .long w14])), (q11, .inl (cI, 24, .inl (jl [0, 0, 0, 0, 0, 0, 0, 0, 0, 0, 0, 0, t12, t13, t14, t15, t16, t17, t18, t19, t20, t21, t22, t23])))] H := hP
  have hD : va_D A [(q3, .inl (cI, 800, .inl m3)), (q5, .inl (cI, 800, .inl m5)), (q6, .inl (cI, 2, .inl (jl [nI n, nI n2]))), (mo, .inr (6, [.int 0, .ref q1, .int (nI g), .ref q3, .ref q4, .ref q5, .ref q6, .int 1, .int gr, .int kd, .long w10, .ref q11, .int mk, .long w13, .long w14])), (q11, .inl (cI, 24, .inl (jl [0, 0, 0, 0, 0, 0, 0, 0, 0, 0, 0, 0, t12, t13, t14, t15, t16, t17, t18, t19, t20, t21, t22, t23])))] := hD
  refine lv_iconst (v := 0) hx hb dX6_seek_25 (by decide) ?_
  refine lv_istore_n (lv' := [(2, .int 0), (0, .ref mo), (1, .int x)]) hx hb dX6_seek_26 rfl hl (by decide) rfl (fun ls hl => ?_)
  refine lv_iload_n hx hb dX6_seek_27 rfl (lv_at hl 0 rfl) ?_
  refine lv_iconst (v := 2) hx hb dX6_seek_28 (by decide) ?_
  refine lv_icmp_ge (tgt := 107) hx hb dX6_seek_29 (by decide) (fun c_5 => absurd c_5 (by decide)) (fun c_5 => ?_)
  refine lv_iconst (v := 0) hx hb dX6_seek_32 (by decide) ?_
  refine lv_istore_n (lv' := [(3, .int 0), (2, .int 0), (0, .ref mo), (1, .int x)]) hx hb dX6_seek_33 rfl hl (by decide) rfl (fun ls hl => ?_)
  refine lv_aload_n hx hb dX6_seek_34 rfl (lv_at hl 2 rfl) ?_
  refine va_get (D := D) (ci := 6) (v := .ref q6) (C := RX6) (T := TX6) (N := 15) hx hb hts (by decide +kernel) hown hK hP 3 rfl rfl 6 (by decide) (hts (.fieldLink RX6 22 "JoinDeskModel" "many" "[I") (by decide +kernel)) (fun _ h9 => h9) rfl dX6_seek_35 ?_
  refine lv_iload_n hx hb dX6_seek_38 rfl (lv_at hl 1 rfl) ?_
  refine va_iald hx hb hK hP 2 0 rfl rfl (by unfold vp_in; decide) dX6_seek_39 ?_
  refine W.eq (g2 := F0 m 40 ls [.int (nI n)]) rfl ?_
  refine lv_istore (lv' := [(4, .int (nI n)), (3, .int 0), (2, .int 0), (0, .ref mo), (1, .int x)]) hx hb dX6_seek_40 hl (by decide) rfl (fun ls hl => ?_)
  have hP := hP.sub (ws' := [(mo, .inr (6, [.int 0, .ref q1, .int (nI g), .ref q3, .ref q4, .ref q5, .ref q6, .int 1, .int gr, .int kd, .long w10, .ref q11, .int mk, .long w13, .long w14])), (q3, .inl (cI, 800, .inl m3)), (q5, .inl (cI, 800, .inl m5)), (q6, .inl (cI, 2, .inl (jl [nI n, nI n2]))), (q11, .inl (cI, 24, .inl (jl [0, 0, 0, 0, 0, 0, 0, 0, 0, 0, 0, 0, t12, t13, t14, t15, t16, t17, t18, t19, t20, t21, t22, t23])))]) [3, 0, 1, 2, 4] rfl
  have hD := hD.sub (ws' := [(mo, .inr (6, [.int 0, .ref q1, .int (nI g), .ref q3, .ref q4, .ref q5, .ref q6, .int 1, .int gr, .int kd, .long w10, .ref q11, .int mk, .long w13, .long w14])), (q3, .inl (cI, 800, .inl m3)), (q5, .inl (cI, 800, .inl m5)), (q6, .inl (cI, 2, .inl (jl [nI n, nI n2]))), (q11, .inl (cI, 24, .inl (jl [0, 0, 0, 0, 0, 0, 0, 0, 0, 0, 0, 0, t12, t13, t14, t15, t16, t17, t18, t19, t20, t21, t22, t23])))]) [3, 0, 1, 2, 4] (by decide) rfl
  have hloop_1 : ∀ (k_1 : Nat) (lo0 : Nat) (hi0 : Nat) (ws0 : Int64), hi0 - lo0 < k_1 → (lo0 ≤ hi0) → (hi0 ≤ n) → ∀ (H : Heap) (locs : List Loc), va_P D vwCl [(mo, .inr (6, [.int 0, .ref q1, .int (nI g), .ref q3, .ref q4, .ref q5, .ref q6, .int 1, .int gr, .int kd, .long ws0, .ref q11, .int mk, .long w13, .long w14])), (q3, .inl (cI, 800, .inl m3)), (q5, .inl (cI, 800, .inl m5)), (q6, .inl (cI, 2, .inl (jl [nI n, nI n2]))), (q11, .inl (cI, 24, .inl (jl [0, 0, 0, 0, 0, 0, 0, 0, 0, 0, 0, 0, t12, t13, t14, t15, t16, t17, t18, t19, t20, t21, t22, t23])))] H → va_D A [(mo, .inr (6, [.int 0, .ref q1, .int (nI g), .ref q3, .ref q4, .ref q5, .ref q6, .int 1, .int gr, .int kd, .long ws0, .ref q11, .int mk, .long w13, .long w14])), (q3, .inl (cI, 800, .inl m3)), (q5, .inl (cI, 800, .inl m5)), (q6, .inl (cI, 2, .inl (jl [nI n, nI n2]))), (q11, .inl (cI, 24, .inl (jl [0, 0, 0, 0, 0, 0, 0, 0, 0, 0, 0, 0, t12, t13, t14, t15, t16, t17, t18, t19, t20, t21, t22, t23])))] → va_S A s.heap H locs → ∀ ls : Array Slot, lv_has ls 6 [(0, .ref mo), (1, .int x), (2, .int 0), (3, .int (nI lo0)), (4, .int (nI hi0))] → W p l e (headSpec wsX6_seek ({ frames := 2, cells := 0, slots := 0, locals := 54 })).room s m #[.ref mo, .int x] below meth c H locs 0 0 (MQ below (va_Qi (fun (r : Int32) (u : va_W) => (∃ (l0 : Nat) (l1 : Nat) (ct : Int32) (w9 : Int64), r = 1 ∧ u = [(mo, .inr (6, [.int 0, .ref q1, .int (nI g), .ref q3, .ref q4, .ref q5, .ref q6, .int 1, .int gr, .int kd, .long w9, .ref q11, .int mk, .long w13, .long w14])), (q3, .inl (cI, 800, .inl m3)), (q5, .inl (cI, 800, .inl m5)), (q6, .inl (cI, 2, .inl (jl [nI n, nI n2]))), (q11, .inl (cI, 24, .inl (jl [nI l0, nI l1, 0, 0, 0, 0, 0, 0, 0, 0, ct, 0, t12, t13, t14, t15, t16, t17, t18, t19, t20, t21, t22, t23])))] ∧ (l0 ≤ 400) ∧ (l1 ≤ 400)) ∨ (∃ (l0 : Nat) (l1 : Nat) (ct : Int32) (w9 : Int64), r = 0 ∧ u = [(mo, .inr (6, [.int 0, .ref q1, .int (nI g), .ref q3, .ref q4, .ref q5, .ref q6, .int 1, .int gr, .int kd, .long w9, .ref q11, .int mk, .long w13, .long w14])), (q3, .inl (cI, 800, .inl m3)), (q5, .inl (cI, 800, .inl m5)), (q6, .inl (cI, 2, .inl (jl [nI n, nI n2]))), (q11, .inl (cI, 24, .inl (jl [nI l0, nI l1, 0, 0, 0, 0, 0, 0, 0, 0, ct, 0, t12, t13, t14, t15, t16, t17, t18, t19, t20, t21, t22, t23])))] ∧ (l0 ≤ 400) ∧ (l1 ≤ 400))) (jw_B D vwCl A (fun u : va_W => u)) A) #[.ref mo, .int x] s 0 0 A) (F0 m 42 ls []) := by
    intro k_1
    induction k_1 with
    | zero => exact fun _ _ _ hm => absurd hm (Nat.not_lt_zero _)
    | succ k_1 ih_1 =>
      intro lo0 hi0 ws0 hm1 hl0 hh0 H locs hP hD hS ls hl
      refine lv_iload_n hx hb dX6_seek_42 rfl (lv_at hl 3 rfl) ?_
      refine lv_iload hx hb dX6_seek_43 (lv_at hl 4 rfl) ?_
      refine lv_icmp_ge (tgt := 92) hx hb dX6_seek_45 (by decide) (fun cs0 => ?_) (fun cs0 => ?_)
      · refine lv_aload_n hx hb dX6_seek_92 rfl (lv_at hl 0 rfl) ?_
        refine va_get (D := D) (ci := 6) (v := .ref q11) (C := RX6) (T := TX6) (N := 15) hx hb hts (by decide +kernel) hown hK hP 0 rfl rfl 11 (by decide) (hts (.fieldLink RX6 25 "JoinDeskModel" "at" "[I") (by decide +kernel)) (fun _ h9 => h9) rfl dX6_seek_93 ?_
        refine lv_iconst (v := 0) hx hb dX6_seek_96 (by decide) ?_
        refine lv_iload_n hx hb dX6_seek_97 rfl (lv_at hl 2 rfl) ?_
        refine lv_iadd hx hb dX6_seek_98 ?_
        refine lv_topi (fun z_6 e_z_6 => ?_)
        obtain rfl : z_6 = 0 := e_z_6.trans (by decide)
        refine lv_iload_n hx hb dX6_seek_99 rfl (lv_at hl 3 rfl) ?_
        refine va_iast hx hb hK hP hD hS 4 0 rfl rfl (by unfold vp_in; decide) dX6_seek_100 (fun H locs hP hD hS => ?_)
        rw [jl_upd (show (0 : Int32).toNatClampNeg = 0 by decide) (Nat.le_of_ble_eq_true rfl)] at hP hD
        have hP : va_P D vwCl [(mo, .inr (6, [.int 0, .ref q1, .int (nI g), .ref q3, .ref q4, .ref q5, .ref q6, .int 1, .int gr, .int kd, .long ws0, .ref q11, .int mk, .long w13, .long w14])), (q3, .inl (cI, 800, .inl m3)), (q5, .inl (cI, 800, .inl m5)), (q6, .inl (cI, 2, .inl (jl [nI n, nI n2]))), (q11, .inl (cI, 24, .inl (jl [nI lo0, 0, 0, 0, 0, 0, 0, 0, 0, 0, 0, 0, t12, t13, t14, t15, t16, t17, t18, t19, t20, t21, t22, t23])))] H := hP
        have hD : va_D A [(mo, .inr (6, [.int 0, .ref q1, .int (nI g), .ref q3, .ref q4, .ref q5, .ref q6, .int 1, .int gr, .int kd, .long ws0, .ref q11, .int mk, .long w13, .long w14])), (q3, .inl (cI, 800, .inl m3)), (q5, .inl (cI, 800, .inl m5)), (q6, .inl (cI, 2, .inl (jl [nI n, nI n2]))), (q11, .inl (cI, 24, .inl (jl [nI lo0, 0, 0, 0, 0, 0, 0, 0, 0, 0, 0, 0, t12, t13, t14, t15, t16, t17, t18, t19, t20, t21, t22, t23])))] := hD
        refine lv_iinc (v := 1) (lv' := [(2, .int 1), (0, .ref mo), (1, .int x), (3, .int (nI lo0)), (4, .int (nI hi0))]) hx hb dX6_seek_101 hl (k := 2) rfl (by first | rfl | decide) (by decide) rfl (fun ls hl => ?_)
        refine lv_goto (tgt := 27) hx hb dX6_seek_104 (by decide) ?_
        refine lv_iload_n hx hb dX6_seek_27 rfl (lv_at hl 0 rfl) ?_
        refine lv_iconst (v := 2) hx hb dX6_seek_28 (by decide) ?_
        refine lv_icmp_ge (tgt := 107) hx hb dX6_seek_29 (by decide) (fun c_7 => absurd c_7 (by decide)) (fun c_7 => ?_)
        refine lv_iconst (v := 0) hx hb dX6_seek_32 (by decide) ?_
        refine lv_istore_n (lv' := [(3, .int 0), (2, .int 1), (0, .ref mo), (1, .int x), (4, .int (nI hi0))]) hx hb dX6_seek_33 rfl hl (by decide) rfl (fun ls hl => ?_)
        refine lv_aload_n hx hb dX6_seek_34 rfl (lv_at hl 2 rfl) ?_
        refine va_get (D := D) (ci := 6) (v := .ref q6) (C := RX6) (T := TX6) (N := 15) hx hb hts (by decide +kernel) hown hK hP 0 rfl rfl 6 (by decide) (hts (.fieldLink RX6 22 "JoinDeskModel" "many" "[I") (by decide +kernel)) (fun _ h9 => h9) rfl dX6_seek_35 ?_
        refine lv_iload_n hx hb dX6_seek_38 rfl (lv_at hl 1 rfl) ?_
        refine va_iald hx hb hK hP 3 0 rfl rfl (by unfold vp_in; decide) dX6_seek_39 ?_
        refine W.eq (g2 := F0 m 40 ls [.int (nI n2)]) rfl ?_
        refine lv_istore (lv' := [(4, .int (nI n2)), (3, .int 0), (2, .int 1), (0, .ref mo), (1, .int x)]) hx hb dX6_seek_40 hl (by decide) rfl (fun ls hl => ?_)
        have hloop_2 : ∀ (k_2 : Nat) (lo1 : Nat) (hi1 : Nat) (ws1 : Int64), hi1 - lo1 < k_2 → (lo1 ≤ hi1) → (hi1 ≤ n2) → ∀ (H : Heap) (locs : List Loc), va_P D vwCl [(mo, .inr (6, [.int 0, .ref q1, .int (nI g), .ref q3, .ref q4, .ref q5, .ref q6, .int 1, .int gr, .int kd, .long ws1, .ref q11, .int mk, .long w13, .long w14])), (q3, .inl (cI, 800, .inl m3)), (q5, .inl (cI, 800, .inl m5)), (q6, .inl (cI, 2, .inl (jl [nI n, nI n2]))), (q11, .inl (cI, 24, .inl (jl [nI lo0, 0, 0, 0, 0, 0, 0, 0, 0, 0, 0, 0, t12, t13, t14, t15, t16, t17, t18, t19, t20, t21, t22, t23])))] H → va_D A [(mo, .inr (6, [.int 0, .ref q1, .int (nI g), .ref q3, .ref q4, .ref q5, .ref q6, .int 1, .int gr, .int kd, .long ws1, .ref q11, .int mk, .long w13, .long w14])), (q3, .inl (cI, 800, .inl m3)), (q5, .inl (cI, 800, .inl m5)), (q6, .inl (cI, 2, .inl (jl [nI n, nI n2]))), (q11, .inl (cI, 24, .inl (jl [nI lo0, 0, 0, 0, 0, 0, 0, 0, 0, 0, 0, 0, t12, t13, t14, t15, t16, t17, t18, t19, t20, t21, t22, t23])))] → va_S A s.heap H locs → ∀ ls : Array Slot, lv_has ls 6 [(0, .ref mo), (1, .int x), (2, .int 1), (3, .int (nI lo1)), (4, .int (nI hi1))] → W p l e (headSpec wsX6_seek ({ frames := 2, cells := 0, slots := 0, locals := 54 })).room s m #[.ref mo, .int x] below meth c H locs 0 0 (MQ below (va_Qi (fun (r : Int32) (u : va_W) => (∃ (l0 : Nat) (l1 : Nat) (ct : Int32) (w9 : Int64), r = 1 ∧ u = [(mo, .inr (6, [.int 0, .ref q1, .int (nI g), .ref q3, .ref q4, .ref q5, .ref q6, .int 1, .int gr, .int kd, .long w9, .ref q11, .int mk, .long w13, .long w14])), (q3, .inl (cI, 800, .inl m3)), (q5, .inl (cI, 800, .inl m5)), (q6, .inl (cI, 2, .inl (jl [nI n, nI n2]))), (q11, .inl (cI, 24, .inl (jl [nI l0, nI l1, 0, 0, 0, 0, 0, 0, 0, 0, ct, 0, t12, t13, t14, t15, t16, t17, t18, t19, t20, t21, t22, t23])))] ∧ (l0 ≤ 400) ∧ (l1 ≤ 400)) ∨ (∃ (l0 : Nat) (l1 : Nat) (ct : Int32) (w9 : Int64), r = 0 ∧ u = [(mo, .inr (6, [.int 0, .ref q1, .int (nI g), .ref q3, .ref q4, .ref q5, .ref q6, .int 1, .int gr, .int kd, .long w9, .ref q11, .int mk, .long w13, .long w14])), (q3, .inl (cI, 800, .inl m3)), (q5, .inl (cI, 800, .inl m5)), (q6, .inl (cI, 2, .inl (jl [nI n, nI n2]))), (q11, .inl (cI, 24, .inl (jl [nI l0, nI l1, 0, 0, 0, 0, 0, 0, 0, 0, ct, 0, t12, t13, t14, t15, t16, t17, t18, t19, t20, t21, t22, t23])))] ∧ (l0 ≤ 400) ∧ (l1 ≤ 400))) (jw_B D vwCl A (fun u : va_W => u)) A) #[.ref mo, .int x] s 0 0 A) (F0 m 42 ls []) := by
          intro k_2
          induction k_2 with
          | zero => exact fun _ _ _ hm => absurd hm (Nat.not_lt_zero _)
          | succ k_2 ih_2 =>
            intro lo1 hi1 ws1 hm2 hl1 hh1 H locs hP hD hS ls hl
            refine lv_iload_n hx hb dX6_seek_42 rfl (lv_at hl 3 rfl) ?_
            refine lv_iload hx hb dX6_seek_43 (lv_at hl 4 rfl) ?_
            refine lv_icmp_ge (tgt := 92) hx hb dX6_seek_45 (by decide) (fun cs1 => ?_) (fun cs1 => ?_)
            · refine lv_aload_n hx hb dX6_seek_92 rfl (lv_at hl 0 rfl) ?_
              refine va_get (D := D) (ci := 6) (v := .ref q11) (C := RX6) (T := TX6) (N := 15) hx hb hts (by decide +kernel) hown hK hP 0 rfl rfl 11 (by decide) (hts (.fieldLink RX6 25 "JoinDeskModel" "at" "[I") (by decide +kernel)) (fun _ h9 => h9) rfl dX6_seek_93 ?_
              refine lv_iconst (v := 0) hx hb dX6_seek_96 (by decide) ?_
              refine lv_iload_n hx hb dX6_seek_97 rfl (lv_at hl 2 rfl) ?_
              refine lv_iadd hx hb dX6_seek_98 ?_
              refine lv_topi (fun z_8 e_z_8 => ?_)
              obtain rfl : z_8 = 1 := e_z_8.trans (by decide)
              refine lv_iload_n hx hb dX6_seek_99 rfl (lv_at hl 3 rfl) ?_
              refine va_iast hx hb hK hP hD hS 4 0 rfl rfl (by unfold vp_in; decide) dX6_seek_100 (fun H locs hP hD hS => ?_)
              rw [jl_upd (show (1 : Int32).toNatClampNeg = 1 by decide) (Nat.le_of_ble_eq_true rfl)] at hP hD
              have hP : va_P D vwCl [(mo, .inr (6, [.int 0, .ref q1, .int (nI g), .ref q3, .ref q4, .ref q5, .ref q6, .int 1, .int gr, .int kd, .long ws1, .ref q11, .int mk, .long w13, .long w14])), (q3, .inl (cI, 800, .inl m3)), (q5, .inl (cI, 800, .inl m5)), (q6, .inl (cI, 2, .inl (jl [nI n, nI n2]))), (q11, .inl (cI, 24, .inl (jl [nI lo0, nI lo1, 0, 0, 0, 0, 0, 0, 0, 0, 0, 0, t12, t13, t14, t15, t16, t17, t18, t19, t20, t21, t22, t23])))] H := hP
              have hD : va_D A [(mo, .inr (6, [.int 0, .ref q1, .int (nI g), .ref q3, .ref q4, .ref q5, .ref q6, .int 1, .int gr, .int kd, .long ws1, .ref q11, .int mk, .long w13, .long w14])), (q3, .inl (cI, 800, .inl m3)), (q5, .inl (cI, 800, .inl m5)), (q6, .inl (cI, 2, .inl (jl [nI n, nI n2]))), (q11, .inl (cI, 24, .inl (jl [nI lo0, nI lo1, 0, 0, 0, 0, 0, 0, 0, 0, 0, 0, t12, t13, t14, t15, t16, t17, t18, t19, t20, t21, t22, t23])))] := hD
              refine lv_iinc (v := 2) (lv' := [(2, .int 2), (0, .ref mo), (1, .int x), (3, .int (nI lo1)), (4, .int (nI hi1))]) hx hb dX6_seek_101 hl (k := 2) rfl (by first | rfl | decide) (by decide) rfl (fun ls hl => ?_)
              refine lv_goto (tgt := 27) hx hb dX6_seek_104 (by decide) ?_
              refine lv_iload_n hx hb dX6_seek_27 rfl (lv_at hl 0 rfl) ?_
              refine lv_iconst (v := 2) hx hb dX6_seek_28 (by decide) ?_
              refine lv_icmp_ge (tgt := 107) hx hb dX6_seek_29 (by decide) (fun c_9 => ?_) (fun c_9 => absurd c_9 (by decide))
              refine lv_aload_n hx hb dX6_seek_107 rfl (lv_at hl 1 rfl) ?_
              refine va_get (D := D) (ci := 6) (v := .ref q11) (C := RX6) (T := TX6) (N := 15) hx hb hts (by decide +kernel) hown hK hP 0 rfl rfl 11 (by decide) (hts (.fieldLink RX6 25 "JoinDeskModel" "at" "[I") (by decide +kernel)) (fun _ h9 => h9) rfl dX6_seek_108 ?_
              refine lv_bipush (v := 10) hx hb dX6_seek_111 (by decide) ?_
              refine lv_aload_n hx hb dX6_seek_113 rfl (lv_at hl 1 rfl) ?_
              refine lv_aload_n hx hb dX6_seek_114 rfl (lv_at hl 1 rfl) ?_
              refine va_get (D := D) (ci := 6) (v := .int kd) (C := RX6) (T := TX6) (N := 15) hx hb hts (by decide +kernel) hown hK hP 0 rfl rfl 9 (by decide) (hts (.fieldLink RX6 60 "JoinDeskModel" "kind" "I") (by decide +kernel)) (fun _ h9 => h9) rfl dX6_seek_115 ?_
              refine lv_iconst (v := 1) hx hb dX6_seek_118 (by decide) ?_
              refine lv_iload_n hx hb dX6_seek_119 rfl (lv_at hl 2 rfl) ?_
              refine lv_i2l (v := x.toInt64) hx hb dX6_seek_120 (by first | rfl | decide) ?_
              refine vp_callSl (va_Run.run (va_runV (As := [.int kd, .int 1, .long x.toInt64]) (rest := [.int 10, .ref q11]) ⟨hx, hb, hml, hown, hts⟩ (gM_pairs_1 l D cI cL cQ mo g n n2 q1 q3 q4 q5 q6 q11 0 1 gr kd mk ws1 w13 w14 m3 kd x.toInt64 (by first | assumption | decide | omega) (by first | assumption | decide | omega) (by first | assumption | decide | omega)) (cwV 3 hts gX6_seek_X6_pairs rfl rfl rfl (by decide +kernel) ⟨Nat.le_of_ble_eq_true rfl, Nat.le_of_ble_eq_true rfl⟩) (jr_V hK hN hP [0, 1, 3] rfl 6 0 rfl rfl rfl) rfl rfl hl.1 rfl (lv_room (Nat.le_of_ble_eq_true rfl)) dX6_seek_121 ⟨Nat.le_of_ble_eq_true rfl, Nat.le_of_ble_eq_true rfl⟩)) (fun r f_10 => ?_)
              obtain rfl := f_10
              refine lv_l2i (v := (lN ((0 + jPa (jG1 kd) n2 (jsh 400 m3) (jQ true x.toInt64) (jsh 0 m3) n) + jPa (jG2 kd) n (jsh 0 m3) (jQ true x.toInt64) (jsh 400 m3) n2)).toInt32) hx hb dX6_seek_124 rfl ?_
              refine va_iast hx hb hK hP hD hS 4 0 rfl rfl (by unfold vp_in; decide) dX6_seek_125 (fun H locs hP hD hS => ?_)
              rw [jl_upd (show (10 : Int32).toNatClampNeg = 10 by decide) (Nat.le_of_ble_eq_true rfl)] at hP hD
              have hP : va_P D vwCl [(mo, .inr (6, [.int 0, .ref q1, .int (nI g), .ref q3, .ref q4, .ref q5, .ref q6, .int 1, .int gr, .int kd, .long ws1, .ref q11, .int mk, .long w13, .long w14])), (q3, .inl (cI, 800, .inl m3)), (q5, .inl (cI, 800, .inl m5)), (q6, .inl (cI, 2, .inl (jl [nI n, nI n2]))), (q11, .inl (cI, 24, .inl (jl [nI lo0, nI lo1, 0, 0, 0, 0, 0, 0, 0, 0, (lN ((0 + jPa (jG1 kd) n2 (jsh 400 m3) (jQ true x.toInt64) (jsh 0 m3) n) + jPa (jG2 kd) n (jsh 0 m3) (jQ true x.toInt64) (jsh 400 m3) n2)).toInt32, 0, t12, t13, t14, t15, t16, t17, t18, t19, t20, t21, t22, t23])))] H := hP
              have hD : va_D A [(mo, .inr (6, [.int 0, .ref q1, .int (nI g), .ref q3, .ref q4, .ref q5, .ref q6, .int 1, .int gr, .int kd, .long ws1, .ref q11, .int mk, .long w13, .long w14])), (q3, .inl (cI, 800, .inl m3)), (q5, .inl (cI, 800, .inl m5)), (q6, .inl (cI, 2, .inl (jl [nI n, nI n2]))), (q11, .inl (cI, 24, .inl (jl [nI lo0, nI lo1, 0, 0, 0, 0, 0, 0, 0, 0, (lN ((0 + jPa (jG1 kd) n2 (jsh 400 m3) (jQ true x.toInt64) (jsh 0 m3) n) + jPa (jG2 kd) n (jsh 0 m3) (jQ true x.toInt64) (jsh 400 m3) n2)).toInt32, 0, t12, t13, t14, t15, t16, t17, t18, t19, t20, t21, t22, t23])))] := hD
              refine lv_aload_n hx hb dX6_seek_126 rfl (lv_at hl 1 rfl) ?_
              refine lv_aload_n hx hb dX6_seek_127 rfl (lv_at hl 1 rfl) ?_
              refine va_get (D := D) (ci := 6) (v := .int kd) (C := RX6) (T := TX6) (N := 15) hx hb hts (by decide +kernel) hown hK hP 0 rfl rfl 9 (by decide) (hts (.fieldLink RX6 60 "JoinDeskModel" "kind" "I") (by decide +kernel)) (fun _ h9 => h9) rfl dX6_seek_128 ?_
              refine lv_iconst (v := 0) hx hb dX6_seek_131 (by decide) ?_
              refine lv_iload_n hx hb dX6_seek_132 rfl (lv_at hl 2 rfl) ?_
              refine lv_i2l (v := x.toInt64) hx hb dX6_seek_133 (by first | rfl | decide) ?_
              refine vp_callSl (va_Run.run (va_runV (As := [.int kd, .int 0, .long x.toInt64]) (rest := []) ⟨hx, hb, hml, hown, hts⟩ (gM_pairs_0 l D cI cL cQ mo g n n2 q1 q3 q4 q5 q6 q11 0 1 gr kd mk ws1 w13 w14 m3 kd x.toInt64 (by first | assumption | decide | omega) (by first | assumption | decide | omega) (by first | assumption | decide | omega)) (cwV 3 hts gX6_seek_X6_pairs rfl rfl rfl (by decide +kernel) ⟨Nat.le_of_ble_eq_true rfl, Nat.le_of_ble_eq_true rfl⟩) (jr_V hK hN hP [0, 1, 3] rfl 6 0 rfl rfl rfl) rfl rfl hl.1 rfl (lv_room (Nat.le_of_ble_eq_true rfl)) dX6_seek_134 ⟨Nat.le_of_ble_eq_true rfl, Nat.le_of_ble_eq_true rfl⟩)) (fun r f_11 => ?_)
              obtain rfl := f_11
              refine lv_lconst (v := 0) hx hb dX6_seek_137 (by decide) ?_
              refine W.lcmp hx hb dX6_seek_138 ?_
              refine lv_topi (fun z_12 e_z_12 => ?_)
              refine lv_if_le (tgt := 146) hx hb dX6_seek_139 (by decide) (fun c_13 => ?_) (fun c_13 => ?_)
              · refine lv_iconst (v := 0) hx hb dX6_seek_146 (by decide) ?_
                refine W.widen (k := 0) (n := 0) (by omega) (by omega) ?_
                exact W.zret (v := 0) (ty := .boolean) hx hb hr rfl (fun t ht hW => ⟨⟨0, [(mo, .inr (6, [.int 0, .ref q1, .int (nI g), .ref q3, .ref q4, .ref q5, .ref q6, .int 1, .int gr, .int kd, .long ws1, .ref q11, .int mk, .long w13, .long w14])), (q3, .inl (cI, 800, .inl m3)), (q5, .inl (cI, 800, .inl m5)), (q6, .inl (cI, 2, .inl (jl [nI n, nI n2]))), (q11, .inl (cI, 24, .inl (jl [nI lo0, nI lo1, 0, 0, 0, 0, 0, 0, 0, 0, (lN ((0 + jPa (jG1 kd) n2 (jsh 400 m3) (jQ true x.toInt64) (jsh 0 m3) n) + jPa (jG2 kd) n (jsh 0 m3) (jQ true x.toInt64) (jsh 400 m3) n2)).toInt32, 0, t12, t13, t14, t15, t16, t17, t18, t19, t20, t21, t22, t23])))], rfl, (by exact Or.inr ⟨_, _, _, _, rfl, rfl, by omega, by omega⟩), by rw [ht]; exact hP, hD⟩, hS.F ht⟩) hS.2.2 dX6_seek_147
              · refine lv_iconst (v := 1) hx hb dX6_seek_142 (by decide) ?_
                refine lv_goto (tgt := 147) hx hb dX6_seek_143 (by decide) ?_
                refine W.widen (k := 0) (n := 0) (by omega) (by omega) ?_
                exact W.zret (v := 1) (ty := .boolean) hx hb hr rfl (fun t ht hW => ⟨⟨1, [(mo, .inr (6, [.int 0, .ref q1, .int (nI g), .ref q3, .ref q4, .ref q5, .ref q6, .int 1, .int gr, .int kd, .long ws1, .ref q11, .int mk, .long w13, .long w14])), (q3, .inl (cI, 800, .inl m3)), (q5, .inl (cI, 800, .inl m5)), (q6, .inl (cI, 2, .inl (jl [nI n, nI n2]))), (q11, .inl (cI, 24, .inl (jl [nI lo0, nI lo1, 0, 0, 0, 0, 0, 0, 0, 0, (lN ((0 + jPa (jG1 kd) n2 (jsh 400 m3) (jQ true x.toInt64) (jsh 0 m3) n) + jPa (jG2 kd) n (jsh 0 m3) (jQ true x.toInt64) (jsh 400 m3) n2)).toInt32, 0, t12, t13, t14, t15, t16, t17, t18, t19, t20, t21, t22, t23])))], rfl, (by exact Or.inl ⟨_, _, _, _, rfl, rfl, by omega, by omega⟩), by rw [ht]; exact hP, hD⟩, hS.F ht⟩) hS.2.2 dX6_seek_147
            · refine lv_iload_n hx hb dX6_seek_48 rfl (lv_at hl 3 rfl) ?_
              refine lv_iload hx hb dX6_seek_49 (lv_at hl 4 rfl) ?_
              refine lv_iadd hx hb dX6_seek_51 ?_
              refine lv_topi (fun z_14 e_z_14 => ?_)
              obtain rfl : z_14 = nI (lo1 + hi1) := e_z_14.trans (nI_add lo1 hi1)
              refine lv_iconst (v := 2) hx hb dX6_seek_52 (by decide) ?_
              refine lv_idiv hx hb dX6_seek_53 (by decide) ?_
              refine lv_topi (fun z_15 e_z_15 => ?_)
              obtain rfl : z_15 = nI ((lo1 + hi1) / 2) := e_z_15.trans (pk_div (show (lo1 + hi1) < 2 ^ 31 by omega) (by decide) (by decide))
              refine lv_istore (lv' := [(5, .int (nI ((lo1 + hi1) / 2))), (0, .ref mo), (1, .int x), (2, .int 1), (3, .int (nI lo1)), (4, .int (nI hi1))]) hx hb dX6_seek_54 hl (by decide) rfl (fun ls hl => ?_)
              refine lv_aload_n hx hb dX6_seek_56 rfl (lv_at hl 1 rfl) ?_
              refine lv_dup hx hb dX6_seek_57 rfl ?_
              refine va_get (D := D) (ci := 6) (v := .long ws1) (C := RX6) (T := TX6) (N := 15) hx hb hts (by decide +kernel) hown hK hP 0 rfl rfl 10 (by decide) (hts (.fieldLink RX6 53 "JoinDeskModel" "cells" "J") (by decide +kernel)) (fun _ h9 => h9) rfl dX6_seek_58 ?_
              refine lv_lconst (v := 1) hx hb dX6_seek_61 (by decide) ?_
              refine lv_ladd hx hb dX6_seek_62 ?_
              refine va_put (D := D) (ci := 6) (v := .long (ws1 + 1)) (ty := .long) (C := RX6) (T := TX6) (N := 15) hx hb hts (by decide +kernel) tyX6 tyX6_ok nmX6 hown hK hP hD hS 0 rfl rfl 10 (by decide) (hts (.fieldLink RX6 53 "JoinDeskModel" "cells" "J") (by decide +kernel)) (fun _ h9 => h9) rfl (by decide +kernel) rfl rfl (Nat.le_of_ble_eq_true rfl) dX6_seek_63 (fun H locs hP hD hS => ?_)
              have hP : va_P D vwCl [(mo, .inr (6, [.int 0, .ref q1, .int (nI g), .ref q3, .ref q4, .ref q5, .ref q6, .int 1, .int gr, .int kd, .long (ws1 + 1), .ref q11, .int mk, .long w13, .long w14])), (q3, .inl (cI, 800, .inl m3)), (q5, .inl (cI, 800, .inl m5)), (q6, .inl (cI, 2, .inl (jl [nI n, nI n2]))), (q11, .inl (cI, 24, .inl (jl [nI lo0, 0, 0, 0, 0, 0, 0, 0, 0, 0, 0, 0, t12, t13, t14, t15, t16, t17, t18, t19, t20, t21, t22, t23])))] H := hP
              have hD : va_D A [(mo, .inr (6, [.int 0, .ref q1, .int (nI g), .ref q3, .ref q4, .ref q5, .ref q6, .int 1, .int gr, .int kd, .long (ws1 + 1), .ref q11, .int mk, .long w13, .long w14])), (q3, .inl (cI, 800, .inl m3)), (q5, .inl (cI, 800, .inl m5)), (q6, .inl (cI, 2, .inl (jl [nI n, nI n2]))), (q11, .inl (cI, 24, .inl (jl [nI lo0, 0, 0, 0, 0, 0, 0, 0, 0, 0, 0, 0, t12, t13, t14, t15, t16, t17, t18, t19, t20, t21, t22, t23])))] := hD
              refine lv_aload_n hx hb dX6_seek_66 rfl (lv_at hl 1 rfl) ?_
              refine lv_iload_n hx hb dX6_seek_67 rfl (lv_at hl 3 rfl) ?_
              refine lv_iload hx hb dX6_seek_68 (lv_at hl 0 rfl) ?_
              refine vp_callSi (va_Run.run (va_runV (As := [.int 1, .int (nI ((lo1 + hi1) / 2))]) (rest := []) ⟨hx, hb, hml, hown, hts⟩ (gM_key_1 l D cI cL cQ mo g q1 q3 q4 q5 q6 q11 0 1 gr kd mk (ws1 + 1) w13 w14 m3 m5 ((lo1 + hi1) / 2) (by first | assumption | decide | omega) (by rw [nI_leI (by omega) (by omega)] at cs1; omega)) (cwV 2 hts gX6_seek_X6_key rfl rfl rfl (by decide +kernel) ⟨Nat.le_of_ble_eq_true rfl, Nat.le_of_ble_eq_true rfl⟩) (jr_V hK hN hP [0, 1, 2] rfl 6 0 rfl rfl rfl) rfl rfl hl.1 rfl (lv_room (Nat.le_of_ble_eq_true rfl)) dX6_seek_70 ⟨Nat.le_of_ble_eq_true rfl, Nat.le_of_ble_eq_true rfl⟩)) (fun r f_16 => ?_)
              obtain rfl := f_16
              refine lv_iload_n hx hb dX6_seek_73 rfl (lv_at hl 2 rfl) ?_
              refine lv_icmp_ge (tgt := 85) hx hb dX6_seek_74 (by decide) (fun c_17 => ?_) (fun c_17 => ?_)
              · refine lv_iload hx hb dX6_seek_85 (lv_at hl 0 rfl) ?_
                refine lv_istore (lv' := [(4, .int (nI ((lo1 + hi1) / 2))), (5, .int (nI ((lo1 + hi1) / 2))), (0, .ref mo), (1, .int x), (2, .int 1), (3, .int (nI lo1))]) hx hb dX6_seek_87 hl (by decide) rfl (fun ls hl => ?_)
                refine lv_goto (tgt := 42) hx hb dX6_seek_89 (by decide) ?_
                exact ih_2 lo1 ((lo1 + hi1) / 2) (ws1 + 1) (by rw [nI_leI (by omega) (by omega)] at cs1; omega) (by rw [nI_leI (by omega) (by omega)] at cs1; omega) (by rw [nI_leI (by omega) (by omega)] at cs1; omega) _ _ hP hD hS ls (lv_sub hl [2, 3, 4, 5, 0] rfl)
              · refine lv_iload hx hb dX6_seek_77 (lv_at hl 0 rfl) ?_
                refine lv_iconst (v := 1) hx hb dX6_seek_79 (by decide) ?_
                refine lv_iadd hx hb dX6_seek_80 ?_
                refine lv_topi (fun z_18 e_z_18 => ?_)
                obtain rfl : z_18 = nI (((lo1 + hi1) / 2) + 1) := e_z_18.trans (nI_add ((lo1 + hi1) / 2) 1)
                refine lv_istore_n (lv' := [(3, .int (nI (((lo1 + hi1) / 2) + 1))), (5, .int (nI ((lo1 + hi1) / 2))), (0, .ref mo), (1, .int x), (2, .int 1), (4, .int (nI hi1))]) hx hb dX6_seek_81 rfl hl (by decide) rfl (fun ls hl => ?_)
                refine lv_goto (tgt := 89) hx hb dX6_seek_82 (by decide) ?_
                refine lv_goto (tgt := 42) hx hb dX6_seek_89 (by decide) ?_
                exact ih_2 (((lo1 + hi1) / 2) + 1) hi1 (ws1 + 1) (by rw [nI_leI (by omega) (by omega)] at cs1; omega) (by rw [nI_leI (by omega) (by omega)] at cs1; omega) (by rw [nI_leI (by omega) (by omega)] at cs1; omega) _ _ hP hD hS ls (lv_sub hl [2, 3, 4, 0, 5] rfl)
        exact hloop_2 (n2 - 0 + 1) 0 n2 ws0 (Nat.lt_succ_self _) (Nat.zero_le _) (Nat.le_refl _) _ _ hP hD hS ls (lv_sub hl [3, 4, 2, 1, 0] rfl)
      · refine lv_iload_n hx hb dX6_seek_48 rfl (lv_at hl 3 rfl) ?_
        refine lv_iload hx hb dX6_seek_49 (lv_at hl 4 rfl) ?_
        refine lv_iadd hx hb dX6_seek_51 ?_
        refine lv_topi (fun z_19 e_z_19 => ?_)
        obtain rfl : z_19 = nI (lo0 + hi0) := e_z_19.trans (nI_add lo0 hi0)
        refine lv_iconst (v := 2) hx hb dX6_seek_52 (by decide) ?_
        refine lv_idiv hx hb dX6_seek_53 (by decide) ?_
        refine lv_topi (fun z_20 e_z_20 => ?_)
        obtain rfl : z_20 = nI ((lo0 + hi0) / 2) := e_z_20.trans (pk_div (show (lo0 + hi0) < 2 ^ 31 by omega) (by decide) (by decide))
        refine lv_istore (lv' := [(5, .int (nI ((lo0 + hi0) / 2))), (0, .ref mo), (1, .int x), (2, .int 0), (3, .int (nI lo0)), (4, .int (nI hi0))]) hx hb dX6_seek_54 hl (by decide) rfl (fun ls hl => ?_)
        refine lv_aload_n hx hb dX6_seek_56 rfl (lv_at hl 1 rfl) ?_
        refine lv_dup hx hb dX6_seek_57 rfl ?_
        refine va_get (D := D) (ci := 6) (v := .long ws0) (C := RX6) (T := TX6) (N := 15) hx hb hts (by decide +kernel) hown hK hP 0 rfl rfl 10 (by decide) (hts (.fieldLink RX6 53 "JoinDeskModel" "cells" "J") (by decide +kernel)) (fun _ h9 => h9) rfl dX6_seek_58 ?_
        refine lv_lconst (v := 1) hx hb dX6_seek_61 (by decide) ?_
        refine lv_ladd hx hb dX6_seek_62 ?_
        refine va_put (D := D) (ci := 6) (v := .long (ws0 + 1)) (ty := .long) (C := RX6) (T := TX6) (N := 15) hx hb hts (by decide +kernel) tyX6 tyX6_ok nmX6 hown hK hP hD hS 0 rfl rfl 10 (by decide) (hts (.fieldLink RX6 53 "JoinDeskModel" "cells" "J") (by decide +kernel)) (fun _ h9 => h9) rfl (by decide +kernel) rfl rfl (Nat.le_of_ble_eq_true rfl) dX6_seek_63 (fun H locs hP hD hS => ?_)
        have hP : va_P D vwCl [(mo, .inr (6, [.int 0, .ref q1, .int (nI g), .ref q3, .ref q4, .ref q5, .ref q6, .int 1, .int gr, .int kd, .long (ws0 + 1), .ref q11, .int mk, .long w13, .long w14])), (q3, .inl (cI, 800, .inl m3)), (q5, .inl (cI, 800, .inl m5)), (q6, .inl (cI, 2, .inl (jl [nI n, nI n2]))), (q11, .inl (cI, 24, .inl (jl [0, 0, 0, 0, 0, 0, 0, 0, 0, 0, 0, 0, t12, t13, t14, t15, t16, t17, t18, t19, t20, t21, t22, t23])))] H := hP
        have hD : va_D A [(mo, .inr (6, [.int 0, .ref q1, .int (nI g), .ref q3, .ref q4, .ref q5, .ref q6, .int 1, .int gr, .int kd, .long (ws0 + 1), .ref q11, .int mk, .long w13, .long w14])), (q3, .inl (cI, 800, .inl m3)), (q5, .inl (cI, 800, .inl m5)), (q6, .inl (cI, 2, .inl (jl [nI n, nI n2]))), (q11, .inl (cI, 24, .inl (jl [0, 0, 0, 0, 0, 0, 0, 0, 0, 0, 0, 0, t12, t13, t14, t15, t16, t17, t18, t19, t20, t21, t22, t23])))] := hD
        refine lv_aload_n hx hb dX6_seek_66 rfl (lv_at hl 1 rfl) ?_
        refine lv_iload_n hx hb dX6_seek_67 rfl (lv_at hl 3 rfl) ?_
        refine lv_iload hx hb dX6_seek_68 (lv_at hl 0 rfl) ?_
        refine vp_callSi (va_Run.run (va_runV (As := [.int 0, .int (nI ((lo0 + hi0) / 2))]) (rest := []) ⟨hx, hb, hml, hown, hts⟩ (gM_key_0 l D cI cL cQ mo g q1 q3 q4 q5 q6 q11 0 1 gr kd mk (ws0 + 1) w13 w14 m3 m5 ((lo0 + hi0) / 2) (by first | assumption | decide | omega) (by rw [nI_leI (by omega) (by omega)] at cs0; omega)) (cwV 2 hts gX6_seek_X6_key rfl rfl rfl (by decide +kernel) ⟨Nat.le_of_ble_eq_true rfl, Nat.le_of_ble_eq_true rfl⟩) (jr_V hK hN hP [0, 1, 2] rfl 6 0 rfl rfl rfl) rfl rfl hl.1 rfl (lv_room (Nat.le_of_ble_eq_true rfl)) dX6_seek_70 ⟨Nat.le_of_ble_eq_true rfl, Nat.le_of_ble_eq_true rfl⟩)) (fun r f_21 => ?_)
        obtain rfl := f_21
        refine lv_iload_n hx hb dX6_seek_73 rfl (lv_at hl 2 rfl) ?_
        refine lv_icmp_ge (tgt := 85) hx hb dX6_seek_74 (by decide) (fun c_22 => ?_) (fun c_22 => ?_)
        · refine lv_iload hx hb dX6_seek_85 (lv_at hl 0 rfl) ?_
          refine lv_istore (lv' := [(4, .int (nI ((lo0 + hi0) / 2))), (5, .int (nI ((lo0 + hi0) / 2))), (0, .ref mo), (1, .int x), (2, .int 0), (3, .int (nI lo0))]) hx hb dX6_seek_87 hl (by decide) rfl (fun ls hl => ?_)
          refine lv_goto (tgt := 42) hx hb dX6_seek_89 (by decide) ?_
          exact ih_1 lo0 ((lo0 + hi0) / 2) (ws0 + 1) (by rw [nI_leI (by omega) (by omega)] at cs0; omega) (by rw [nI_leI (by omega) (by omega)] at cs0; omega) (by rw [nI_leI (by omega) (by omega)] at cs0; omega) _ _ hP hD hS ls (lv_sub hl [2, 3, 4, 5, 0] rfl)
        · refine lv_iload hx hb dX6_seek_77 (lv_at hl 0 rfl) ?_
          refine lv_iconst (v := 1) hx hb dX6_seek_79 (by decide) ?_
          refine lv_iadd hx hb dX6_seek_80 ?_
          refine lv_topi (fun z_23 e_z_23 => ?_)
          obtain rfl : z_23 = nI (((lo0 + hi0) / 2) + 1) := e_z_23.trans (nI_add ((lo0 + hi0) / 2) 1)
          refine lv_istore_n (lv' := [(3, .int (nI (((lo0 + hi0) / 2) + 1))), (5, .int (nI ((lo0 + hi0) / 2))), (0, .ref mo), (1, .int x), (2, .int 0), (4, .int (nI hi0))]) hx hb dX6_seek_81 rfl hl (by decide) rfl (fun ls hl => ?_)
          refine lv_goto (tgt := 89) hx hb dX6_seek_82 (by decide) ?_
          refine lv_goto (tgt := 42) hx hb dX6_seek_89 (by decide) ?_
          exact ih_1 (((lo0 + hi0) / 2) + 1) hi0 (ws0 + 1) (by rw [nI_leI (by omega) (by omega)] at cs0; omega) (by rw [nI_leI (by omega) (by omega)] at cs0; omega) (by rw [nI_leI (by omega) (by omega)] at cs0; omega) _ _ hP hD hS ls (lv_sub hl [2, 3, 4, 0, 5] rfl)
  exact hloop_1 (n - 0 + 1) 0 n w10 (Nat.lt_succ_self _) (Nat.zero_le _) (Nat.le_refl _) _ _ hP hD hS ls (lv_sub hl [3, 4, 2, 1, 0] rfl)
set_option maxHeartbeats 1000000 in
set_option maxRecDepth 100000 in
theorem gM_count_a (l : Launch) (D : va_G) (cI cL cQ : ClassId) (mo : Nat) (g : Nat) (q1 : Nat) (q3 : Nat) (q4 : Nat) (q5 : Nat) (q6 : Nat) (q11 : Nat) (z0 : Int32) (pr : Int32) (gr : Int32) (kd : Int32) (mk : Int32) (w10 : Int64) (w13 : Int64) (w14 : Int64) (x : Int32) (sz : Nat) (h1 : x < 0 ∨ 3 < x) : Met l yX6_count wsX6_count ({ frames := 1, cells := 0, slots := 0, locals := 21 }) (jw_P D vwCl (jT cI cL cQ) cL cQ [.ref mo, .int x] [(mo, .inr (6, [.int z0, .ref q1, .int (nI g), .ref q3, .ref q4, .ref q5, .ref q6, .int pr, .int gr, .int kd, .long w10, .ref q11, .int mk, .long w13, .long w14]))] sz) (va_Ql (fun (r : Int64) (u : va_W) => r = 0 ∧ u = [(mo, .inr (6, [.int 1, .ref q1, .int (nI g), .ref q3, .ref q4, .ref q5, .ref q6, .int pr, .int gr, .int kd, .long w10, .ref q11, .int mk, .long w13, .long w14]))]) (jw_B D vwCl (va_A [(mo, .inr (6, [.int z0, .ref q1, .int (nI g), .ref q3, .ref q4, .ref q5, .ref q6, .int pr, .int gr, .int kd, .long w10, .ref q11, .int mk, .long w13, .long w14]))] sz) (fun u : va_W => u)) (va_A [(mo, .inr (6, [.int z0, .ref q1, .int (nI g), .ref q3, .ref q4, .ref q5, .ref q6, .int pr, .int gr, .int kd, .long w10, .ref q11, .int mk, .long w13, .long w14]))] sz)) 0 0 (va_A [(mo, .inr (6, [.int z0, .ref q1, .int (nI g), .ref q3, .ref q4, .ref q5, .ref q6, .int pr, .int gr, .int kd, .long w10, .ref q11, .int mk, .long w13, .long w14]))] sz) := by
  refine Met.ofW (cc := cX6_count) (maxL := 2) (ret := (some .long)) (by decide) rfl ?_
  intro p e s m args below meth c s₁ B hml hv
  obtain ⟨rfl, hsz, hP, hK, hN, hD0⟩ := hv
  have hx := B.exec
  have hb := B.bytes
  have hr := B.returns
  have hts := atoms_spec (ws := wsX6_count) B.pre
  have hown : s.vm.findClass RX6 = some m.cls := findClass_of_methodNamed B.named
  have hlocks := B.notSynchronized
  subst hsz
  have hD := hD0.self (sz := s.heap.size)
  generalize hAe : va_A [(mo, .inr (6, [.int z0, .ref q1, .int (nI g), .ref q3, .ref q4, .ref q5, .ref q6, .int pr, .int gr, .int kd, .long w10, .ref q11, .int mk, .long w13, .long w14]))] s.heap.size = A at hD ⊢
  have hA : ∀ q : Nat, s.heap.size ≤ q → A q := fun q h => by rw [← hAe]; exact Or.inr h
  have hS : va_S A s.heap s.heap [] := va_S.rf
  have hl := lv_entry ([.ref mo, .int x]) (n := 2) (Nat.le_of_ble_eq_true rfl)
  rw [lg_entry_eq]
  generalize (lg_sl ([.ref mo, .int x]) ++ List.replicate (2 - (lg_sl ([.ref mo, .int x])).length) Slot.unset).toArray = ls at hl ⊢
  have hl : lv_has ls 2 [(0, .ref mo), (1, .int x)] := hl
  refine lv_aload_n hx hb dX6_count_0 rfl (lv_at hl 0 rfl) ?_
  refine lv_iload_n hx hb dX6_count_1 rfl (lv_at hl 1 rfl) ?_
  refine lv_if_lt (tgt := 10) hx hb dX6_count_2 (by decide) (fun c_1 => ?_) (fun c_1 => ?_)
  · refine lv_iconst (v := 1) hx hb dX6_count_10 (by decide) ?_
    refine lv_goto (tgt := 26) hx hb dX6_count_11 (by decide) ?_
    refine jw_i (wr := []) (va_runV (As := [.int 1]) (rest := []) ⟨hx, hb, hml, hown, hts⟩ (gM_refuses_1 l D cI cL cQ mo g q1 q3 q4 q5 q6 q11 z0 pr gr kd mk w10 w13 w14 _) (cwV 1 hts gX6_count_X6_refuses rfl rfl rfl (by decide +kernel) ⟨Nat.le_of_ble_eq_true rfl, Nat.le_of_ble_eq_true rfl⟩) (jw_V hK hN hP hD [0] (by decide) rfl 6 0 rfl rfl rfl) rfl rfl hl.1 rfl (lv_room (Nat.le_of_ble_eq_true rfl)) dX6_count_26 ⟨Nat.le_of_ble_eq_true rfl, Nat.le_of_ble_eq_true rfl⟩) hP hD hS hA [0] [] rfl rfl (by decide) (by decide) (fun r u H locs f_2 hP hD hS => ?_)
    obtain ⟨rfl, rfl⟩ := f_2
    have hP : va_P D vwCl [(mo, .inr (6, [.int 1, .ref q1, .int (nI g), .ref q3, .ref q4, .ref q5, .ref q6, .int pr, .int gr, .int kd, .long w10, .ref q11, .int mk, .long w13, .long w14]))] H := hP
    have hD : va_D A [(mo, .inr (6, [.int 1, .ref q1, .int (nI g), .ref q3, .ref q4, .ref q5, .ref q6, .int pr, .int gr, .int kd, .long w10, .ref q11, .int mk, .long w13, .long w14]))] := hD
    refine lv_if_eq (tgt := 34) hx hb dX6_count_29 (by decide) (fun c_3 => absurd c_3 (by decide)) (fun c_3 => ?_)
    refine lv_lconst (v := 0) hx hb dX6_count_32 (by decide) ?_
    refine W.widen (k := 0) (n := 0) (by omega) (by omega) ?_
    exact W.lret (v := 0) hx hb hr (fun t ht hW => ⟨⟨0, [(mo, .inr (6, [.int 1, .ref q1, .int (nI g), .ref q3, .ref q4, .ref q5, .ref q6, .int pr, .int gr, .int kd, .long w10, .ref q11, .int mk, .long w13, .long w14]))], rfl, (by exact ⟨rfl, rfl⟩), by rw [ht]; exact hP, hD⟩, hS.F ht⟩) hS.2.2 dX6_count_33
  · refine lv_iload_n hx hb dX6_count_5 rfl (lv_at hl 1 rfl) ?_
    refine lv_iconst (v := 3) hx hb dX6_count_6 (by decide) ?_
    refine lv_icmp_le (tgt := 14) hx hb dX6_count_7 (by decide) (fun c_4 => absurd c_4 (by exact j_nle (h1.resolve_left (by assumption)))) (fun c_4 => ?_)
    refine lv_iconst (v := 1) hx hb dX6_count_10 (by decide) ?_
    refine lv_goto (tgt := 26) hx hb dX6_count_11 (by decide) ?_
    refine jw_i (wr := []) (va_runV (As := [.int 1]) (rest := []) ⟨hx, hb, hml, hown, hts⟩ (gM_refuses_1 l D cI cL cQ mo g q1 q3 q4 q5 q6 q11 z0 pr gr kd mk w10 w13 w14 _) (cwV 1 hts gX6_count_X6_refuses rfl rfl rfl (by decide +kernel) ⟨Nat.le_of_ble_eq_true rfl, Nat.le_of_ble_eq_true rfl⟩) (jw_V hK hN hP hD [0] (by decide) rfl 6 0 rfl rfl rfl) rfl rfl hl.1 rfl (lv_room (Nat.le_of_ble_eq_true rfl)) dX6_count_26 ⟨Nat.le_of_ble_eq_true rfl, Nat.le_of_ble_eq_true rfl⟩) hP hD hS hA [0] [] rfl rfl (by decide) (by decide) (fun r u H locs f_5 hP hD hS => ?_)
    obtain ⟨rfl, rfl⟩ := f_5
    have hP : va_P D vwCl [(mo, .inr (6, [.int 1, .ref q1, .int (nI g), .ref q3, .ref q4, .ref q5, .ref q6, .int pr, .int gr, .int kd, .long w10, .ref q11, .int mk, .long w13, .long w14]))] H := hP
    have hD : va_D A [(mo, .inr (6, [.int 1, .ref q1, .int (nI g), .ref q3, .ref q4, .ref q5, .ref q6, .int pr, .int gr, .int kd, .long w10, .ref q11, .int mk, .long w13, .long w14]))] := hD
    refine lv_if_eq (tgt := 34) hx hb dX6_count_29 (by decide) (fun c_6 => absurd c_6 (by decide)) (fun c_6 => ?_)
    refine lv_lconst (v := 0) hx hb dX6_count_32 (by decide) ?_
    refine W.widen (k := 0) (n := 0) (by omega) (by omega) ?_
    exact W.lret (v := 0) hx hb hr (fun t ht hW => ⟨⟨0, [(mo, .inr (6, [.int 1, .ref q1, .int (nI g), .ref q3, .ref q4, .ref q5, .ref q6, .int pr, .int gr, .int kd, .long w10, .ref q11, .int mk, .long w13, .long w14]))], rfl, (by exact ⟨rfl, rfl⟩), by rw [ht]; exact hP, hD⟩, hS.F ht⟩) hS.2.2 dX6_count_33
set_option maxHeartbeats 1000000 in
set_option maxRecDepth 100000 in
theorem gM_count_s (l : Launch) (D : va_G) (cI cL cQ : ClassId) (mo : Nat) (g : Nat) (q1 : Nat) (q3 : Nat) (q4 : Nat) (q5 : Nat) (q6 : Nat) (q11 : Nat) (z0 : Int32) (gr : Int32) (kd : Int32) (mk : Int32) (w10 : Int64) (w13 : Int64) (w14 : Int64) (x : Int32) (sz : Nat) (h1 : ¬ x < 0) (h2 : x ≤ 3) : Met l yX6_count wsX6_count ({ frames := 1, cells := 0, slots := 0, locals := 21 }) (jw_P D vwCl (jT cI cL cQ) cL cQ [.ref mo, .int x] [(mo, .inr (6, [.int z0, .ref q1, .int (nI g), .ref q3, .ref q4, .ref q5, .ref q6, .int 0, .int gr, .int kd, .long w10, .ref q11, .int mk, .long w13, .long w14]))] sz) (va_Ql (fun (r : Int64) (u : va_W) => r = 0 ∧ u = [(mo, .inr (6, [.int 2, .ref q1, .int (nI g), .ref q3, .ref q4, .ref q5, .ref q6, .int 0, .int gr, .int kd, .long w10, .ref q11, .int mk, .long w13, .long w14]))]) (jw_B D vwCl (va_A [(mo, .inr (6, [.int z0, .ref q1, .int (nI g), .ref q3, .ref q4, .ref q5, .ref q6, .int 0, .int gr, .int kd, .long w10, .ref q11, .int mk, .long w13, .long w14]))] sz) (fun u : va_W => u)) (va_A [(mo, .inr (6, [.int z0, .ref q1, .int (nI g), .ref q3, .ref q4, .ref q5, .ref q6, .int 0, .int gr, .int kd, .long w10, .ref q11, .int mk, .long w13, .long w14]))] sz)) 0 0 (va_A [(mo, .inr (6, [.int z0, .ref q1, .int (nI g), .ref q3, .ref q4, .ref q5, .ref q6, .int 0, .int gr, .int kd, .long w10, .ref q11, .int mk, .long w13, .long w14]))] sz) := by
  refine Met.ofW (cc := cX6_count) (maxL := 2) (ret := (some .long)) (by decide) rfl ?_
  intro p e s m args below meth c s₁ B hml hv
  obtain ⟨rfl, hsz, hP, hK, hN, hD0⟩ := hv
  have hx := B.exec
  have hb := B.bytes
  have hr := B.returns
  have hts := atoms_spec (ws := wsX6_count) B.pre
  have hown : s.vm.findClass RX6 = some m.cls := findClass_of_methodNamed B.named
  have hlocks := B.notSynchronized
  subst hsz
  have hD := hD0.self (sz := s.heap.size)
  generalize hAe : va_A [(mo, .inr (6, [.int z0, .ref q1, .int (nI g), .ref q3, .ref q4, .ref q5, .ref q6, .int 0, .int gr, .int kd, .long w10, .ref q11, .int mk, .long w13, .long w14]))] s.heap.size = A at hD ⊢
  have hA : ∀ q : Nat, s.heap.size ≤ q → A q := fun q h => by rw [← hAe]; exact Or.inr h
  have hS : va_S A s.heap s.heap [] := va_S.rf
  have hl := lv_entry ([.ref mo, .int x]) (n := 2) (Nat.le_of_ble_eq_true rfl)
  rw [lg_entry_eq]
  generalize (lg_sl ([.ref mo, .int x]) ++ List.replicate (2 - (lg_sl ([.ref mo, .int x])).length) Slot.unset).toArray = ls at hl ⊢
  have hl : lv_has ls 2 [(0, .ref mo), (1, .int x)] := hl
  refine lv_aload_n hx hb dX6_count_0 rfl (lv_at hl 0 rfl) ?_
  refine lv_iload_n hx hb dX6_count_1 rfl (lv_at hl 1 rfl) ?_
  refine lv_if_lt (tgt := 10) hx hb dX6_count_2 (by decide) (fun c_1 => absurd c_1 (by exact h1)) (fun c_1 => ?_)
  refine lv_iload_n hx hb dX6_count_5 rfl (lv_at hl 1 rfl) ?_
  refine lv_iconst (v := 3) hx hb dX6_count_6 (by decide) ?_
  refine lv_icmp_le (tgt := 14) hx hb dX6_count_7 (by decide) (fun c_2 => ?_) (fun c_2 => absurd c_2 (by exact fun h => h h2))
  refine lv_aload_n hx hb dX6_count_14 rfl (lv_at hl 0 rfl) ?_
  refine va_get (D := D) (ci := 6) (v := .int 0) (C := RX6) (T := TX6) (N := 15) hx hb hts (by decide +kernel) hown hK hP 0 rfl rfl 7 (by decide) (hts (.fieldLink RX6 43 "JoinDeskModel" "prepared" "Z") (by decide +kernel)) (fun _ h9 => h9) rfl dX6_count_15 ?_
  refine lv_if_eq (tgt := 25) hx hb dX6_count_18 (by decide) (fun c_3 => ?_) (fun c_3 => absurd c_3 (by decide))
  refine lv_iconst (v := 2) hx hb dX6_count_25 (by decide) ?_
  refine jw_i (wr := []) (va_runV (As := [.int 2]) (rest := []) ⟨hx, hb, hml, hown, hts⟩ (gM_refuses_2 l D cI cL cQ mo g q1 q3 q4 q5 q6 q11 z0 0 gr kd mk w10 w13 w14 _) (cwV 1 hts gX6_count_X6_refuses rfl rfl rfl (by decide +kernel) ⟨Nat.le_of_ble_eq_true rfl, Nat.le_of_ble_eq_true rfl⟩) (jw_V hK hN hP hD [0] (by decide) rfl 6 0 rfl rfl rfl) rfl rfl hl.1 rfl (lv_room (Nat.le_of_ble_eq_true rfl)) dX6_count_26 ⟨Nat.le_of_ble_eq_true rfl, Nat.le_of_ble_eq_true rfl⟩) hP hD hS hA [0] [] rfl rfl (by decide) (by decide) (fun r u H locs f_4 hP hD hS => ?_)
  obtain ⟨rfl, rfl⟩ := f_4
  have hP : va_P D vwCl [(mo, .inr (6, [.int 2, .ref q1, .int (nI g), .ref q3, .ref q4, .ref q5, .ref q6, .int 0, .int gr, .int kd, .long w10, .ref q11, .int mk, .long w13, .long w14]))] H := hP
  have hD : va_D A [(mo, .inr (6, [.int 2, .ref q1, .int (nI g), .ref q3, .ref q4, .ref q5, .ref q6, .int 0, .int gr, .int kd, .long w10, .ref q11, .int mk, .long w13, .long w14]))] := hD
  refine lv_if_eq (tgt := 34) hx hb dX6_count_29 (by decide) (fun c_5 => absurd c_5 (by decide)) (fun c_5 => ?_)
  refine lv_lconst (v := 0) hx hb dX6_count_32 (by decide) ?_
  refine W.widen (k := 0) (n := 0) (by omega) (by omega) ?_
  exact W.lret (v := 0) hx hb hr (fun t ht hW => ⟨⟨0, [(mo, .inr (6, [.int 2, .ref q1, .int (nI g), .ref q3, .ref q4, .ref q5, .ref q6, .int 0, .int gr, .int kd, .long w10, .ref q11, .int mk, .long w13, .long w14]))], rfl, (by exact ⟨rfl, rfl⟩), by rw [ht]; exact hP, hD⟩, hS.F ht⟩) hS.2.2 dX6_count_33
set_option maxHeartbeats 1000000 in
set_option maxRecDepth 100000 in
theorem gM_count (l : Launch) (D : va_G) (cI cL cQ : ClassId) (mo : Nat) (g : Nat) (n : Nat) (n2 : Nat) (q1 : Nat) (q3 : Nat) (q4 : Nat) (q5 : Nat) (q6 : Nat) (q11 : Nat) (z0 : Int32) (gr : Int32) (kd : Int32) (mk : Int32) (w10 : Int64) (w13 : Int64) (w14 : Int64) (m3 : Nat → Int32) (x : Int32) (sz : Nat) (hn : n ≤ 400) (hn2 : n2 ≤ 400) (h1 : ¬ x < 0) (h2 : x ≤ 3) : Met l yX6_count wsX6_count ({ frames := 2, cells := 0, slots := 0, locals := 54 }) (jw_P D vwCl (jT cI cL cQ) cL cQ [.ref mo, .int x] [(mo, .inr (6, [.int z0, .ref q1, .int (nI g), .ref q3, .ref q4, .ref q5, .ref q6, .int 1, .int gr, .int kd, .long w10, .ref q11, .int mk, .long w13, .long w14])), (q3, .inl (cI, 800, .inl m3)), (q6, .inl (cI, 2, .inl (jl [nI n, nI n2])))] sz) (va_Ql (fun (r : Int64) (u : va_W) => r = lN (0 + jPa (jG1 x) n2 (jsh 400 m3) (jQ true 3000000000) (jsh 0 m3) n + jPa (jG2 x) n (jsh 0 m3) (jQ true 3000000000) (jsh 400 m3) n2) ∧ u = [(mo, .inr (6, [.int 0, .ref q1, .int (nI g), .ref q3, .ref q4, .ref q5, .ref q6, .int 1, .int gr, .int kd, .long w10, .ref q11, .int mk, .long w13, .long w14])), (q3, .inl (cI, 800, .inl m3)), (q6, .inl (cI, 2, .inl (jl [nI n, nI n2])))]) (jw_B D vwCl (va_A [(mo, .inr (6, [.int z0, .ref q1, .int (nI g), .ref q3, .ref q4, .ref q5, .ref q6, .int 1, .int gr, .int kd, .long w10, .ref q11, .int mk, .long w13, .long w14])), (q3, .inl (cI, 800, .inl m3)), (q6, .inl (cI, 2, .inl (jl [nI n, nI n2])))] sz) (fun u : va_W => u)) (va_A [(mo, .inr (6, [.int z0, .ref q1, .int (nI g), .ref q3, .ref q4, .ref q5, .ref q6, .int 1, .int gr, .int kd, .long w10, .ref q11, .int mk, .long w13, .long w14])), (q3, .inl (cI, 800, .inl m3)), (q6, .inl (cI, 2, .inl (jl [nI n, nI n2])))] sz)) 0 0 (va_A [(mo, .inr (6, [.int z0, .ref q1, .int (nI g), .ref q3, .ref q4, .ref q5, .ref q6, .int 1, .int gr, .int kd, .long w10, .ref q11, .int mk, .long w13, .long w14])), (q3, .inl (cI, 800, .inl m3)), (q6, .inl (cI, 2, .inl (jl [nI n, nI n2])))] sz) := by
  refine Met.ofW (cc := cX6_count) (maxL := 2) (ret := (some .long)) (by decide) rfl ?_
  intro p e s m args below meth c s₁ B hml hv
  obtain ⟨rfl, hsz, hP, hK, hN, hD0⟩ := hv
  have hx := B.exec
  have hb := B.bytes
  have hr := B.returns
  have hts := atoms_spec (ws := wsX6_count) B.pre
  have hown : s.vm.findClass RX6 = some m.cls := findClass_of_methodNamed B.named
  have hlocks := B.notSynchronized
  subst hsz
  have hD := hD0.self (sz := s.heap.size)
  generalize hAe : va_A [(mo, .inr (6, [.int z0, .ref q1, .int (nI g), .ref q3, .ref q4, .ref q5, .ref q6, .int 1, .int gr, .int kd, .long w10, .ref q11, .int mk, .long w13, .long w14])), (q3, .inl (cI, 800, .inl m3)), (q6, .inl (cI, 2, .inl (jl [nI n, nI n2])))] s.heap.size = A at hD ⊢
  have hA : ∀ q : Nat, s.heap.size ≤ q → A q := fun q h => by rw [← hAe]; exact Or.inr h
  have hS : va_S A s.heap s.heap [] := va_S.rf
  have hl := lv_entry ([.ref mo, .int x]) (n := 2) (Nat.le_of_ble_eq_true rfl)
  rw [lg_entry_eq]
  generalize (lg_sl ([.ref mo, .int x]) ++ List.replicate (2 - (lg_sl ([.ref mo, .int x])).length) Slot.unset).toArray = ls at hl ⊢
  have hl : lv_has ls 2 [(0, .ref mo), (1, .int x)] := hl
  refine lv_aload_n hx hb dX6_count_0 rfl (lv_at hl 0 rfl) ?_
  refine lv_iload_n hx hb dX6_count_1 rfl (lv_at hl 1 rfl) ?_
  refine lv_if_lt (tgt := 10) hx hb dX6_count_2 (by decide) (fun c_1 => absurd c_1 (by exact h1)) (fun c_1 => ?_)
  refine lv_iload_n hx hb dX6_count_5 rfl (lv_at hl 1 rfl) ?_
  refine lv_iconst (v := 3) hx hb dX6_count_6 (by decide) ?_
  refine lv_icmp_le (tgt := 14) hx hb dX6_count_7 (by decide) (fun c_2 => ?_) (fun c_2 => absurd c_2 (by exact fun h => h h2))
  refine lv_aload_n hx hb dX6_count_14 rfl (lv_at hl 0 rfl) ?_
  refine va_get (D := D) (ci := 6) (v := .int 1) (C := RX6) (T := TX6) (N := 15) hx hb hts (by decide +kernel) hown hK hP 0 rfl rfl 7 (by decide) (hts (.fieldLink RX6 43 "JoinDeskModel" "prepared" "Z") (by decide +kernel)) (fun _ h9 => h9) rfl dX6_count_15 ?_
  refine lv_if_eq (tgt := 25) hx hb dX6_count_18 (by decide) (fun c_3 => absurd c_3 (by decide)) (fun c_3 => ?_)
  refine lv_iconst (v := 0) hx hb dX6_count_21 (by decide) ?_
  refine lv_goto (tgt := 26) hx hb dX6_count_22 (by decide) ?_
  refine jw_i (wr := [(q3, .inl (cI, 800, .inl m3)), (q6, .inl (cI, 2, .inl (jl [nI n, nI n2])))]) (va_runV (As := [.int 0]) (rest := []) ⟨hx, hb, hml, hown, hts⟩ (gM_refuses_0 l D cI cL cQ mo g q1 q3 q4 q5 q6 q11 z0 1 gr kd mk w10 w13 w14 _) (cwV 1 hts gX6_count_X6_refuses rfl rfl rfl (by decide +kernel) ⟨Nat.le_of_ble_eq_true rfl, Nat.le_of_ble_eq_true rfl⟩) (jw_V hK hN hP hD [0] (by decide) rfl 6 0 rfl rfl rfl) rfl rfl hl.1 rfl (lv_room (Nat.le_of_ble_eq_true rfl)) dX6_count_26 ⟨Nat.le_of_ble_eq_true rfl, Nat.le_of_ble_eq_true rfl⟩) hP hD hS hA [0] [1, 2] rfl rfl (by decide) (by decide) (fun r u H locs f_4 hP hD hS => ?_)
  obtain ⟨rfl, rfl⟩ := f_4
  have hP : va_P D vwCl [(q3, .inl (cI, 800, .inl m3)), (q6, .inl (cI, 2, .inl (jl [nI n, nI n2]))), (mo, .inr (6, [.int 0, .ref q1, .int (nI g), .ref q3, .ref q4, .ref q5, .ref q6, .int 1, .int gr, .int kd, .long w10, .ref q11, .int mk, .long w13, .long w14]))] H := hP
  have hD : va_D A [(q3, .inl (cI, 800, .inl m3)), (q6, .inl (cI, 2, .inl (jl [nI n, nI n2]))), (mo, .inr (6, [.int 0, .ref q1, .int (nI g), .ref q3, .ref q4, .ref q5, .ref q6, .int 1, .int gr, .int kd, .long w10, .ref q11, .int mk, .long w13, .long w14]))] := hD
  refine lv_if_eq (tgt := 34) hx hb dX6_count_29 (by decide) (fun c_5 => ?_) (fun c_5 => absurd c_5 (by decide))
  refine lv_aload_n hx hb dX6_count_34 rfl (lv_at hl 0 rfl) ?_
  refine lv_iload_n hx hb dX6_count_35 rfl (lv_at hl 1 rfl) ?_
  refine lv_iconst (v := 1) hx hb dX6_count_36 (by decide) ?_
  refine lv_ldc2 (v := (3000000000)) hx hb hown (hts (.constantLong RX6 91 (3000000000)) (by decide +kernel)) dX6_count_37 ?_
  refine vp_callSl (va_Run.run (va_runV (As := [.int x, .int 1, .long (3000000000)]) (rest := []) ⟨hx, hb, hml, hown, hts⟩ (gM_pairs_1 l D cI cL cQ mo g n n2 q1 q3 q4 q5 q6 q11 0 1 gr kd mk w10 w13 w14 m3 x 3000000000 (by first | assumption | decide | omega) (by first | assumption | decide | omega) (jk4_of h1 ((j_le (by decide)).mpr h2))) (cwV 3 hts gX6_count_X6_pairs rfl rfl rfl (by decide +kernel) ⟨Nat.le_of_ble_eq_true rfl, Nat.le_of_ble_eq_true rfl⟩) (jr_V hK hN hP [2, 0, 1] rfl 6 2 rfl rfl rfl) rfl rfl hl.1 rfl (lv_room (Nat.le_of_ble_eq_true rfl)) dX6_count_40 ⟨Nat.le_of_ble_eq_true rfl, Nat.le_of_ble_eq_true rfl⟩)) (fun r f_6 => ?_)
  obtain rfl := f_6
  have hP := hP.sub (ws' := [(mo, .inr (6, [.int 0, .ref q1, .int (nI g), .ref q3, .ref q4, .ref q5, .ref q6, .int 1, .int gr, .int kd, .long w10, .ref q11, .int mk, .long w13, .long w14])), (q3, .inl (cI, 800, .inl m3)), (q6, .inl (cI, 2, .inl (jl [nI n, nI n2])))]) [2, 0, 1] rfl
  have hD := hD.sub (ws' := [(mo, .inr (6, [.int 0, .ref q1, .int (nI g), .ref q3, .ref q4, .ref q5, .ref q6, .int 1, .int gr, .int kd, .long w10, .ref q11, .int mk, .long w13, .long w14])), (q3, .inl (cI, 800, .inl m3)), (q6, .inl (cI, 2, .inl (jl [nI n, nI n2])))]) [2, 0, 1] (by decide) rfl
  refine W.widen (k := 0) (n := 0) (by omega) (by omega) ?_
  exact W.lret (v := lN ((0 + jPa (jG1 x) n2 (jsh 400 m3) (jQ true 3000000000) (jsh 0 m3) n) + jPa (jG2 x) n (jsh 0 m3) (jQ true 3000000000) (jsh 400 m3) n2)) hx hb hr (fun t ht hW => ⟨⟨(lN ((0 + jPa (jG1 x) n2 (jsh 400 m3) (jQ true 3000000000) (jsh 0 m3) n) + jPa (jG2 x) n (jsh 0 m3) (jQ true 3000000000) (jsh 400 m3) n2)), [(mo, .inr (6, [.int 0, .ref q1, .int (nI g), .ref q3, .ref q4, .ref q5, .ref q6, .int 1, .int gr, .int kd, .long w10, .ref q11, .int mk, .long w13, .long w14])), (q3, .inl (cI, 800, .inl m3)), (q6, .inl (cI, 2, .inl (jl [nI n, nI n2])))], rfl, (⟨rfl, rfl⟩), by rw [ht]; exact hP, hD⟩, hS.F ht⟩) hS.2.2 dX6_count_43
set_option maxHeartbeats 1000000 in
set_option maxRecDepth 100000 in
theorem gM_rows_11 (l : Launch) (D : va_G) (cI cL cQ : ClassId) (mo : Nat) (g : Nat) (n : Nat) (n2 : Nat) (q1 : Nat) (q3 : Nat) (q4 : Nat) (q5 : Nat) (q6 : Nat) (q11 : Nat) (z0 : Int32) (gr : Int32) (kd : Int32) (mk : Int32) (w10 : Int64) (w13 : Int64) (w14 : Int64) (m3 : Nat → Int32) (sz : Nat) (hn : n ≤ 400) (hn2 : n2 ≤ 400) : Met l yX6_rows wsX6_rows ({ frames := 1, cells := 0, slots := 0, locals := 24 }) (jw_P D vwCl (jT cI cL cQ) cL cQ [.ref mo, .int 1, .int 1] [(mo, .inr (6, [.int z0, .ref q1, .int (nI g), .ref q3, .ref q4, .ref q5, .ref q6, .int 1, .int gr, .int kd, .long w10, .ref q11, .int mk, .long w13, .long w14])), (q3, .inl (cI, 800, .inl m3)), (q6, .inl (cI, 2, .inl (jl [nI n, nI n2])))] sz) (va_Qi (fun (r : Int32) (u : va_W) => r = nI (n - jLS n2 (jsh 0 m3) (jsh 400 m3) n) ∧ u = [(mo, .inr (6, [.int 0, .ref q1, .int (nI g), .ref q3, .ref q4, .ref q5, .ref q6, .int 1, .int gr, .int kd, .long w10, .ref q11, .int mk, .long w13, .long w14])), (q3, .inl (cI, 800, .inl m3)), (q6, .inl (cI, 2, .inl (jl [nI n, nI n2])))]) (jw_B D vwCl (va_A [(mo, .inr (6, [.int z0, .ref q1, .int (nI g), .ref q3, .ref q4, .ref q5, .ref q6, .int 1, .int gr, .int kd, .long w10, .ref q11, .int mk, .long w13, .long w14])), (q3, .inl (cI, 800, .inl m3)), (q6, .inl (cI, 2, .inl (jl [nI n, nI n2])))] sz) (fun u : va_W => u)) (va_A [(mo, .inr (6, [.int z0, .ref q1, .int (nI g), .ref q3, .ref q4, .ref q5, .ref q6, .int 1, .int gr, .int kd, .long w10, .ref q11, .int mk, .long w13, .long w14])), (q3, .inl (cI, 800, .inl m3)), (q6, .inl (cI, 2, .inl (jl [nI n, nI n2])))] sz)) 0 0 (va_A [(mo, .inr (6, [.int z0, .ref q1, .int (nI g), .ref q3, .ref q4, .ref q5, .ref q6, .int 1, .int gr, .int kd, .long w10, .ref q11, .int mk, .long w13, .long w14])), (q3, .inl (cI, 800, .inl m3)), (q6, .inl (cI, 2, .inl (jl [nI n, nI n2])))] sz) := by
  refine Met.ofW (cc := cX6_rows) (maxL := 6) (ret := (some .int)) (by decide) rfl ?_
  intro p e s m args below meth c s₁ B hml hv
  obtain ⟨rfl, hsz, hP, hK, hN, hD0⟩ := hv
  have hx := B.exec
  have hb := B.bytes
  have hr := B.returns
  have hts := atoms_spec (ws := wsX6_rows) B.pre
  have hown : s.vm.findClass RX6 = some m.cls := findClass_of_methodNamed B.named
  have hlocks := B.notSynchronized
  subst hsz
  have hD := hD0.self (sz := s.heap.size)
  generalize hAe : va_A [(mo, .inr (6, [.int z0, .ref q1, .int (nI g), .ref q3, .ref q4, .ref q5, .ref q6, .int 1, .int gr, .int kd, .long w10, .ref q11, .int mk, .long w13, .long w14])), (q3, .inl (cI, 800, .inl m3)), (q6, .inl (cI, 2, .inl (jl [nI n, nI n2])))] s.heap.size = A at hD ⊢
  have hA : ∀ q : Nat, s.heap.size ≤ q → A q := fun q h => by rw [← hAe]; exact Or.inr h
  have hS : va_S A s.heap s.heap [] := va_S.rf
  have hl := lv_entry ([.ref mo, .int 1, .int 1]) (n := 6) (Nat.le_of_ble_eq_true rfl)
  rw [lg_entry_eq]
  generalize (lg_sl ([.ref mo, .int 1, .int 1]) ++ List.replicate (6 - (lg_sl ([.ref mo, .int 1, .int 1])).length) Slot.unset).toArray = ls at hl ⊢
  have hl : lv_has ls 6 [(0, .ref mo), (1, .int 1), (2, .int 1)] := hl
  refine lv_aload_n hx hb dX6_rows_0 rfl (lv_at hl 0 rfl) ?_
  refine lv_aload_n hx hb dX6_rows_1 rfl (lv_at hl 0 rfl) ?_
  refine va_get (D := D) (ci := 6) (v := .int 1) (C := RX6) (T := TX6) (N := 15) hx hb hts (by decide +kernel) hown hK hP 0 rfl rfl 7 (by decide) (hts (.fieldLink RX6 43 "JoinDeskModel" "prepared" "Z") (by decide +kernel)) (fun _ h9 => h9) rfl dX6_rows_2 ?_
  refine lv_if_eq (tgt := 12) hx hb dX6_rows_5 (by decide) (fun c_1 => absurd c_1 (by decide)) (fun c_1 => ?_)
  refine lv_iconst (v := 0) hx hb dX6_rows_8 (by decide) ?_
  refine lv_goto (tgt := 13) hx hb dX6_rows_9 (by decide) ?_
  refine jw_i (wr := [(q3, .inl (cI, 800, .inl m3)), (q6, .inl (cI, 2, .inl (jl [nI n, nI n2])))]) (va_runV (As := [.int 0]) (rest := []) ⟨hx, hb, hml, hown, hts⟩ (gM_refuses_0 l D cI cL cQ mo g q1 q3 q4 q5 q6 q11 z0 1 gr kd mk w10 w13 w14 _) (cwV 1 hts gX6_rows_X6_refuses rfl rfl rfl (by decide +kernel) ⟨Nat.le_of_ble_eq_true rfl, Nat.le_of_ble_eq_true rfl⟩) (jw_V hK hN hP hD [0] (by decide) rfl 6 0 rfl rfl rfl) rfl rfl hl.1 rfl (lv_room (Nat.le_of_ble_eq_true rfl)) dX6_rows_13 ⟨Nat.le_of_ble_eq_true rfl, Nat.le_of_ble_eq_true rfl⟩) hP hD hS hA [0] [1, 2] rfl rfl (by decide) (by decide) (fun r u H locs f_2 hP hD hS => ?_)
  obtain ⟨rfl, rfl⟩ := f_2
  have hP : va_P D vwCl [(q3, .inl (cI, 800, .inl m3)), (q6, .inl (cI, 2, .inl (jl [nI n, nI n2]))), (mo, .inr (6, [.int 0, .ref q1, .int (nI g), .ref q3, .ref q4, .ref q5, .ref q6, .int 1, .int gr, .int kd, .long w10, .ref q11, .int mk, .long w13, .long w14]))] H := hP
  have hD : va_D A [(q3, .inl (cI, 800, .inl m3)), (q6, .inl (cI, 2, .inl (jl [nI n, nI n2]))), (mo, .inr (6, [.int 0, .ref q1, .int (nI g), .ref q3, .ref q4, .ref q5, .ref q6, .int 1, .int gr, .int kd, .long w10, .ref q11, .int mk, .long w13, .long w14]))] := hD
  refine lv_if_eq (tgt := 21) hx hb dX6_rows_16 (by decide) (fun c_3 => ?_) (fun c_3 => absurd c_3 (by decide))
  refine lv_iload_n hx hb dX6_rows_21 rfl (lv_at hl 1 rfl) ?_
  refine lv_if_eq (tgt := 29) hx hb dX6_rows_22 (by decide) (fun c_4 => absurd c_4 (by decide)) (fun c_4 => ?_)
  refine lv_iconst (v := 0) hx hb dX6_rows_25 (by decide) ?_
  refine lv_goto (tgt := 30) hx hb dX6_rows_26 (by decide) ?_
  refine lv_istore_n (lv' := [(3, .int 0), (0, .ref mo), (1, .int 1), (2, .int 1)]) hx hb dX6_rows_30 rfl hl (by decide) rfl (fun ls hl => ?_)
  refine lv_iconst (v := 0) hx hb dX6_rows_31 (by decide) ?_
  refine lv_istore (lv' := [(4, .int 0), (3, .int 0), (0, .ref mo), (1, .int 1), (2, .int 1)]) hx hb dX6_rows_32 hl (by decide) rfl (fun ls hl => ?_)
  refine lv_iconst (v := 0) hx hb dX6_rows_34 (by decide) ?_
  refine lv_istore (lv' := [(5, .int 0), (4, .int 0), (3, .int 0), (0, .ref mo), (1, .int 1), (2, .int 1)]) hx hb dX6_rows_35 hl (by decide) rfl (fun ls hl => ?_)
  have hP := hP.sub (ws' := [(mo, .inr (6, [.int 0, .ref q1, .int (nI g), .ref q3, .ref q4, .ref q5, .ref q6, .int 1, .int gr, .int kd, .long w10, .ref q11, .int mk, .long w13, .long w14])), (q3, .inl (cI, 800, .inl m3)), (q6, .inl (cI, 2, .inl (jl [nI n, nI n2])))]) [2, 0, 1] rfl
  have hD := hD.sub (ws' := [(mo, .inr (6, [.int 0, .ref q1, .int (nI g), .ref q3, .ref q4, .ref q5, .ref q6, .int 1, .int gr, .int kd, .long w10, .ref q11, .int mk, .long w13, .long w14])), (q3, .inl (cI, 800, .inl m3)), (q6, .inl (cI, 2, .inl (jl [nI n, nI n2])))]) [2, 0, 1] (by decide) rfl
  have hloop_1 : ∀ (k_1 : Nat) (i : Nat) (z : Nat), n - i < k_1 → (i ≤ n) → (z + jLS n2 (jsh 0 m3) (jsh 400 m3) i = i) → ∀ (H : Heap) (locs : List Loc), va_P D vwCl [(mo, .inr (6, [.int 0, .ref q1, .int (nI g), .ref q3, .ref q4, .ref q5, .ref q6, .int 1, .int gr, .int kd, .long w10, .ref q11, .int mk, .long w13, .long w14])), (q3, .inl (cI, 800, .inl m3)), (q6, .inl (cI, 2, .inl (jl [nI n, nI n2])))] H → va_D A [(mo, .inr (6, [.int 0, .ref q1, .int (nI g), .ref q3, .ref q4, .ref q5, .ref q6, .int 1, .int gr, .int kd, .long w10, .ref q11, .int mk, .long w13, .long w14])), (q3, .inl (cI, 800, .inl m3)), (q6, .inl (cI, 2, .inl (jl [nI n, nI n2])))] → va_S A s.heap H locs → ∀ ls : Array Slot, lv_has ls 6 [(0, .ref mo), (1, .int 1), (2, .int 1), (3, .int 0), (4, .int (nI z)), (5, .int (nI i))] → W p l e (headSpec wsX6_rows ({ frames := 1, cells := 0, slots := 0, locals := 24 })).room s m #[.ref mo, .int 1, .int 1] below meth c H locs 0 0 (MQ below (va_Qi (fun (r : Int32) (u : va_W) => r = nI (n - jLS n2 (jsh 0 m3) (jsh 400 m3) n) ∧ u = [(mo, .inr (6, [.int 0, .ref q1, .int (nI g), .ref q3, .ref q4, .ref q5, .ref q6, .int 1, .int gr, .int kd, .long w10, .ref q11, .int mk, .long w13, .long w14])), (q3, .inl (cI, 800, .inl m3)), (q6, .inl (cI, 2, .inl (jl [nI n, nI n2])))]) (jw_B D vwCl A (fun u : va_W => u)) A) #[.ref mo, .int 1, .int 1] s 0 0 A) (F0 m 37 ls []) := by
    intro k_1
    induction k_1 with
    | zero => exact fun _ _ hm => absurd hm (Nat.not_lt_zero _)
    | succ k_1 ih_1 =>
      intro i z hm1 hi hz H locs hP hD hS ls hl
      refine lv_iload hx hb dX6_rows_37 (lv_at hl 5 rfl) ?_
      refine lv_aload_n hx hb dX6_rows_39 rfl (lv_at hl 0 rfl) ?_
      refine va_get (D := D) (ci := 6) (v := .ref q6) (C := RX6) (T := TX6) (N := 15) hx hb hts (by decide +kernel) hown hK hP 0 rfl rfl 6 (by decide) (hts (.fieldLink RX6 22 "JoinDeskModel" "many" "[I") (by decide +kernel)) (fun _ h9 => h9) rfl dX6_rows_40 ?_
      refine lv_iload_n hx hb dX6_rows_43 rfl (lv_at hl 3 rfl) ?_
      refine va_iald hx hb hK hP 2 0 rfl rfl (by unfold vp_in; decide) dX6_rows_44 ?_
      refine W.eq (g2 := F0 m 45 ls [.int (nI n), .int (nI i)]) rfl ?_
      refine lv_icmp_ge (tgt := 96) hx hb dX6_rows_45 (by decide) (fun cge => ?_) (fun cge => ?_)
      · refine lv_iload hx hb dX6_rows_96 (lv_at hl 4 rfl) ?_
        refine W.widen (k := 0) (n := 0) (by omega) (by omega) ?_
        exact W.iret (v := nI z) hx hb hr (fun t ht hW => ⟨⟨(nI z), [(mo, .inr (6, [.int 0, .ref q1, .int (nI g), .ref q3, .ref q4, .ref q5, .ref q6, .int 1, .int gr, .int kd, .long w10, .ref q11, .int mk, .long w13, .long w14])), (q3, .inl (cI, 800, .inl m3)), (q6, .inl (cI, 2, .inl (jl [nI n, nI n2])))], rfl, (⟨jrp_fin hz hi cge hn, rfl⟩), by rw [ht]; exact hP, hD⟩, hS.F ht⟩) hS.2.2 dX6_rows_98
      · refine lv_iload hx hb dX6_rows_48 (lv_at hl 4 rfl) ?_
        refine lv_aload_n hx hb dX6_rows_50 rfl (lv_at hl 0 rfl) ?_
        refine lv_iconst (v := 1) hx hb dX6_rows_51 (by decide) ?_
        refine lv_iload_n hx hb dX6_rows_52 rfl (lv_at hl 3 rfl) ?_
        refine lv_isub hx hb dX6_rows_53 ?_
        refine lv_topi (fun z_5 e_z_5 => ?_)
        obtain rfl : z_5 = 1 := e_z_5.trans (by decide)
        refine lv_aload_n hx hb dX6_rows_54 rfl (lv_at hl 0 rfl) ?_
        refine va_get (D := D) (ci := 6) (v := .ref q3) (C := RX6) (T := TX6) (N := 15) hx hb hts (by decide +kernel) hown hK hP 0 rfl rfl 3 (by decide) (hts (.fieldLink RX6 13 "JoinDeskModel" "keys" "[I") (by decide +kernel)) (fun _ h9 => h9) rfl dX6_rows_55 ?_
        refine lv_sipush (v := 400) hx hb dX6_rows_58 (by decide) ?_
        refine lv_iload_n hx hb dX6_rows_61 rfl (lv_at hl 3 rfl) ?_
        refine lv_imul hx hb dX6_rows_62 ?_
        refine lv_topi (fun z_6 e_z_6 => ?_)
        obtain rfl : z_6 = 0 := e_z_6.trans (by decide)
        refine lv_iload hx hb dX6_rows_63 (lv_at hl 5 rfl) ?_
        refine lv_iadd hx hb dX6_rows_65 ?_
        refine lv_topi (fun z_7 e_z_7 => ?_)
        obtain rfl : z_7 = nI (0 + i) := e_z_7.trans (nI_add 0 i)
        refine va_iald hx hb hK hP 1 0 rfl rfl (vp_in_nI (show 0 + i < 800 by rw [nI_leI (by omega) (by omega)] at cge; omega) (by omega)) dX6_rows_66 ?_
        refine vp_callSi (va_Run.run (va_runV (As := [.int 1, .int (m3 (nI (0 + i)).toNatClampNeg)]) (rest := [.int (nI z)]) ⟨hx, hb, hml, hown, hts⟩ (gM_rowsOf_1 l D cI cL cQ mo g n n2 q1 q3 q4 q5 q6 q11 0 1 gr kd mk w10 w13 w14 m3 (m3 (nI (0 + i)).toNatClampNeg) (by first | assumption | decide | omega)) (cwV 2 hts gX6_rows_X6_rowsOf rfl rfl rfl (by decide +kernel) ⟨Nat.le_of_ble_eq_true rfl, Nat.le_of_ble_eq_true rfl⟩) (jr_V hK hN hP [0, 1, 2] rfl 6 0 rfl rfl rfl) rfl rfl hl.1 rfl (lv_room (Nat.le_of_ble_eq_true rfl)) dX6_rows_67 ⟨Nat.le_of_ble_eq_true rfl, Nat.le_of_ble_eq_true rfl⟩)) (fun r f_8 => ?_)
        obtain rfl := f_8
        refine lv_if_le (tgt := 77) hx hb dX6_rows_70 (by decide) (fun cp => ?_) (fun cp => ?_)
        · refine lv_iconst (v := 0) hx hb dX6_rows_77 (by decide) ?_
          refine lv_iload_n hx hb dX6_rows_78 rfl (lv_at hl 2 rfl) ?_
          refine lv_icmp_ne (tgt := 86) hx hb dX6_rows_79 (by decide) (fun c_9 => ?_) (fun c_9 => absurd c_9 (by decide))
          refine lv_iconst (v := 0) hx hb dX6_rows_86 (by decide) ?_
          refine lv_iadd hx hb dX6_rows_87 ?_
          refine lv_topi (fun z_10 e_z_10 => ?_)
          obtain rfl : z_10 = nI (z + 0) := e_z_10.trans (nI_add z 0)
          refine lv_istore (lv' := [(4, .int (nI (z + 0))), (0, .ref mo), (1, .int 1), (2, .int 1), (3, .int 0), (5, .int (nI i))]) hx hb dX6_rows_88 hl (by decide) rfl (fun ls hl => ?_)
          refine lv_iinc (v := nI (i + 1)) (lv' := [(5, .int (nI (i + 1))), (4, .int (nI (z + 0))), (0, .ref mo), (1, .int 1), (2, .int 1), (3, .int 0)]) hx hb dX6_rows_90 hl (k := 5) rfl (nI_1 _) (by decide) rfl (fun ls hl => ?_)
          refine lv_goto (tgt := 37) hx hb dX6_rows_93 (by decide) ?_
          exact ih_1 (i + 1) (z + 0) (by rw [nI_leI (by omega) (by omega)] at cge; omega) (by rw [nI_leI (by omega) (by omega)] at cge; omega) (jrp_0 hz (jrw_z hn2 cp (by omega))) _ _ hP hD hS ls (lv_sub hl [2, 3, 4, 5, 1, 0] rfl)
        · refine lv_iconst (v := 1) hx hb dX6_rows_73 (by decide) ?_
          refine lv_goto (tgt := 78) hx hb dX6_rows_74 (by decide) ?_
          refine lv_iload_n hx hb dX6_rows_78 rfl (lv_at hl 2 rfl) ?_
          refine lv_icmp_ne (tgt := 86) hx hb dX6_rows_79 (by decide) (fun c_11 => absurd c_11 (by decide)) (fun c_11 => ?_)
          refine lv_iconst (v := 1) hx hb dX6_rows_82 (by decide) ?_
          refine lv_goto (tgt := 87) hx hb dX6_rows_83 (by decide) ?_
          refine lv_iadd hx hb dX6_rows_87 ?_
          refine lv_topi (fun z_12 e_z_12 => ?_)
          obtain rfl : z_12 = nI (z + 1) := e_z_12.trans (nI_add z 1)
          refine lv_istore (lv' := [(4, .int (nI (z + 1))), (0, .ref mo), (1, .int 1), (2, .int 1), (3, .int 0), (5, .int (nI i))]) hx hb dX6_rows_88 hl (by decide) rfl (fun ls hl => ?_)
          refine lv_iinc (v := nI (i + 1)) (lv' := [(5, .int (nI (i + 1))), (4, .int (nI (z + 1))), (0, .ref mo), (1, .int 1), (2, .int 1), (3, .int 0)]) hx hb dX6_rows_90 hl (k := 5) rfl (nI_1 _) (by decide) rfl (fun ls hl => ?_)
          refine lv_goto (tgt := 37) hx hb dX6_rows_93 (by decide) ?_
          exact ih_1 (i + 1) (z + 1) (by rw [nI_leI (by omega) (by omega)] at cge; omega) (by rw [nI_leI (by omega) (by omega)] at cge; omega) (jrp_1 hz (jrw_p hn2 cp (by omega))) _ _ hP hD hS ls (lv_sub hl [2, 3, 4, 5, 1, 0] rfl)
  exact hloop_1 (n - 0 + 1) 0 0 (Nat.lt_succ_self _) (Nat.zero_le _) (rfl) _ _ hP hD hS ls (lv_sub hl [3, 4, 5, 2, 1, 0] rfl)
set_option maxHeartbeats 1000000 in
set_option maxRecDepth 100000 in
theorem gM_rows_10 (l : Launch) (D : va_G) (cI cL cQ : ClassId) (mo : Nat) (g : Nat) (n : Nat) (n2 : Nat) (q1 : Nat) (q3 : Nat) (q4 : Nat) (q5 : Nat) (q6 : Nat) (q11 : Nat) (z0 : Int32) (gr : Int32) (kd : Int32) (mk : Int32) (w10 : Int64) (w13 : Int64) (w14 : Int64) (m3 : Nat → Int32) (sz : Nat) (hn : n ≤ 400) (hn2 : n2 ≤ 400) : Met l yX6_rows wsX6_rows ({ frames := 1, cells := 0, slots := 0, locals := 24 }) (jw_P D vwCl (jT cI cL cQ) cL cQ [.ref mo, .int 1, .int 0] [(mo, .inr (6, [.int z0, .ref q1, .int (nI g), .ref q3, .ref q4, .ref q5, .ref q6, .int 1, .int gr, .int kd, .long w10, .ref q11, .int mk, .long w13, .long w14])), (q3, .inl (cI, 800, .inl m3)), (q6, .inl (cI, 2, .inl (jl [nI n, nI n2])))] sz) (va_Qi (fun (r : Int32) (u : va_W) => r = nI (jLS n2 (jsh 0 m3) (jsh 400 m3) n) ∧ u = [(mo, .inr (6, [.int 0, .ref q1, .int (nI g), .ref q3, .ref q4, .ref q5, .ref q6, .int 1, .int gr, .int kd, .long w10, .ref q11, .int mk, .long w13, .long w14])), (q3, .inl (cI, 800, .inl m3)), (q6, .inl (cI, 2, .inl (jl [nI n, nI n2])))]) (jw_B D vwCl (va_A [(mo, .inr (6, [.int z0, .ref q1, .int (nI g), .ref q3, .ref q4, .ref q5, .ref q6, .int 1, .int gr, .int kd, .long w10, .ref q11, .int mk, .long w13, .long w14])), (q3, .inl (cI, 800, .inl m3)), (q6, .inl (cI, 2, .inl (jl [nI n, nI n2])))] sz) (fun u : va_W => u)) (va_A [(mo, .inr (6, [.int z0, .ref q1, .int (nI g), .ref q3, .ref q4, .ref q5, .ref q6, .int 1, .int gr, .int kd, .long w10, .ref q11, .int mk, .long w13, .long w14])), (q3, .inl (cI, 800, .inl m3)), (q6, .inl (cI, 2, .inl (jl [nI n, nI n2])))] sz)) 0 0 (va_A [(mo, .inr (6, [.int z0, .ref q1, .int (nI g), .ref q3, .ref q4, .ref q5, .ref q6, .int 1, .int gr, .int kd, .long w10, .ref q11, .int mk, .long w13, .long w14])), (q3, .inl (cI, 800, .inl m3)), (q6, .inl (cI, 2, .inl (jl [nI n, nI n2])))] sz) := by
  refine Met.ofW (cc := cX6_rows) (maxL := 6) (ret := (some .int)) (by decide) rfl ?_
  intro p e s m args below meth c s₁ B hml hv
  obtain ⟨rfl, hsz, hP, hK, hN, hD0⟩ := hv
  have hx := B.exec
  have hb := B.bytes
  have hr := B.returns
  have hts := atoms_spec (ws := wsX6_rows) B.pre
  have hown : s.vm.findClass RX6 = some m.cls := findClass_of_methodNamed B.named
  have hlocks := B.notSynchronized
  subst hsz
  have hD := hD0.self (sz := s.heap.size)
  generalize hAe : va_A [(mo, .inr (6, [.int z0, .ref q1, .int (nI g), .ref q3, .ref q4, .ref q5, .ref q6, .int 1, .int gr, .int kd, .long w10, .ref q11, .int mk, .long w13, .long w14])), (q3, .inl (cI, 800, .inl m3)), (q6, .inl (cI, 2, .inl (jl [nI n, nI n2])))] s.heap.size = A at hD ⊢
  have hA : ∀ q : Nat, s.heap.size ≤ q → A q := fun q h => by rw [← hAe]; exact Or.inr h
  have hS : va_S A s.heap s.heap [] := va_S.rf
  have hl := lv_entry ([.ref mo, .int 1, .int 0]) (n := 6) (Nat.le_of_ble_eq_true rfl)
  rw [lg_entry_eq]
  generalize (lg_sl ([.ref mo, .int 1, .int 0]) ++ List.replicate (6 - (lg_sl ([.ref mo, .int 1, .int 0])).length) Slot.unset).toArray = ls at hl ⊢
  have hl : lv_has ls 6 [(0, .ref mo), (1, .int 1), (2, .int 0)] := hl
  refine lv_aload_n hx hb dX6_rows_0 rfl (lv_at hl 0 rfl) ?_
  refine lv_aload_n hx hb dX6_rows_1 rfl (lv_at hl 0 rfl) ?_
  refine va_get (D := D) (ci := 6) (v := .int 1) (C := RX6) (T := TX6) (N := 15) hx hb hts (by decide +kernel) hown hK hP 0 rfl rfl 7 (by decide) (hts (.fieldLink RX6 43 "JoinDeskModel" "prepared" "Z") (by decide +kernel)) (fun _ h9 => h9) rfl dX6_rows_2 ?_
  refine lv_if_eq (tgt := 12) hx hb dX6_rows_5 (by decide) (fun c_1 => absurd c_1 (by decide)) (fun c_1 => ?_)
  refine lv_iconst (v := 0) hx hb dX6_rows_8 (by decide) ?_
  refine lv_goto (tgt := 13) hx hb dX6_rows_9 (by decide) ?_
  refine jw_i (wr := [(q3, .inl (cI, 800, .inl m3)), (q6, .inl (cI, 2, .inl (jl [nI n, nI n2])))]) (va_runV (As := [.int 0]) (rest := []) ⟨hx, hb, hml, hown, hts⟩ (gM_refuses_0 l D cI cL cQ mo g q1 q3 q4 q5 q6 q11 z0 1 gr kd mk w10 w13 w14 _) (cwV 1 hts gX6_rows_X6_refuses rfl rfl rfl (by decide +kernel) ⟨Nat.le_of_ble_eq_true rfl, Nat.le_of_ble_eq_true rfl⟩) (jw_V hK hN hP hD [0] (by decide) rfl 6 0 rfl rfl rfl) rfl rfl hl.1 rfl (lv_room (Nat.le_of_ble_eq_true rfl)) dX6_rows_13 ⟨Nat.le_of_ble_eq_true rfl, Nat.le_of_ble_eq_true rfl⟩) hP hD hS hA [0] [1, 2] rfl rfl (by decide) (by decide) (fun r u H locs f_2 hP hD hS => ?_)
  obtain ⟨rfl, rfl⟩ := f_2
  have hP : va_P D vwCl [(q3, .inl (cI, 800, .inl m3)), (q6, .inl (cI, 2, .inl (jl [nI n, nI n2]))), (mo, .inr (6, [.int 0, .ref q1, .int (nI g), .ref q3, .ref q4, .ref q5, .ref q6, .int 1, .int gr, .int kd, .long w10, .ref q11, .int mk, .long w13, .long w14]))] H := hP
  have hD : va_D A [(q3, .inl (cI, 800, .inl m3)), (q6, .inl (cI, 2, .inl (jl [nI n, nI n2]))), (mo, .inr (6, [.int 0, .ref q1, .int (nI g), .ref q3, .ref q4, .ref q5, .ref q6, .int 1, .int gr, .int kd, .long w10, .ref q11, .int mk, .long w13, .long w14]))] := hD
  refine lv_if_eq (tgt := 21) hx hb dX6_rows_16 (by decide) (fun c_3 => ?_) (fun c_3 => absurd c_3 (by decide))
  refine lv_iload_n hx hb dX6_rows_21 rfl (lv_at hl 1 rfl) ?_
  refine lv_if_eq (tgt := 29) hx hb dX6_rows_22 (by decide) (fun c_4 => absurd c_4 (by decide)) (fun c_4 => ?_)
  refine lv_iconst (v := 0) hx hb dX6_rows_25 (by decide) ?_
  refine lv_goto (tgt := 30) hx hb dX6_rows_26 (by decide) ?_
  refine lv_istore_n (lv' := [(3, .int 0), (0, .ref mo), (1, .int 1), (2, .int 0)]) hx hb dX6_rows_30 rfl hl (by decide) rfl (fun ls hl => ?_)
  refine lv_iconst (v := 0) hx hb dX6_rows_31 (by decide) ?_
  refine lv_istore (lv' := [(4, .int 0), (3, .int 0), (0, .ref mo), (1, .int 1), (2, .int 0)]) hx hb dX6_rows_32 hl (by decide) rfl (fun ls hl => ?_)
  refine lv_iconst (v := 0) hx hb dX6_rows_34 (by decide) ?_
  refine lv_istore (lv' := [(5, .int 0), (4, .int 0), (3, .int 0), (0, .ref mo), (1, .int 1), (2, .int 0)]) hx hb dX6_rows_35 hl (by decide) rfl (fun ls hl => ?_)
  have hP := hP.sub (ws' := [(mo, .inr (6, [.int 0, .ref q1, .int (nI g), .ref q3, .ref q4, .ref q5, .ref q6, .int 1, .int gr, .int kd, .long w10, .ref q11, .int mk, .long w13, .long w14])), (q3, .inl (cI, 800, .inl m3)), (q6, .inl (cI, 2, .inl (jl [nI n, nI n2])))]) [2, 0, 1] rfl
  have hD := hD.sub (ws' := [(mo, .inr (6, [.int 0, .ref q1, .int (nI g), .ref q3, .ref q4, .ref q5, .ref q6, .int 1, .int gr, .int kd, .long w10, .ref q11, .int mk, .long w13, .long w14])), (q3, .inl (cI, 800, .inl m3)), (q6, .inl (cI, 2, .inl (jl [nI n, nI n2])))]) [2, 0, 1] (by decide) rfl
  have hloop_1 : ∀ (k_1 : Nat) (i : Nat) (z : Nat), n - i < k_1 → (i ≤ n) → (z = jLS n2 (jsh 0 m3) (jsh 400 m3) i) → ∀ (H : Heap) (locs : List Loc), va_P D vwCl [(mo, .inr (6, [.int 0, .ref q1, .int (nI g), .ref q3, .ref q4, .ref q5, .ref q6, .int 1, .int gr, .int kd, .long w10, .ref q11, .int mk, .long w13, .long w14])), (q3, .inl (cI, 800, .inl m3)), (q6, .inl (cI, 2, .inl (jl [nI n, nI n2])))] H → va_D A [(mo, .inr (6, [.int 0, .ref q1, .int (nI g), .ref q3, .ref q4, .ref q5, .ref q6, .int 1, .int gr, .int kd, .long w10, .ref q11, .int mk, .long w13, .long w14])), (q3, .inl (cI, 800, .inl m3)), (q6, .inl (cI, 2, .inl (jl [nI n, nI n2])))] → va_S A s.heap H locs → ∀ ls : Array Slot, lv_has ls 6 [(0, .ref mo), (1, .int 1), (2, .int 0), (3, .int 0), (4, .int (nI z)), (5, .int (nI i))] → W p l e (headSpec wsX6_rows ({ frames := 1, cells := 0, slots := 0, locals := 24 })).room s m #[.ref mo, .int 1, .int 0] below meth c H locs 0 0 (MQ below (va_Qi (fun (r : Int32) (u : va_W) => r = nI (jLS n2 (jsh 0 m3) (jsh 400 m3) n) ∧ u = [(mo, .inr (6, [.int 0, .ref q1, .int (nI g), .ref q3, .ref q4, .ref q5, .ref q6, .int 1, .int gr, .int kd, .long w10, .ref q11, .int mk, .long w13, .long w14])), (q3, .inl (cI, 800, .inl m3)), (q6, .inl (cI, 2, .inl (jl [nI n, nI n2])))]) (jw_B D vwCl A (fun u : va_W => u)) A) #[.ref mo, .int 1, .int 0] s 0 0 A) (F0 m 37 ls []) := by
    intro k_1
    induction k_1 with
    | zero => exact fun _ _ hm => absurd hm (Nat.not_lt_zero _)
    | succ k_1 ih_1 =>
      intro i z hm1 hi hz H locs hP hD hS ls hl
      refine lv_iload hx hb dX6_rows_37 (lv_at hl 5 rfl) ?_
      refine lv_aload_n hx hb dX6_rows_39 rfl (lv_at hl 0 rfl) ?_
      refine va_get (D := D) (ci := 6) (v := .ref q6) (C := RX6) (T := TX6) (N := 15) hx hb hts (by decide +kernel) hown hK hP 0 rfl rfl 6 (by decide) (hts (.fieldLink RX6 22 "JoinDeskModel" "many" "[I") (by decide +kernel)) (fun _ h9 => h9) rfl dX6_rows_40 ?_
      refine lv_iload_n hx hb dX6_rows_43 rfl (lv_at hl 3 rfl) ?_
      refine va_iald hx hb hK hP 2 0 rfl rfl (by unfold vp_in; decide) dX6_rows_44 ?_
      refine W.eq (g2 := F0 m 45 ls [.int (nI n), .int (nI i)]) rfl ?_
      refine lv_icmp_ge (tgt := 96) hx hb dX6_rows_45 (by decide) (fun cge => ?_) (fun cge => ?_)
      · refine lv_iload hx hb dX6_rows_96 (lv_at hl 4 rfl) ?_
        refine W.widen (k := 0) (n := 0) (by omega) (by omega) ?_
        exact W.iret (v := nI z) hx hb hr (fun t ht hW => ⟨⟨(nI z), [(mo, .inr (6, [.int 0, .ref q1, .int (nI g), .ref q3, .ref q4, .ref q5, .ref q6, .int 1, .int gr, .int kd, .long w10, .ref q11, .int mk, .long w13, .long w14])), (q3, .inl (cI, 800, .inl m3)), (q6, .inl (cI, 2, .inl (jl [nI n, nI n2])))], rfl, (⟨by rw [nI_leI (by omega) (by omega)] at cge; rw [hz, show i = n by omega], rfl⟩), by rw [ht]; exact hP, hD⟩, hS.F ht⟩) hS.2.2 dX6_rows_98
      · refine lv_iload hx hb dX6_rows_48 (lv_at hl 4 rfl) ?_
        refine lv_aload_n hx hb dX6_rows_50 rfl (lv_at hl 0 rfl) ?_
        refine lv_iconst (v := 1) hx hb dX6_rows_51 (by decide) ?_
        refine lv_iload_n hx hb dX6_rows_52 rfl (lv_at hl 3 rfl) ?_
        refine lv_isub hx hb dX6_rows_53 ?_
        refine lv_topi (fun z_5 e_z_5 => ?_)
        obtain rfl : z_5 = 1 := e_z_5.trans (by decide)
        refine lv_aload_n hx hb dX6_rows_54 rfl (lv_at hl 0 rfl) ?_
        refine va_get (D := D) (ci := 6) (v := .ref q3) (C := RX6) (T := TX6) (N := 15) hx hb hts (by decide +kernel) hown hK hP 0 rfl rfl 3 (by decide) (hts (.fieldLink RX6 13 "JoinDeskModel" "keys" "[I") (by decide +kernel)) (fun _ h9 => h9) rfl dX6_rows_55 ?_
        refine lv_sipush (v := 400) hx hb dX6_rows_58 (by decide) ?_
        refine lv_iload_n hx hb dX6_rows_61 rfl (lv_at hl 3 rfl) ?_
        refine lv_imul hx hb dX6_rows_62 ?_
        refine lv_topi (fun z_6 e_z_6 => ?_)
        obtain rfl : z_6 = 0 := e_z_6.trans (by decide)
        refine lv_iload hx hb dX6_rows_63 (lv_at hl 5 rfl) ?_
        refine lv_iadd hx hb dX6_rows_65 ?_
        refine lv_topi (fun z_7 e_z_7 => ?_)
        obtain rfl : z_7 = nI (0 + i) := e_z_7.trans (nI_add 0 i)
        refine va_iald hx hb hK hP 1 0 rfl rfl (vp_in_nI (show 0 + i < 800 by rw [nI_leI (by omega) (by omega)] at cge; omega) (by omega)) dX6_rows_66 ?_
        refine vp_callSi (va_Run.run (va_runV (As := [.int 1, .int (m3 (nI (0 + i)).toNatClampNeg)]) (rest := [.int (nI z)]) ⟨hx, hb, hml, hown, hts⟩ (gM_rowsOf_1 l D cI cL cQ mo g n n2 q1 q3 q4 q5 q6 q11 0 1 gr kd mk w10 w13 w14 m3 (m3 (nI (0 + i)).toNatClampNeg) (by first | assumption | decide | omega)) (cwV 2 hts gX6_rows_X6_rowsOf rfl rfl rfl (by decide +kernel) ⟨Nat.le_of_ble_eq_true rfl, Nat.le_of_ble_eq_true rfl⟩) (jr_V hK hN hP [0, 1, 2] rfl 6 0 rfl rfl rfl) rfl rfl hl.1 rfl (lv_room (Nat.le_of_ble_eq_true rfl)) dX6_rows_67 ⟨Nat.le_of_ble_eq_true rfl, Nat.le_of_ble_eq_true rfl⟩)) (fun r f_8 => ?_)
        obtain rfl := f_8
        refine lv_if_le (tgt := 77) hx hb dX6_rows_70 (by decide) (fun cp => ?_) (fun cp => ?_)
        · refine lv_iconst (v := 0) hx hb dX6_rows_77 (by decide) ?_
          refine lv_iload_n hx hb dX6_rows_78 rfl (lv_at hl 2 rfl) ?_
          refine lv_icmp_ne (tgt := 86) hx hb dX6_rows_79 (by decide) (fun c_9 => absurd c_9 (by decide)) (fun c_9 => ?_)
          refine lv_iconst (v := 1) hx hb dX6_rows_82 (by decide) ?_
          refine lv_goto (tgt := 87) hx hb dX6_rows_83 (by decide) ?_
          refine lv_iadd hx hb dX6_rows_87 ?_
          refine lv_topi (fun z_10 e_z_10 => ?_)
          obtain rfl : z_10 = nI (z + 1) := e_z_10.trans (nI_add z 1)
          refine lv_istore (lv' := [(4, .int (nI (z + 1))), (0, .ref mo), (1, .int 1), (2, .int 0), (3, .int 0), (5, .int (nI i))]) hx hb dX6_rows_88 hl (by decide) rfl (fun ls hl => ?_)
          refine lv_iinc (v := nI (i + 1)) (lv' := [(5, .int (nI (i + 1))), (4, .int (nI (z + 1))), (0, .ref mo), (1, .int 1), (2, .int 0), (3, .int 0)]) hx hb dX6_rows_90 hl (k := 5) rfl (nI_1 _) (by decide) rfl (fun ls hl => ?_)
          refine lv_goto (tgt := 37) hx hb dX6_rows_93 (by decide) ?_
          exact ih_1 (i + 1) (z + 1) (by rw [nI_leI (by omega) (by omega)] at cge; omega) (by rw [nI_leI (by omega) (by omega)] at cge; omega) (jrl_1 hz (jrw_z hn2 cp (by omega))) _ _ hP hD hS ls (lv_sub hl [2, 3, 4, 5, 1, 0] rfl)
        · refine lv_iconst (v := 1) hx hb dX6_rows_73 (by decide) ?_
          refine lv_goto (tgt := 78) hx hb dX6_rows_74 (by decide) ?_
          refine lv_iload_n hx hb dX6_rows_78 rfl (lv_at hl 2 rfl) ?_
          refine lv_icmp_ne (tgt := 86) hx hb dX6_rows_79 (by decide) (fun c_11 => ?_) (fun c_11 => absurd c_11 (by decide))
          refine lv_iconst (v := 0) hx hb dX6_rows_86 (by decide) ?_
          refine lv_iadd hx hb dX6_rows_87 ?_
          refine lv_topi (fun z_12 e_z_12 => ?_)
          obtain rfl : z_12 = nI (z + 0) := e_z_12.trans (nI_add z 0)
          refine lv_istore (lv' := [(4, .int (nI (z + 0))), (0, .ref mo), (1, .int 1), (2, .int 0), (3, .int 0), (5, .int (nI i))]) hx hb dX6_rows_88 hl (by decide) rfl (fun ls hl => ?_)
          refine lv_iinc (v := nI (i + 1)) (lv' := [(5, .int (nI (i + 1))), (4, .int (nI (z + 0))), (0, .ref mo), (1, .int 1), (2, .int 0), (3, .int 0)]) hx hb dX6_rows_90 hl (k := 5) rfl (nI_1 _) (by decide) rfl (fun ls hl => ?_)
          refine lv_goto (tgt := 37) hx hb dX6_rows_93 (by decide) ?_
          exact ih_1 (i + 1) (z + 0) (by rw [nI_leI (by omega) (by omega)] at cge; omega) (by rw [nI_leI (by omega) (by omega)] at cge; omega) (jrl_0 hz (jrw_p hn2 cp (by omega))) _ _ hP hD hS ls (lv_sub hl [2, 3, 4, 5, 1, 0] rfl)
  exact hloop_1 (n - 0 + 1) 0 0 (Nat.lt_succ_self _) (Nat.zero_le _) (rfl) _ _ hP hD hS ls (lv_sub hl [3, 4, 5, 2, 1, 0] rfl)
set_option maxHeartbeats 1000000 in
set_option maxRecDepth 100000 in
theorem gM_rows_01 (l : Launch) (D : va_G) (cI cL cQ : ClassId) (mo : Nat) (g : Nat) (n : Nat) (n2 : Nat) (q1 : Nat) (q3 : Nat) (q4 : Nat) (q5 : Nat) (q6 : Nat) (q11 : Nat) (z0 : Int32) (gr : Int32) (kd : Int32) (mk : Int32) (w10 : Int64) (w13 : Int64) (w14 : Int64) (m3 : Nat → Int32) (sz : Nat) (hn : n ≤ 400) (hn2 : n2 ≤ 400) : Met l yX6_rows wsX6_rows ({ frames := 1, cells := 0, slots := 0, locals := 24 }) (jw_P D vwCl (jT cI cL cQ) cL cQ [.ref mo, .int 0, .int 1] [(mo, .inr (6, [.int z0, .ref q1, .int (nI g), .ref q3, .ref q4, .ref q5, .ref q6, .int 1, .int gr, .int kd, .long w10, .ref q11, .int mk, .long w13, .long w14])), (q3, .inl (cI, 800, .inl m3)), (q6, .inl (cI, 2, .inl (jl [nI n, nI n2])))] sz) (va_Qi (fun (r : Int32) (u : va_W) => r = nI (n2 - jLS n (jsh 400 m3) (jsh 0 m3) n2) ∧ u = [(mo, .inr (6, [.int 0, .ref q1, .int (nI g), .ref q3, .ref q4, .ref q5, .ref q6, .int 1, .int gr, .int kd, .long w10, .ref q11, .int mk, .long w13, .long w14])), (q3, .inl (cI, 800, .inl m3)), (q6, .inl (cI, 2, .inl (jl [nI n, nI n2])))]) (jw_B D vwCl (va_A [(mo, .inr (6, [.int z0, .ref q1, .int (nI g), .ref q3, .ref q4, .ref q5, .ref q6, .int 1, .int gr, .int kd, .long w10, .ref q11, .int mk, .long w13, .long w14])), (q3, .inl (cI, 800, .inl m3)), (q6, .inl (cI, 2, .inl (jl [nI n, nI n2])))] sz) (fun u : va_W => u)) (va_A [(mo, .inr (6, [.int z0, .ref q1, .int (nI g), .ref q3, .ref q4, .ref q5, .ref q6, .int 1, .int gr, .int kd, .long w10, .ref q11, .int mk, .long w13, .long w14])), (q3, .inl (cI, 800, .inl m3)), (q6, .inl (cI, 2, .inl (jl [nI n, nI n2])))] sz)) 0 0 (va_A [(mo, .inr (6, [.int z0, .ref q1, .int (nI g), .ref q3, .ref q4, .ref q5, .ref q6, .int 1, .int gr, .int kd, .long w10, .ref q11, .int mk, .long w13, .long w14])), (q3, .inl (cI, 800, .inl m3)), (q6, .inl (cI, 2, .inl (jl [nI n, nI n2])))] sz) := by
  refine Met.ofW (cc := cX6_rows) (maxL := 6) (ret := (some .int)) (by decide) rfl ?_
  intro p e s m args below meth c s₁ B hml hv
  obtain ⟨rfl, hsz, hP, hK, hN, hD0⟩ := hv
  have hx := B.exec
  have hb := B.bytes
  have hr := B.returns
  have hts := atoms_spec (ws := wsX6_rows) B.pre
  have hown : s.vm.findClass RX6 = some m.cls := findClass_of_methodNamed B.named
  have hlocks := B.notSynchronized
  subst hsz
  have hD := hD0.self (sz := s.heap.size)
  generalize hAe : va_A [(mo, .inr (6, [.int z0, .ref q1, .int (nI g), .ref q3, .ref q4, .ref q5, .ref q6, .int 1, .int gr, .int kd, .long w10, .ref q11, .int mk, .long w13, .long w14])), (q3, .inl (cI, 800, .inl m3)), (q6, .inl (cI, 2, .inl (jl [nI n, nI n2])))] s.heap.size = A at hD ⊢
  have hA : ∀ q : Nat, s.heap.size ≤ q → A q := fun q h => by rw [← hAe]; exact Or.inr h
  have hS : va_S A s.heap s.heap [] := va_S.rf
  have hl := lv_entry ([.ref mo, .int 0, .int 1]) (n := 6) (Nat.le_of_ble_eq_true rfl)
  rw [lg_entry_eq]
  generalize (lg_sl ([.ref mo, .int 0, .int 1]) ++ List.replicate (6 - (lg_sl ([.ref mo, .int 0, .int 1])).length) Slot.unset).toArray = ls at hl ⊢
  have hl : lv_has ls 6 [(0, .ref mo), (1, .int 0), (2, .int 1)] := hl
  refine lv_aload_n hx hb dX6_rows_0 rfl (lv_at hl 0 rfl) ?_
  refine lv_aload_n hx hb dX6_rows_1 rfl (lv_at hl 0 rfl) ?_
  refine va_get (D := D) (ci := 6) (v := .int 1) (C := RX6) (T := TX6) (N := 15) hx hb hts (by decide +kernel) hown hK hP 0 rfl rfl 7 (by decide) (hts (.fieldLink RX6 43 "JoinDeskModel" "prepared" "Z") (by decide +kernel)) (fun _ h9 => h9) rfl dX6_rows_2 ?_
  refine lv_if_eq (tgt := 12) hx hb dX6_rows_5 (by decide) (fun c_1 => absurd c_1 (by decide)) (fun c_1 => ?_)
  refine lv_iconst (v := 0) hx hb dX6_rows_8 (by decide) ?_
  refine lv_goto (tgt := 13) hx hb dX6_rows_9 (by decide) ?_
  refine jw_i (wr := [(q3, .inl (cI, 800, .inl m3)), (q6, .inl (cI, 2, .inl (jl [nI n, nI n2])))]) (va_runV (As := [.int 0]) (rest := []) ⟨hx, hb, hml, hown, hts⟩ (gM_refuses_0 l D cI cL cQ mo g q1 q3 q4 q5 q6 q11 z0 1 gr kd mk w10 w13 w14 _) (cwV 1 hts gX6_rows_X6_refuses rfl rfl rfl (by decide +kernel) ⟨Nat.le_of_ble_eq_true rfl, Nat.le_of_ble_eq_true rfl⟩) (jw_V hK hN hP hD [0] (by decide) rfl 6 0 rfl rfl rfl) rfl rfl hl.1 rfl (lv_room (Nat.le_of_ble_eq_true rfl)) dX6_rows_13 ⟨Nat.le_of_ble_eq_true rfl, Nat.le_of_ble_eq_true rfl⟩) hP hD hS hA [0] [1, 2] rfl rfl (by decide) (by decide) (fun r u H locs f_2 hP hD hS => ?_)
  obtain ⟨rfl, rfl⟩ := f_2
  have hP : va_P D vwCl [(q3, .inl (cI, 800, .inl m3)), (q6, .inl (cI, 2, .inl (jl [nI n, nI n2]))), (mo, .inr (6, [.int 0, .ref q1, .int (nI g), .ref q3, .ref q4, .ref q5, .ref q6, .int 1, .int gr, .int kd, .long w10, .ref q11, .int mk, .long w13, .long w14]))] H := hP
  have hD : va_D A [(q3, .inl (cI, 800, .inl m3)), (q6, .inl (cI, 2, .inl (jl [nI n, nI n2]))), (mo, .inr (6, [.int 0, .ref q1, .int (nI g), .ref q3, .ref q4, .ref q5, .ref q6, .int 1, .int gr, .int kd, .long w10, .ref q11, .int mk, .long w13, .long w14]))] := hD
  refine lv_if_eq (tgt := 21) hx hb dX6_rows_16 (by decide) (fun c_3 => ?_) (fun c_3 => absurd c_3 (by decide))
  refine lv_iload_n hx hb dX6_rows_21 rfl (lv_at hl 1 rfl) ?_
  refine lv_if_eq (tgt := 29) hx hb dX6_rows_22 (by decide) (fun c_4 => ?_) (fun c_4 => absurd c_4 (by decide))
  refine lv_iconst (v := 1) hx hb dX6_rows_29 (by decide) ?_
  refine lv_istore_n (lv' := [(3, .int 1), (0, .ref mo), (1, .int 0), (2, .int 1)]) hx hb dX6_rows_30 rfl hl (by decide) rfl (fun ls hl => ?_)
  refine lv_iconst (v := 0) hx hb dX6_rows_31 (by decide) ?_
  refine lv_istore (lv' := [(4, .int 0), (3, .int 1), (0, .ref mo), (1, .int 0), (2, .int 1)]) hx hb dX6_rows_32 hl (by decide) rfl (fun ls hl => ?_)
  refine lv_iconst (v := 0) hx hb dX6_rows_34 (by decide) ?_
  refine lv_istore (lv' := [(5, .int 0), (4, .int 0), (3, .int 1), (0, .ref mo), (1, .int 0), (2, .int 1)]) hx hb dX6_rows_35 hl (by decide) rfl (fun ls hl => ?_)
  have hP := hP.sub (ws' := [(mo, .inr (6, [.int 0, .ref q1, .int (nI g), .ref q3, .ref q4, .ref q5, .ref q6, .int 1, .int gr, .int kd, .long w10, .ref q11, .int mk, .long w13, .long w14])), (q3, .inl (cI, 800, .inl m3)), (q6, .inl (cI, 2, .inl (jl [nI n, nI n2])))]) [2, 0, 1] rfl
  have hD := hD.sub (ws' := [(mo, .inr (6, [.int 0, .ref q1, .int (nI g), .ref q3, .ref q4, .ref q5, .ref q6, .int 1, .int gr, .int kd, .long w10, .ref q11, .int mk, .long w13, .long w14])), (q3, .inl (cI, 800, .inl m3)), (q6, .inl (cI, 2, .inl (jl [nI n, nI n2])))]) [2, 0, 1] (by decide) rfl
  have hloop_1 : ∀ (k_1 : Nat) (i : Nat) (z : Nat), n2 - i < k_1 → (i ≤ n2) → (z + jLS n (jsh 400 m3) (jsh 0 m3) i = i) → ∀ (H : Heap) (locs : List Loc), va_P D vwCl [(mo, .inr (6, [.int 0, .ref q1, .int (nI g), .ref q3, .ref q4, .ref q5, .ref q6, .int 1, .int gr, .int kd, .long w10, .ref q11, .int mk, .long w13, .long w14])), (q3, .inl (cI, 800, .inl m3)), (q6, .inl (cI, 2, .inl (jl [nI n, nI n2])))] H → va_D A [(mo, .inr (6, [.int 0, .ref q1, .int (nI g), .ref q3, .ref q4, .ref q5, .ref q6, .int 1, .int gr, .int kd, .long w10, .ref q11, .int mk, .long w13, .long w14])), (q3, .inl (cI, 800, .inl m3)), (q6, .inl (cI, 2, .inl (jl [nI n, nI n2])))] → va_S A s.heap H locs → ∀ ls : Array Slot, lv_has ls 6 [(0, .ref mo), (1, .int 0), (2, .int 1), (3, .int 1), (4, .int (nI z)), (5, .int (nI i))] → W p l e (headSpec wsX6_rows ({ frames := 1, cells := 0, slots := 0, locals := 24 })).room s m #[.ref mo, .int 0, .int 1] below meth c H locs 0 0 (MQ below (va_Qi (fun (r : Int32) (u : va_W) => r = nI (n2 - jLS n (jsh 400 m3) (jsh 0 m3) n2) ∧ u = [(mo, .inr (6, [.int 0, .ref q1, .int (nI g), .ref q3, .ref q4, .ref q5, .ref q6, .int 1, .int gr, .int kd, .long w10, .ref q11, .int mk, .long w13, .long w14])), (q3, .inl (cI, 800, .inl m3)), (q6, .inl (cI, 2, .inl (jl [nI n, nI n2])))]) (jw_B D vwCl A (fun u : va_W => u)) A) #[.ref mo, .int 0, .int 1] s 0 0 A) (F0 m 37 ls []) := by
    intro k_1
    induction k_1 with
    | zero => exact fun _ _ hm => absurd hm (Nat.not_lt_zero _)
    | succ k_1 ih_1 =>
      intro i z hm1 hi hz H locs hP hD hS ls hl
      refine lv_iload hx hb dX6_rows_37 (lv_at hl 5 rfl) ?_
      refine lv_aload_n hx hb dX6_rows_39 rfl (lv_at hl 0 rfl) ?_
      refine va_get (D := D) (ci := 6) (v := .ref q6) (C := RX6) (T := TX6) (N := 15) hx hb hts (by decide +kernel) hown hK hP 0 rfl rfl 6 (by decide) (hts (.fieldLink RX6 22 "JoinDeskModel" "many" "[I") (by decide +kernel)) (fun _ h9 => h9) rfl dX6_rows_40 ?_
      refine lv_iload_n hx hb dX6_rows_43 rfl (lv_at hl 3 rfl) ?_
      refine va_iald hx hb hK hP 2 0 rfl rfl (by unfold vp_in; decide) dX6_rows_44 ?_
      refine W.eq (g2 := F0 m 45 ls [.int (nI n2), .int (nI i)]) rfl ?_
      refine lv_icmp_ge (tgt := 96) hx hb dX6_rows_45 (by decide) (fun cge => ?_) (fun cge => ?_)
      · refine lv_iload hx hb dX6_rows_96 (lv_at hl 4 rfl) ?_
        refine W.widen (k := 0) (n := 0) (by omega) (by omega) ?_
        exact W.iret (v := nI z) hx hb hr (fun t ht hW => ⟨⟨(nI z), [(mo, .inr (6, [.int 0, .ref q1, .int (nI g), .ref q3, .ref q4, .ref q5, .ref q6, .int 1, .int gr, .int kd, .long w10, .ref q11, .int mk, .long w13, .long w14])), (q3, .inl (cI, 800, .inl m3)), (q6, .inl (cI, 2, .inl (jl [nI n, nI n2])))], rfl, (⟨jrp_fin hz hi cge hn2, rfl⟩), by rw [ht]; exact hP, hD⟩, hS.F ht⟩) hS.2.2 dX6_rows_98
      · refine lv_iload hx hb dX6_rows_48 (lv_at hl 4 rfl) ?_
        refine lv_aload_n hx hb dX6_rows_50 rfl (lv_at hl 0 rfl) ?_
        refine lv_iconst (v := 1) hx hb dX6_rows_51 (by decide) ?_
        refine lv_iload_n hx hb dX6_rows_52 rfl (lv_at hl 3 rfl) ?_
        refine lv_isub hx hb dX6_rows_53 ?_
        refine lv_topi (fun z_5 e_z_5 => ?_)
        obtain rfl : z_5 = 0 := e_z_5.trans (by decide)
        refine lv_aload_n hx hb dX6_rows_54 rfl (lv_at hl 0 rfl) ?_
        refine va_get (D := D) (ci := 6) (v := .ref q3) (C := RX6) (T := TX6) (N := 15) hx hb hts (by decide +kernel) hown hK hP 0 rfl rfl 3 (by decide) (hts (.fieldLink RX6 13 "JoinDeskModel" "keys" "[I") (by decide +kernel)) (fun _ h9 => h9) rfl dX6_rows_55 ?_
        refine lv_sipush (v := 400) hx hb dX6_rows_58 (by decide) ?_
        refine lv_iload_n hx hb dX6_rows_61 rfl (lv_at hl 3 rfl) ?_
        refine lv_imul hx hb dX6_rows_62 ?_
        refine lv_topi (fun z_6 e_z_6 => ?_)
        obtain rfl : z_6 = 400 := e_z_6.trans (by decide)
        refine lv_iload hx hb dX6_rows_63 (lv_at hl 5 rfl) ?_
        refine lv_iadd hx hb dX6_rows_65 ?_
        refine lv_topi (fun z_7 e_z_7 => ?_)
        obtain rfl : z_7 = nI (400 + i) := e_z_7.trans (nI_add 400 i)
        refine va_iald hx hb hK hP 1 0 rfl rfl (vp_in_nI (show 400 + i < 800 by rw [nI_leI (by omega) (by omega)] at cge; omega) (by omega)) dX6_rows_66 ?_
        refine vp_callSi (va_Run.run (va_runV (As := [.int 0, .int (m3 (nI (400 + i)).toNatClampNeg)]) (rest := [.int (nI z)]) ⟨hx, hb, hml, hown, hts⟩ (gM_rowsOf_0 l D cI cL cQ mo g n n2 q1 q3 q4 q5 q6 q11 0 1 gr kd mk w10 w13 w14 m3 (m3 (nI (400 + i)).toNatClampNeg) (by first | assumption | decide | omega)) (cwV 2 hts gX6_rows_X6_rowsOf rfl rfl rfl (by decide +kernel) ⟨Nat.le_of_ble_eq_true rfl, Nat.le_of_ble_eq_true rfl⟩) (jr_V hK hN hP [0, 1, 2] rfl 6 0 rfl rfl rfl) rfl rfl hl.1 rfl (lv_room (Nat.le_of_ble_eq_true rfl)) dX6_rows_67 ⟨Nat.le_of_ble_eq_true rfl, Nat.le_of_ble_eq_true rfl⟩)) (fun r f_8 => ?_)
        obtain rfl := f_8
        refine lv_if_le (tgt := 77) hx hb dX6_rows_70 (by decide) (fun cp => ?_) (fun cp => ?_)
        · refine lv_iconst (v := 0) hx hb dX6_rows_77 (by decide) ?_
          refine lv_iload_n hx hb dX6_rows_78 rfl (lv_at hl 2 rfl) ?_
          refine lv_icmp_ne (tgt := 86) hx hb dX6_rows_79 (by decide) (fun c_9 => ?_) (fun c_9 => absurd c_9 (by decide))
          refine lv_iconst (v := 0) hx hb dX6_rows_86 (by decide) ?_
          refine lv_iadd hx hb dX6_rows_87 ?_
          refine lv_topi (fun z_10 e_z_10 => ?_)
          obtain rfl : z_10 = nI (z + 0) := e_z_10.trans (nI_add z 0)
          refine lv_istore (lv' := [(4, .int (nI (z + 0))), (0, .ref mo), (1, .int 0), (2, .int 1), (3, .int 1), (5, .int (nI i))]) hx hb dX6_rows_88 hl (by decide) rfl (fun ls hl => ?_)
          refine lv_iinc (v := nI (i + 1)) (lv' := [(5, .int (nI (i + 1))), (4, .int (nI (z + 0))), (0, .ref mo), (1, .int 0), (2, .int 1), (3, .int 1)]) hx hb dX6_rows_90 hl (k := 5) rfl (nI_1 _) (by decide) rfl (fun ls hl => ?_)
          refine lv_goto (tgt := 37) hx hb dX6_rows_93 (by decide) ?_
          exact ih_1 (i + 1) (z + 0) (by rw [nI_leI (by omega) (by omega)] at cge; omega) (by rw [nI_leI (by omega) (by omega)] at cge; omega) (jrp_0 hz (jrw_z hn cp (by omega))) _ _ hP hD hS ls (lv_sub hl [2, 3, 4, 5, 1, 0] rfl)
        · refine lv_iconst (v := 1) hx hb dX6_rows_73 (by decide) ?_
          refine lv_goto (tgt := 78) hx hb dX6_rows_74 (by decide) ?_
          refine lv_iload_n hx hb dX6_rows_78 rfl (lv_at hl 2 rfl) ?_
          refine lv_icmp_ne (tgt := 86) hx hb dX6_rows_79 (by decide) (fun c_11 => absurd c_11 (by decide)) (fun c_11 => ?_)
          refine lv_iconst (v := 1) hx hb dX6_rows_82 (by decide) ?_
          refine lv_goto (tgt := 87) hx hb dX6_rows_83 (by decide) ?_
          refine lv_iadd hx hb dX6_rows_87 ?_
          refine lv_topi (fun z_12 e_z_12 => ?_)
          obtain rfl : z_12 = nI (z + 1) := e_z_12.trans (nI_add z 1)
          refine lv_istore (lv' := [(4, .int (nI (z + 1))), (0, .ref mo), (1, .int 0), (2, .int 1), (3, .int 1), (5, .int (nI i))]) hx hb dX6_rows_88 hl (by decide) rfl (fun ls hl => ?_)
          refine lv_iinc (v := nI (i + 1)) (lv' := [(5, .int (nI (i + 1))), (4, .int (nI (z + 1))), (0, .ref mo), (1, .int 0), (2, .int 1), (3, .int 1)]) hx hb dX6_rows_90 hl (k := 5) rfl (nI_1 _) (by decide) rfl (fun ls hl => ?_)
          refine lv_goto (tgt := 37) hx hb dX6_rows_93 (by decide) ?_
          exact ih_1 (i + 1) (z + 1) (by rw [nI_leI (by omega) (by omega)] at cge; omega) (by rw [nI_leI (by omega) (by omega)] at cge; omega) (jrp_1 hz (jrw_p hn cp (by omega))) _ _ hP hD hS ls (lv_sub hl [2, 3, 4, 5, 1, 0] rfl)
  exact hloop_1 (n2 - 0 + 1) 0 0 (Nat.lt_succ_self _) (Nat.zero_le _) (rfl) _ _ hP hD hS ls (lv_sub hl [3, 4, 5, 2, 1, 0] rfl)
set_option maxHeartbeats 1000000 in
set_option maxRecDepth 100000 in
theorem gM_rows_00 (l : Launch) (D : va_G) (cI cL cQ : ClassId) (mo : Nat) (g : Nat) (n : Nat) (n2 : Nat) (q1 : Nat) (q3 : Nat) (q4 : Nat) (q5 : Nat) (q6 : Nat) (q11 : Nat) (z0 : Int32) (gr : Int32) (kd : Int32) (mk : Int32) (w10 : Int64) (w13 : Int64) (w14 : Int64) (m3 : Nat → Int32) (sz : Nat) (hn : n ≤ 400) (hn2 : n2 ≤ 400) : Met l yX6_rows wsX6_rows ({ frames := 1, cells := 0, slots := 0, locals := 24 }) (jw_P D vwCl (jT cI cL cQ) cL cQ [.ref mo, .int 0, .int 0] [(mo, .inr (6, [.int z0, .ref q1, .int (nI g), .ref q3, .ref q4, .ref q5, .ref q6, .int 1, .int gr, .int kd, .long w10, .ref q11, .int mk, .long w13, .long w14])), (q3, .inl (cI, 800, .inl m3)), (q6, .inl (cI, 2, .inl (jl [nI n, nI n2])))] sz) (va_Qi (fun (r : Int32) (u : va_W) => r = nI (jLS n (jsh 400 m3) (jsh 0 m3) n2) ∧ u = [(mo, .inr (6, [.int 0, .ref q1, .int (nI g), .ref q3, .ref q4, .ref q5, .ref q6, .int 1, .int gr, .int kd, .long w10, .ref q11, .int mk, .long w13, .long w14])), (q3, .inl (cI, 800, .inl m3)), (q6, .inl (cI, 2, .inl (jl [nI n, nI n2])))]) (jw_B D vwCl (va_A [(mo, .inr (6, [.int z0, .ref q1, .int (nI g), .ref q3, .ref q4, .ref q5, .ref q6, .int 1, .int gr, .int kd, .long w10, .ref q11, .int mk, .long w13, .long w14])), (q3, .inl (cI, 800, .inl m3)), (q6, .inl (cI, 2, .inl (jl [nI n, nI n2])))] sz) (fun u : va_W => u)) (va_A [(mo, .inr (6, [.int z0, .ref q1, .int (nI g), .ref q3, .ref q4, .ref q5, .ref q6, .int 1, .int gr, .int kd, .long w10, .ref q11, .int mk, .long w13, .long w14])), (q3, .inl (cI, 800, .inl m3)), (q6, .inl (cI, 2, .inl (jl [nI n, nI n2])))] sz)) 0 0 (va_A [(mo, .inr (6, [.int z0, .ref q1, .int (nI g), .ref q3, .ref q4, .ref q5, .ref q6, .int 1, .int gr, .int kd, .long w10, .ref q11, .int mk, .long w13, .long w14])), (q3, .inl (cI, 800, .inl m3)), (q6, .inl (cI, 2, .inl (jl [nI n, nI n2])))] sz) := by
  refine Met.ofW (cc := cX6_rows) (maxL := 6) (ret := (some .int)) (by decide) rfl ?_
  intro p e s m args below meth c s₁ B hml hv
  obtain ⟨rfl, hsz, hP, hK, hN, hD0⟩ := hv
  have hx := B.exec
  have hb := B.bytes
  have hr := B.returns
  have hts := atoms_spec (ws := wsX6_rows) B.pre
  have hown : s.vm.findClass RX6 = some m.cls := findClass_of_methodNamed B.named
  have hlocks := B.notSynchronized
  subst hsz
  have hD := hD0.self (sz := s.heap.size)
  generalize hAe : va_A [(mo, .inr (6, [.int z0, .ref q1, .int (nI g), .ref q3, .ref q4, .ref q5, .ref q6, .int 1, .int gr, .int kd, .long w10, .ref q11, .int mk, .long w13, .long w14])), (q3, .inl (cI, 800, .inl m3)), (q6, .inl (cI, 2, .inl (jl [nI n, nI n2])))] s.heap.size = A at hD ⊢
  have hA : ∀ q : Nat, s.heap.size ≤ q → A q := fun q h => by rw [← hAe]; exact Or.inr h
  have hS : va_S A s.heap s.heap [] := va_S.rf
  have hl := lv_entry ([.ref mo, .int 0, .int 0]) (n := 6) (Nat.le_of_ble_eq_true rfl)
  rw [lg_entry_eq]
  generalize (lg_sl ([.ref mo, .int 0, .int 0]) ++ List.replicate (6 - (lg_sl ([.ref mo, .int 0, .int 0])).length) Slot.unset).toArray = ls at hl ⊢
  have hl : lv_has ls 6 [(0, .ref mo), (1, .int 0), (2, .int 0)] := hl
  refine lv_aload_n hx hb dX6_rows_0 rfl (lv_at hl 0 rfl) ?_
  refine lv_aload_n hx hb dX6_rows_1 rfl (lv_at hl 0 rfl) ?_
  refine va_get (D := D) (ci := 6) (v := .int 1) (C := RX6) (T := TX6) (N := 15) hx hb hts (by decide +kernel) hown hK hP 0 rfl rfl 7 (by decide) (hts (.fieldLink RX6 43 "JoinDeskModel" "prepared" "Z") (by decide +kernel)) (fun _ h9 => h9) rfl dX6_rows_2 ?_
  refine lv_if_eq (tgt := 12) hx hb dX6_rows_5 (by decide) (fun c_1 => absurd c_1 (by decide)) (fun c_1 => ?_)
  refine lv_iconst (v := 0) hx hb dX6_rows_8 (by decide) ?_
  refine lv_goto (tgt := 13) hx hb dX6_rows_9 (by decide) ?_
  refine jw_i (wr := [(q3, .inl (cI, 800, .inl m3)), (q6, .inl (cI, 2, .inl (jl [nI n, nI n2])))]) (va_runV (As := [.int 0]) (rest := []) ⟨hx, hb, hml, hown, hts⟩ (gM_refuses_0 l D cI cL cQ mo g q1 q3 q4 q5 q6 q11 z0 1 gr kd mk w10 w13 w14 _) (cwV 1 hts gX6_rows_X6_refuses rfl rfl rfl (by decide +kernel) ⟨Nat.le_of_ble_eq_true rfl, Nat.le_of_ble_eq_true rfl⟩) (jw_V hK hN hP hD [0] (by decide) rfl 6 0 rfl rfl rfl) rfl rfl hl.1 rfl (lv_room (Nat.le_of_ble_eq_true rfl)) dX6_rows_13 ⟨Nat.le_of_ble_eq_true rfl, Nat.le_of_ble_eq_true rfl⟩) hP hD hS hA [0] [1, 2] rfl rfl (by decide) (by decide) (fun r u H locs f_2 hP hD hS => ?_)
  obtain ⟨rfl, rfl⟩ := f_2
  have hP : va_P D vwCl [(q3, .inl (cI, 800, .inl m3)), (q6, .inl (cI, 2, .inl (jl [nI n, nI n2]))), (mo, .inr (6, [.int 0, .ref q1, .int (nI g), .ref q3, .ref q4, .ref q5, .ref q6, .int 1, .int gr, .int kd, .long w10, .ref q11, .int mk, .long w13, .long w14]))] H := hP
  have hD : va_D A [(q3, .inl (cI, 800, .inl m3)), (q6, .inl (cI, 2, .inl (jl [nI n, nI n2]))), (mo, .inr (6, [.int 0, .ref q1, .int (nI g), .ref q3, .ref q4, .ref q5, .ref q6, .int 1, .int gr, .int kd, .long w10, .ref q11, .int mk, .long w13, .long w14]))] := hD
  refine lv_if_eq (tgt := 21) hx hb dX6_rows_16 (by decide) (fun c_3 => ?_) (fun c_3 => absurd c_3 (by decide))
  refine lv_iload_n hx hb dX6_rows_21 rfl (lv_at hl 1 rfl) ?_
  refine lv_if_eq (tgt := 29) hx hb dX6_rows_22 (by decide) (fun c_4 => ?_) (fun c_4 => absurd c_4 (by decide))
  refine lv_iconst (v := 1) hx hb dX6_rows_29 (by decide) ?_
  refine lv_istore_n (lv' := [(3, .int 1), (0, .ref mo), (1, .int 0), (2, .int 0)]) hx hb dX6_rows_30 rfl hl (by decide) rfl (fun ls hl => ?_)
  refine lv_iconst (v := 0) hx hb dX6_rows_31 (by decide) ?_
  refine lv_istore (lv' := [(4, .int 0), (3, .int 1), (0, .ref mo), (1, .int 0), (2, .int 0)]) hx hb dX6_rows_32 hl (by decide) rfl (fun ls hl => ?_)
  refine lv_iconst (v := 0) hx hb dX6_rows_34 (by decide) ?_
  refine lv_istore (lv' := [(5, .int 0), (4, .int 0), (3, .int 1), (0, .ref mo), (1, .int 0), (2, .int 0)]) hx hb dX6_rows_35 hl (by decide) rfl (fun ls hl => ?_)
  have hP := hP.sub (ws' := [(mo, .inr (6, [.int 0, .ref q1, .int (nI g), .ref q3, .ref q4, .ref q5, .ref q6, .int 1, .int gr, .int kd, .long w10, .ref q11, .int mk, .long w13, .long w14])), (q3, .inl (cI, 800, .inl m3)), (q6, .inl (cI, 2, .inl (jl [nI n, nI n2])))]) [2, 0, 1] rfl
  have hD := hD.sub (ws' := [(mo, .inr (6, [.int 0, .ref q1, .int (nI g), .ref q3, .ref q4, .ref q5, .ref q6, .int 1, .int gr, .int kd, .long w10, .ref q11, .int mk, .long w13, .long w14])), (q3, .inl (cI, 800, .inl m3)), (q6, .inl (cI, 2, .inl (jl [nI n, nI n2])))]) [2, 0, 1] (by decide) rfl
  have hloop_1 : ∀ (k_1 : Nat) (i : Nat) (z : Nat), n2 - i < k_1 → (i ≤ n2) → (z = jLS n (jsh 400 m3) (jsh 0 m3) i) → ∀ (H : Heap) (locs : List Loc), va_P D vwCl [(mo, .inr (6, [.int 0, .ref q1, .int (nI g), .ref q3, .ref q4, .ref q5, .ref q6, .int 1, .int gr, .int kd, .long w10, .ref q11, .int mk, .long w13, .long w14])), (q3, .inl (cI, 800, .inl m3)), (q6, .inl (cI, 2, .inl (jl [nI n, nI n2])))] H → va_D A [(mo, .inr (6, [.int 0, .ref q1, .int (nI g), .ref q3, .ref q4, .ref q5, .ref q6, .int 1, .int gr, .int kd, .long w10, .ref q11, .int mk, .long w13, .long w14])), (q3, .inl (cI, 800, .inl m3)), (q6, .inl (cI, 2, .inl (jl [nI n, nI n2])))] → va_S A s.heap H locs → ∀ ls : Array Slot, lv_has ls 6 [(0, .ref mo), (1, .int 0), (2, .int 0), (3, .int 1), (4, .int (nI z)), (5, .int (nI i))] → W p l e (headSpec wsX6_rows ({ frames := 1, cells := 0, slots := 0, locals := 24 })).room s m #[.ref mo, .int 0, .int 0] below meth c H locs 0 0 (MQ below (va_Qi (fun (r : Int32) (u : va_W) => r = nI (jLS n (jsh 400 m3) (jsh 0 m3) n2) ∧ u = [(mo, .inr (6, [.int 0, .ref q1, .int (nI g), .ref q3, .ref q4, .ref q5, .ref q6, .int 1, .int gr, .int kd, .long w10, .ref q11, .int mk, .long w13, .long w14])), (q3, .inl (cI, 800, .inl m3)), (q6, .inl (cI, 2, .inl (jl [nI n, nI n2])))]) (jw_B D vwCl A (fun u : va_W => u)) A) #[.ref mo, .int 0, .int 0] s 0 0 A) (F0 m 37 ls []) := by
    intro k_1
    induction k_1 with
    | zero => exact fun _ _ hm => absurd hm (Nat.not_lt_zero _)
    | succ k_1 ih_1 =>
      intro i z hm1 hi hz H locs hP hD hS ls hl
      refine lv_iload hx hb dX6_rows_37 (lv_at hl 5 rfl) ?_
      refine lv_aload_n hx hb dX6_rows_39 rfl (lv_at hl 0 rfl) ?_
      refine va_get (D := D) (ci := 6) (v := .ref q6) (C := RX6) (T := TX6) (N := 15) hx hb hts (by decide +kernel) hown hK hP 0 rfl rfl 6 (by decide) (hts (.fieldLink RX6 22 "JoinDeskModel" "many" "[I") (by decide +kernel)) (fun _ h9 => h9) rfl dX6_rows_40 ?_
      refine lv_iload_n hx hb dX6_rows_43 rfl (lv_at hl 3 rfl) ?_
      refine va_iald hx hb hK hP 2 0 rfl rfl (by unfold vp_in; decide) dX6_rows_44 ?_
      refine W.eq (g2 := F0 m 45 ls [.int (nI n2), .int (nI i)]) rfl ?_
      refine lv_icmp_ge (tgt := 96) hx hb dX6_rows_45 (by decide) (fun cge => ?_) (fun cge => ?_)
      · refine lv_iload hx hb dX6_rows_96 (lv_at hl 4 rfl) ?_
        refine W.widen (k := 0) (n := 0) (by omega) (by omega) ?_
        exact W.iret (v := nI z) hx hb hr (fun t ht hW => ⟨⟨(nI z), [(mo, .inr (6, [.int 0, .ref q1, .int (nI g), .ref q3, .ref q4, .ref q5, .ref q6, .int 1, .int gr, .int kd, .long w10, .ref q11, .int mk, .long w13, .long w14])), (q3, .inl (cI, 800, .inl m3)), (q6, .inl (cI, 2, .inl (jl [nI n, nI n2])))], rfl, (⟨by rw [nI_leI (by omega) (by omega)] at cge; rw [hz, show i = n2 by omega], rfl⟩), by rw [ht]; exact hP, hD⟩, hS.F ht⟩) hS.2.2 dX6_rows_98
      · refine lv_iload hx hb dX6_rows_48 (lv_at hl 4 rfl) ?_
        refine lv_aload_n hx hb dX6_rows_50 rfl (lv_at hl 0 rfl) ?_
        refine lv_iconst (v := 1) hx hb dX6_rows_51 (by decide) ?_
        refine lv_iload_n hx hb dX6_rows_52 rfl (lv_at hl 3 rfl) ?_
        refine lv_isub hx hb dX6_rows_53 ?_
        refine lv_topi (fun z_5 e_z_5 => ?_)
        obtain rfl : z_5 = 0 := e_z_5.trans (by decide)
        refine lv_aload_n hx hb dX6_rows_54 rfl (lv_at hl 0 rfl) ?_
        refine va_get (D := D) (ci := 6) (v := .ref q3) (C := RX6) (T := TX6) (N := 15) hx hb hts (by decide +kernel) hown hK hP 0 rfl rfl 3 (by decide) (hts (.fieldLink RX6 13 "JoinDeskModel" "keys" "[I") (by decide +kernel)) (fun _ h9 => h9) rfl dX6_rows_55 ?_
        refine lv_sipush (v := 400) hx hb dX6_rows_58 (by decide) ?_
        refine lv_iload_n hx hb dX6_rows_61 rfl (lv_at hl 3 rfl) ?_
        refine lv_imul hx hb dX6_rows_62 ?_
        refine lv_topi (fun z_6 e_z_6 => ?_)
        obtain rfl : z_6 = 400 := e_z_6.trans (by decide)
        refine lv_iload hx hb dX6_rows_63 (lv_at hl 5 rfl) ?_
        refine lv_iadd hx hb dX6_rows_65 ?_
        refine lv_topi (fun z_7 e_z_7 => ?_)
        obtain rfl : z_7 = nI (400 + i) := e_z_7.trans (nI_add 400 i)
        refine va_iald hx hb hK hP 1 0 rfl rfl (vp_in_nI (show 400 + i < 800 by rw [nI_leI (by omega) (by omega)] at cge; omega) (by omega)) dX6_rows_66 ?_
        refine vp_callSi (va_Run.run (va_runV (As := [.int 0, .int (m3 (nI (400 + i)).toNatClampNeg)]) (rest := [.int (nI z)]) ⟨hx, hb, hml, hown, hts⟩ (gM_rowsOf_0 l D cI cL cQ mo g n n2 q1 q3 q4 q5 q6 q11 0 1 gr kd mk w10 w13 w14 m3 (m3 (nI (400 + i)).toNatClampNeg) (by first | assumption | decide | omega)) (cwV 2 hts gX6_rows_X6_rowsOf rfl rfl rfl (by decide +kernel) ⟨Nat.le_of_ble_eq_true rfl, Nat.le_of_ble_eq_true rfl⟩) (jr_V hK hN hP [0, 1, 2] rfl 6 0 rfl rfl rfl) rfl rfl hl.1 rfl (lv_room (Nat.le_of_ble_eq_true rfl)) dX6_rows_67 ⟨Nat.le_of_ble_eq_true rfl, Nat.le_of_ble_eq_true rfl⟩)) (fun r f_8 => ?_)
        obtain rfl := f_8
        refine lv_if_le (tgt := 77) hx hb dX6_rows_70 (by decide) (fun cp => ?_) (fun cp => ?_)
        · refine lv_iconst (v := 0) hx hb dX6_rows_77 (by decide) ?_
          refine lv_iload_n hx hb dX6_rows_78 rfl (lv_at hl 2 rfl) ?_
          refine lv_icmp_ne (tgt := 86) hx hb dX6_rows_79 (by decide) (fun c_9 => absurd c_9 (by decide)) (fun c_9 => ?_)
          refine lv_iconst (v := 1) hx hb dX6_rows_82 (by decide) ?_
          refine lv_goto (tgt := 87) hx hb dX6_rows_83 (by decide) ?_
          refine lv_iadd hx hb dX6_rows_87 ?_
          refine lv_topi (fun z_10 e_z_10 => ?_)
          obtain rfl : z_10 = nI (z + 1) := e_z_10.trans (nI_add z 1)
          refine lv_istore (lv' := [(4, .int (nI (z + 1))), (0, .ref mo), (1, .int 0), (2, .int 0), (3, .int 1), (5, .int (nI i))]) hx hb dX6_rows_88 hl (by decide) rfl (fun ls hl => ?_)
          refine lv_iinc (v := nI (i + 1)) (lv' := [(5, .int (nI (i + 1))), (4, .int (nI (z + 1))), (0, .ref mo), (1, .int 0), (2, .int 0), (3, .int 1)]) hx hb dX6_rows_90 hl (k := 5) rfl (nI_1 _) (by decide) rfl (fun ls hl => ?_)
          refine lv_goto (tgt := 37) hx hb dX6_rows_93 (by decide) ?_
          exact ih_1 (i + 1) (z + 1) (by rw [nI_leI (by omega) (by omega)] at cge; omega) (by rw [nI_leI (by omega) (by omega)] at cge; omega) (jrl_1 hz (jrw_z hn cp (by omega))) _ _ hP hD hS ls (lv_sub hl [2, 3, 4, 5, 1, 0] rfl)
        · refine lv_iconst (v := 1) hx hb dX6_rows_73 (by decide) ?_
          refine lv_goto (tgt := 78) hx hb dX6_rows_74 (by decide) ?_
          refine lv_iload_n hx hb dX6_rows_78 rfl (lv_at hl 2 rfl) ?_
          refine lv_icmp_ne (tgt := 86) hx hb dX6_rows_79 (by decide) (fun c_11 => ?_) (fun c_11 => absurd c_11 (by decide))
          refine lv_iconst (v := 0) hx hb dX6_rows_86 (by decide) ?_
          refine lv_iadd hx hb dX6_rows_87 ?_
          refine lv_topi (fun z_12 e_z_12 => ?_)
          obtain rfl : z_12 = nI (z + 0) := e_z_12.trans (nI_add z 0)
          refine lv_istore (lv' := [(4, .int (nI (z + 0))), (0, .ref mo), (1, .int 0), (2, .int 0), (3, .int 1), (5, .int (nI i))]) hx hb dX6_rows_88 hl (by decide) rfl (fun ls hl => ?_)
          refine lv_iinc (v := nI (i + 1)) (lv' := [(5, .int (nI (i + 1))), (4, .int (nI (z + 0))), (0, .ref mo), (1, .int 0), (2, .int 0), (3, .int 1)]) hx hb dX6_rows_90 hl (k := 5) rfl (nI_1 _) (by decide) rfl (fun ls hl => ?_)
          refine lv_goto (tgt := 37) hx hb dX6_rows_93 (by decide) ?_
          exact ih_1 (i + 1) (z + 0) (by rw [nI_leI (by omega) (by omega)] at cge; omega) (by rw [nI_leI (by omega) (by omega)] at cge; omega) (jrl_0 hz (jrw_p hn cp (by omega))) _ _ hP hD hS ls (lv_sub hl [2, 3, 4, 5, 1, 0] rfl)
  exact hloop_1 (n2 - 0 + 1) 0 0 (Nat.lt_succ_self _) (Nat.zero_le _) (rfl) _ _ hP hD hS ls (lv_sub hl [3, 4, 5, 2, 1, 0] rfl)
