set_option maxHeartbeats 1000000 in
set_option maxRecDepth 100000 in
theorem gT_findPartners (l : Launch) (D : va_G) (cI cL cQ : ClassId) (h0 : Nat) (a : Nat) (n : Nat) (pl : Nat) (ak : Nat) (av : Nat) (ao : Nat) (ap : Nat) (al : Nat) (af : Nat) (fk : Nat → Int32) (fo : Nat → Int32) (fp : Nat → Int32) (fl : Nat → Int32) (ff : Nat → Int32) (o0 : Nat) (a2 : Nat) (n2 : Nat) (pl2 : Nat) (bk : Nat) (bv : Nat) (bo : Nat) (bp : Nat) (bl : Nat) (bf : Nat) (gk : Nat → Int32) (go : Nat → Int32) (sz : Nat) (ha : a ≤ 400) (hn : n ≤ a) (ho : jord a fo) (ha2 : a2 ≤ 400) (hn2 : n2 ≤ a2) (ho2 : jord a2 go) (hff : ∀ j, ∃ k, k ≤ 400 ∧ ff j = nI k) : Met l yX4_findPartners wsX4_findPartners ({ frames := 2, cells := 0, slots := 0, locals := 42 }) (jw_P D vwCl (jT cI cL cQ) cL cQ [.ref h0, .ref o0] [(h0, .inr (4, [.int (nI a), .ref ak, .ref av, .ref ao, .ref ap, .ref al, .ref af, .int (nI n), .int (nI pl)])), (ak, .inl (cI, a, .inl fk)), (ao, .inl (cI, a, .inl fo)), (ap, .inl (cI, a + 1, .inl fp)), (al, .inl (cI, a + 1, .inl fl)), (af, .inl (cI, a, .inl ff)), (o0, .inr (4, [.int (nI a2), .ref bk, .ref bv, .ref bo, .ref bp, .ref bl, .ref bf, .int (nI n2), .int (nI pl2)])), (bk, .inl (cI, a2, .inl gk)), (bo, .inl (cI, a2, .inl go))] sz) (va_Qv (fun u : va_W => ∃ (fp9 : Nat → Int32) (fl9 : Nat → Int32) (ff9 : Nat → Int32), u = [(h0, .inr (4, [.int (nI a), .ref ak, .ref av, .ref ao, .ref ap, .ref al, .ref af, .int (nI n), .int (nI pl)])), (ak, .inl (cI, a, .inl fk)), (ao, .inl (cI, a, .inl fo)), (ap, .inl (cI, a + 1, .inl fp9)), (al, .inl (cI, a + 1, .inl fl9)), (af, .inl (cI, a, .inl ff9)), (o0, .inr (4, [.int (nI a2), .ref bk, .ref bv, .ref bo, .ref bp, .ref bl, .ref bf, .int (nI n2), .int (nI pl2)])), (bk, .inl (cI, a2, .inl gk)), (bo, .inl (cI, a2, .inl go))] ∧ (∀ j, ∃ k, k ≤ 400 ∧ ff9 j = nI k)) (jw_B D vwCl (va_A [(h0, .inr (4, [.int (nI a), .ref ak, .ref av, .ref ao, .ref ap, .ref al, .ref af, .int (nI n), .int (nI pl)])), (ak, .inl (cI, a, .inl fk)), (ao, .inl (cI, a, .inl fo)), (ap, .inl (cI, a + 1, .inl fp)), (al, .inl (cI, a + 1, .inl fl)), (af, .inl (cI, a, .inl ff)), (o0, .inr (4, [.int (nI a2), .ref bk, .ref bv, .ref bo, .ref bp, .ref bl, .ref bf, .int (nI n2), .int (nI pl2)])), (bk, .inl (cI, a2, .inl gk)), (bo, .inl (cI, a2, .inl go))] sz) (fun u : va_W => u)) (va_A [(h0, .inr (4, [.int (nI a), .ref ak, .ref av, .ref ao, .ref ap, .ref al, .ref af, .int (nI n), .int (nI pl)])), (ak, .inl (cI, a, .inl fk)), (ao, .inl (cI, a, .inl fo)), (ap, .inl (cI, a + 1, .inl fp)), (al, .inl (cI, a + 1, .inl fl)), (af, .inl (cI, a, .inl ff)), (o0, .inr (4, [.int (nI a2), .ref bk, .ref bv, .ref bo, .ref bp, .ref bl, .ref bf, .int (nI n2), .int (nI pl2)])), (bk, .inl (cI, a2, .inl gk)), (bo, .inl (cI, a2, .inl go))] sz)) 0 0 (va_A [(h0, .inr (4, [.int (nI a), .ref ak, .ref av, .ref ao, .ref ap, .ref al, .ref af, .int (nI n), .int (nI pl)])), (ak, .inl (cI, a, .inl fk)), (ao, .inl (cI, a, .inl fo)), (ap, .inl (cI, a + 1, .inl fp)), (al, .inl (cI, a + 1, .inl fl)), (af, .inl (cI, a, .inl ff)), (o0, .inr (4, [.int (nI a2), .ref bk, .ref bv, .ref bo, .ref bp, .ref bl, .ref bf, .int (nI n2), .int (nI pl2)])), (bk, .inl (cI, a2, .inl gk)), (bo, .inl (cI, a2, .inl go))] sz) := by
  refine Met.ofW (cc := cX4_findPartners) (maxL := 6) (ret := none) (by decide) rfl ?_
  intro p e s m args below meth c s₁ B hml hv
  obtain ⟨rfl, hsz, hP, hK, hN, hD0⟩ := hv
  have hx := B.exec
  have hb := B.bytes
  have hr := B.returns
  have hts := atoms_spec (ws := wsX4_findPartners) B.pre
  have hown : s.vm.findClass RX4 = some m.cls := findClass_of_methodNamed B.named
  have hlocks := B.notSynchronized
  subst hsz
  have hD := hD0.self (sz := s.heap.size)
  generalize hAe : va_A [(h0, .inr (4, [.int (nI a), .ref ak, .ref av, .ref ao, .ref ap, .ref al, .ref af, .int (nI n), .int (nI pl)])), (ak, .inl (cI, a, .inl fk)), (ao, .inl (cI, a, .inl fo)), (ap, .inl (cI, a + 1, .inl fp)), (al, .inl (cI, a + 1, .inl fl)), (af, .inl (cI, a, .inl ff)), (o0, .inr (4, [.int (nI a2), .ref bk, .ref bv, .ref bo, .ref bp, .ref bl, .ref bf, .int (nI n2), .int (nI pl2)])), (bk, .inl (cI, a2, .inl gk)), (bo, .inl (cI, a2, .inl go))] s.heap.size = A at hD ⊢
  have hA : ∀ q : Nat, s.heap.size ≤ q → A q := fun q h => by rw [← hAe]; exact Or.inr h
  have hS : va_S A s.heap s.heap [] := va_S.rf
  have hl := lv_entry ([.ref h0, .ref o0]) (n := 6) (Nat.le_of_ble_eq_true rfl)
  rw [lg_entry_eq]
  generalize (lg_sl ([.ref h0, .ref o0]) ++ List.replicate (6 - (lg_sl ([.ref h0, .ref o0])).length) Slot.unset).toArray = ls at hl ⊢
  have hl : lv_has ls 6 [(0, .ref h0), (1, .ref o0)] := hl
  refine lv_iconst (v := 0) hx hb dX4_findPartners_0 (by decide) ?_
  refine lv_istore_n (lv' := [(2, .int 0), (0, .ref h0), (1, .ref o0)]) hx hb dX4_findPartners_1 rfl hl (by decide) rfl (fun ls hl => ?_)
  refine lv_iconst (v := 0) hx hb dX4_findPartners_2 (by decide) ?_
  refine lv_istore_n (lv' := [(3, .int 0), (2, .int 0), (0, .ref h0), (1, .ref o0)]) hx hb dX4_findPartners_3 rfl hl (by decide) rfl (fun ls hl => ?_)
  refine lv_iconst (v := 0) hx hb dX4_findPartners_4 (by decide) ?_
  refine lv_istore (lv' := [(4, .int 0), (3, .int 0), (2, .int 0), (0, .ref h0), (1, .ref o0)]) hx hb dX4_findPartners_5 hl (by decide) rfl (fun ls hl => ?_)
  have hloop_1 : ∀ (k_1 : Nat) (i : Nat) (fi : Nat) (be : Nat) (fp1 : Nat → Int32) (fl1 : Nat → Int32) (ff1 : Nat → Int32), n - i < k_1 → (i ≤ n) → (fi ≤ n2) → (be ≤ n2) → (∀ j, ∃ k, k ≤ 400 ∧ ff1 j = nI k) → ∀ (H : Heap) (locs : List Loc), va_P D vwCl [(h0, .inr (4, [.int (nI a), .ref ak, .ref av, .ref ao, .ref ap, .ref al, .ref af, .int (nI n), .int (nI pl)])), (ak, .inl (cI, a, .inl fk)), (ao, .inl (cI, a, .inl fo)), (ap, .inl (cI, a + 1, .inl fp1)), (al, .inl (cI, a + 1, .inl fl1)), (af, .inl (cI, a, .inl ff1)), (o0, .inr (4, [.int (nI a2), .ref bk, .ref bv, .ref bo, .ref bp, .ref bl, .ref bf, .int (nI n2), .int (nI pl2)])), (bk, .inl (cI, a2, .inl gk)), (bo, .inl (cI, a2, .inl go))] H → va_D A [(h0, .inr (4, [.int (nI a), .ref ak, .ref av, .ref ao, .ref ap, .ref al, .ref af, .int (nI n), .int (nI pl)])), (ak, .inl (cI, a, .inl fk)), (ao, .inl (cI, a, .inl fo)), (ap, .inl (cI, a + 1, .inl fp1)), (al, .inl (cI, a + 1, .inl fl1)), (af, .inl (cI, a, .inl ff1)), (o0, .inr (4, [.int (nI a2), .ref bk, .ref bv, .ref bo, .ref bp, .ref bl, .ref bf, .int (nI n2), .int (nI pl2)])), (bk, .inl (cI, a2, .inl gk)), (bo, .inl (cI, a2, .inl go))] → va_S A s.heap H locs → ∀ ls : Array Slot, lv_has ls 6 [(0, .ref h0), (1, .ref o0), (2, .int (nI fi)), (3, .int (nI be)), (4, .int (nI i))] → W p l e (headSpec wsX4_findPartners ({ frames := 2, cells := 0, slots := 0, locals := 42 })).room s m #[.ref h0, .ref o0] below meth c H locs 0 0 (MQ below (va_Qv (fun u : va_W => ∃ (fp9 : Nat → Int32) (fl9 : Nat → Int32) (ff9 : Nat → Int32), u = [(h0, .inr (4, [.int (nI a), .ref ak, .ref av, .ref ao, .ref ap, .ref al, .ref af, .int (nI n), .int (nI pl)])), (ak, .inl (cI, a, .inl fk)), (ao, .inl (cI, a, .inl fo)), (ap, .inl (cI, a + 1, .inl fp9)), (al, .inl (cI, a + 1, .inl fl9)), (af, .inl (cI, a, .inl ff9)), (o0, .inr (4, [.int (nI a2), .ref bk, .ref bv, .ref bo, .ref bp, .ref bl, .ref bf, .int (nI n2), .int (nI pl2)])), (bk, .inl (cI, a2, .inl gk)), (bo, .inl (cI, a2, .inl go))] ∧ (∀ j, ∃ k, k ≤ 400 ∧ ff9 j = nI k)) (jw_B D vwCl A (fun u : va_W => u)) A) #[.ref h0, .ref o0] s 0 0 A) (F0 m 7 ls []) := by
    intro k_1
    induction k_1 with
    | zero => exact fun _ _ _ _ _ _ hm => absurd hm (Nat.not_lt_zero _)
    | succ k_1 ih_1 =>
      intro i fi be fp1 fl1 ff1 hm1 hi hfi hbe hff1 H locs hP hD hS ls hl
      refine lv_iload hx hb dX4_findPartners_7 (lv_at hl 4 rfl) ?_
      refine lv_aload_n hx hb dX4_findPartners_9 rfl (lv_at hl 0 rfl) ?_
      refine va_get (D := D) (ci := 4) (v := .int (nI n)) (C := RX4) (T := TX4) (N := 9) hx hb hts (by decide +kernel) hown hK hP 0 rfl rfl 7 (by decide) (hts (.fieldLink RX4 34 "JoinDesk$Table" "size" "I") (by decide +kernel)) (fun _ h9 => h9) rfl dX4_findPartners_10 ?_
      refine lv_icmp_ge (tgt := 133) hx hb dX4_findPartners_13 (by decide) (fun cge => ?_) (fun cge => ?_)
      · refine W.widen (k := 0) (n := 0) (by omega) (by omega) ?_
        exact W.vret hx hb hr (fun t ht hW => ⟨⟨[(h0, .inr (4, [.int (nI a), .ref ak, .ref av, .ref ao, .ref ap, .ref al, .ref af, .int (nI n), .int (nI pl)])), (ak, .inl (cI, a, .inl fk)), (ao, .inl (cI, a, .inl fo)), (ap, .inl (cI, a + 1, .inl fp1)), (al, .inl (cI, a + 1, .inl fl1)), (af, .inl (cI, a, .inl ff1)), (o0, .inr (4, [.int (nI a2), .ref bk, .ref bv, .ref bo, .ref bp, .ref bl, .ref bf, .int (nI n2), .int (nI pl2)])), (bk, .inl (cI, a2, .inl gk)), (bo, .inl (cI, a2, .inl go))], rfl, (by exact ⟨_, _, _, rfl, (by first | assumption | exact Or.inl (by assumption) | exact Or.inr (by assumption) | rfl | decide | omega)⟩), by rw [ht]; exact hP, hD⟩, hS.F ht⟩) hS.2.2 dX4_findPartners_133
      · refine lv_aload_n hx hb dX4_findPartners_16 rfl (lv_at hl 0 rfl) ?_
        refine lv_iload hx hb dX4_findPartners_17 (lv_at hl 4 rfl) ?_
        refine vp_callSi (va_Run.run (va_runV (As := [.int (nI i)]) (rest := []) ⟨hx, hb, hml, hown, hts⟩ (gT_keyAt l D cI cL cQ h0 a n pl ak av ao ap al af fk fo (nI i) (by first | assumption | decide | omega) (by first | assumption | decide | omega) (by first | assumption | decide | omega)) (cwV 1 hts gX4_findPartners_X4_keyAt rfl rfl rfl (by decide +kernel) ⟨Nat.le_of_ble_eq_true rfl, Nat.le_of_ble_eq_true rfl⟩) (jr_V hK hN hP [0, 1, 2] rfl 4 0 rfl rfl rfl) rfl rfl hl.1 rfl (lv_room (Nat.le_of_ble_eq_true rfl)) dX4_findPartners_19 ⟨Nat.le_of_ble_eq_true rfl, Nat.le_of_ble_eq_true rfl⟩)) (fun r f_1 => ?_)
        obtain rfl := f_1
        refine lv_istore (lv' := [(5, .int (jat n fk fo (nI i))), (0, .ref h0), (1, .ref o0), (2, .int (nI fi)), (3, .int (nI be)), (4, .int (nI i))]) hx hb dX4_findPartners_22 hl (by decide) rfl (fun ls hl => ?_)
        have hloop_2 : ∀ (k_2 : Nat) (fi1 : Nat), n2 - fi1 < k_2 → (fi1 ≤ n2) → ∀ (H : Heap) (locs : List Loc), va_P D vwCl [(h0, .inr (4, [.int (nI a), .ref ak, .ref av, .ref ao, .ref ap, .ref al, .ref af, .int (nI n), .int (nI pl)])), (ak, .inl (cI, a, .inl fk)), (ao, .inl (cI, a, .inl fo)), (ap, .inl (cI, a + 1, .inl fp1)), (al, .inl (cI, a + 1, .inl fl1)), (af, .inl (cI, a, .inl ff1)), (o0, .inr (4, [.int (nI a2), .ref bk, .ref bv, .ref bo, .ref bp, .ref bl, .ref bf, .int (nI n2), .int (nI pl2)])), (bk, .inl (cI, a2, .inl gk)), (bo, .inl (cI, a2, .inl go))] H → va_D A [(h0, .inr (4, [.int (nI a), .ref ak, .ref av, .ref ao, .ref ap, .ref al, .ref af, .int (nI n), .int (nI pl)])), (ak, .inl (cI, a, .inl fk)), (ao, .inl (cI, a, .inl fo)), (ap, .inl (cI, a + 1, .inl fp1)), (al, .inl (cI, a + 1, .inl fl1)), (af, .inl (cI, a, .inl ff1)), (o0, .inr (4, [.int (nI a2), .ref bk, .ref bv, .ref bo, .ref bp, .ref bl, .ref bf, .int (nI n2), .int (nI pl2)])), (bk, .inl (cI, a2, .inl gk)), (bo, .inl (cI, a2, .inl go))] → va_S A s.heap H locs → ∀ ls : Array Slot, lv_has ls 6 [(0, .ref h0), (1, .ref o0), (2, .int (nI fi1)), (3, .int (nI be)), (4, .int (nI i)), (5, .int (jat n fk fo (nI i)))] → W p l e (headSpec wsX4_findPartners ({ frames := 2, cells := 0, slots := 0, locals := 42 })).room s m #[.ref h0, .ref o0] below meth c H locs 0 0 (MQ below (va_Qv (fun u : va_W => ∃ (fp9 : Nat → Int32) (fl9 : Nat → Int32) (ff9 : Nat → Int32), u = [(h0, .inr (4, [.int (nI a), .ref ak, .ref av, .ref ao, .ref ap, .ref al, .ref af, .int (nI n), .int (nI pl)])), (ak, .inl (cI, a, .inl fk)), (ao, .inl (cI, a, .inl fo)), (ap, .inl (cI, a + 1, .inl fp9)), (al, .inl (cI, a + 1, .inl fl9)), (af, .inl (cI, a, .inl ff9)), (o0, .inr (4, [.int (nI a2), .ref bk, .ref bv, .ref bo, .ref bp, .ref bl, .ref bf, .int (nI n2), .int (nI pl2)])), (bk, .inl (cI, a2, .inl gk)), (bo, .inl (cI, a2, .inl go))] ∧ (∀ j, ∃ k, k ≤ 400 ∧ ff9 j = nI k)) (jw_B D vwCl A (fun u : va_W => u)) A) #[.ref h0, .ref o0] s 0 0 A) (F0 m 24 ls []) := by
          intro k_2
          induction k_2 with
          | zero => exact fun _ hm => absurd hm (Nat.not_lt_zero _)
          | succ k_2 ih_2 =>
            intro fi1 hm2 hfi1 H locs hP hD hS ls hl
            refine lv_iload_n hx hb dX4_findPartners_24 rfl (lv_at hl 2 rfl) ?_
            refine lv_aload_n hx hb dX4_findPartners_25 rfl (lv_at hl 1 rfl) ?_
            refine va_get (D := D) (ci := 4) (v := .int (nI n2)) (C := RX4) (T := TX4) (N := 9) hx hb hts (by decide +kernel) hown hK hP 6 rfl rfl 7 (by decide) (hts (.fieldLink RX4 34 "JoinDesk$Table" "size" "I") (by decide +kernel)) (fun _ h9 => h9) rfl dX4_findPartners_26 ?_
            refine lv_icmp_ge (tgt := 48) hx hb dX4_findPartners_29 (by decide) (fun cge2 => ?_) (fun cge2 => ?_)
            · have hloop_3 : ∀ (k_3 : Nat) (be1 : Nat), n2 - be1 < k_3 → (be1 ≤ n2) → ∀ (H : Heap) (locs : List Loc), va_P D vwCl [(h0, .inr (4, [.int (nI a), .ref ak, .ref av, .ref ao, .ref ap, .ref al, .ref af, .int (nI n), .int (nI pl)])), (ak, .inl (cI, a, .inl fk)), (ao, .inl (cI, a, .inl fo)), (ap, .inl (cI, a + 1, .inl fp1)), (al, .inl (cI, a + 1, .inl fl1)), (af, .inl (cI, a, .inl ff1)), (o0, .inr (4, [.int (nI a2), .ref bk, .ref bv, .ref bo, .ref bp, .ref bl, .ref bf, .int (nI n2), .int (nI pl2)])), (bk, .inl (cI, a2, .inl gk)), (bo, .inl (cI, a2, .inl go))] H → va_D A [(h0, .inr (4, [.int (nI a), .ref ak, .ref av, .ref ao, .ref ap, .ref al, .ref af, .int (nI n), .int (nI pl)])), (ak, .inl (cI, a, .inl fk)), (ao, .inl (cI, a, .inl fo)), (ap, .inl (cI, a + 1, .inl fp1)), (al, .inl (cI, a + 1, .inl fl1)), (af, .inl (cI, a, .inl ff1)), (o0, .inr (4, [.int (nI a2), .ref bk, .ref bv, .ref bo, .ref bp, .ref bl, .ref bf, .int (nI n2), .int (nI pl2)])), (bk, .inl (cI, a2, .inl gk)), (bo, .inl (cI, a2, .inl go))] → va_S A s.heap H locs → ∀ ls : Array Slot, lv_has ls 6 [(0, .ref h0), (1, .ref o0), (2, .int (nI fi1)), (3, .int (nI be1)), (4, .int (nI i)), (5, .int (jat n fk fo (nI i)))] → W p l e (headSpec wsX4_findPartners ({ frames := 2, cells := 0, slots := 0, locals := 42 })).room s m #[.ref h0, .ref o0] below meth c H locs 0 0 (MQ below (va_Qv (fun u : va_W => ∃ (fp9 : Nat → Int32) (fl9 : Nat → Int32) (ff9 : Nat → Int32), u = [(h0, .inr (4, [.int (nI a), .ref ak, .ref av, .ref ao, .ref ap, .ref al, .ref af, .int (nI n), .int (nI pl)])), (ak, .inl (cI, a, .inl fk)), (ao, .inl (cI, a, .inl fo)), (ap, .inl (cI, a + 1, .inl fp9)), (al, .inl (cI, a + 1, .inl fl9)), (af, .inl (cI, a, .inl ff9)), (o0, .inr (4, [.int (nI a2), .ref bk, .ref bv, .ref bo, .ref bp, .ref bl, .ref bf, .int (nI n2), .int (nI pl2)])), (bk, .inl (cI, a2, .inl gk)), (bo, .inl (cI, a2, .inl go))] ∧ (∀ j, ∃ k, k ≤ 400 ∧ ff9 j = nI k)) (jw_B D vwCl A (fun u : va_W => u)) A) #[.ref h0, .ref o0] s 0 0 A) (F0 m 48 ls []) := by
                intro k_3
                induction k_3 with
                | zero => exact fun _ hm => absurd hm (Nat.not_lt_zero _)
                | succ k_3 ih_3 =>
                  intro be1 hm3 hbe1 H locs hP hD hS ls hl
                  refine lv_iload_n hx hb dX4_findPartners_48 rfl (lv_at hl 3 rfl) ?_
                  refine lv_aload_n hx hb dX4_findPartners_49 rfl (lv_at hl 1 rfl) ?_
                  refine va_get (D := D) (ci := 4) (v := .int (nI n2)) (C := RX4) (T := TX4) (N := 9) hx hb hts (by decide +kernel) hown hK hP 6 rfl rfl 7 (by decide) (hts (.fieldLink RX4 34 "JoinDesk$Table" "size" "I") (by decide +kernel)) (fun _ h9 => h9) rfl dX4_findPartners_50 ?_
                  refine lv_icmp_ge (tgt := 72) hx hb dX4_findPartners_53 (by decide) (fun cge3 => ?_) (fun cge3 => ?_)
                  · refine lv_aload_n hx hb dX4_findPartners_72 rfl (lv_at hl 0 rfl) ?_
                    refine va_get (D := D) (ci := 4) (v := .ref af) (C := RX4) (T := TX4) (N := 9) hx hb hts (by decide +kernel) hown hK hP 0 rfl rfl 6 (by decide) (hts (.fieldLink RX4 31 "JoinDesk$Table" "firstPartners" "[I") (by decide +kernel)) (fun _ h9 => h9) rfl dX4_findPartners_73 ?_
                    refine lv_iload hx hb dX4_findPartners_76 (lv_at hl 4 rfl) ?_
                    refine lv_iload_n hx hb dX4_findPartners_78 rfl (lv_at hl 2 rfl) ?_
                    refine va_iast hx hb hK hP hD hS 5 0 rfl rfl (vp_in_nI (show i < a by rw [nI_leI (by omega) (by omega)] at cge; omega) (by omega)) dX4_findPartners_79 (fun H locs hP hD hS => ?_)
                    have hP : va_P D vwCl [(h0, .inr (4, [.int (nI a), .ref ak, .ref av, .ref ao, .ref ap, .ref al, .ref af, .int (nI n), .int (nI pl)])), (ak, .inl (cI, a, .inl fk)), (ao, .inl (cI, a, .inl fo)), (ap, .inl (cI, a + 1, .inl fp1)), (al, .inl (cI, a + 1, .inl fl1)), (af, .inl (cI, a, .inl (upd ff1 (nI i).toNatClampNeg (nI fi1)))), (o0, .inr (4, [.int (nI a2), .ref bk, .ref bv, .ref bo, .ref bp, .ref bl, .ref bf, .int (nI n2), .int (nI pl2)])), (bk, .inl (cI, a2, .inl gk)), (bo, .inl (cI, a2, .inl go))] H := hP
                    have hD : va_D A [(h0, .inr (4, [.int (nI a), .ref ak, .ref av, .ref ao, .ref ap, .ref al, .ref af, .int (nI n), .int (nI pl)])), (ak, .inl (cI, a, .inl fk)), (ao, .inl (cI, a, .inl fo)), (ap, .inl (cI, a + 1, .inl fp1)), (al, .inl (cI, a + 1, .inl fl1)), (af, .inl (cI, a, .inl (upd ff1 (nI i).toNatClampNeg (nI fi1)))), (o0, .inr (4, [.int (nI a2), .ref bk, .ref bv, .ref bo, .ref bp, .ref bl, .ref bf, .int (nI n2), .int (nI pl2)])), (bk, .inl (cI, a2, .inl gk)), (bo, .inl (cI, a2, .inl go))] := hD
                    refine lv_aload_n hx hb dX4_findPartners_80 rfl (lv_at hl 0 rfl) ?_
                    refine va_get (D := D) (ci := 4) (v := .ref ap) (C := RX4) (T := TX4) (N := 9) hx hb hts (by decide +kernel) hown hK hP 0 rfl rfl 4 (by decide) (hts (.fieldLink RX4 25 "JoinDesk$Table" "partnerSums" "[I") (by decide +kernel)) (fun _ h9 => h9) rfl dX4_findPartners_81 ?_
                    refine lv_iload hx hb dX4_findPartners_84 (lv_at hl 4 rfl) ?_
                    refine lv_iconst (v := 1) hx hb dX4_findPartners_86 (by decide) ?_
                    refine lv_iadd hx hb dX4_findPartners_87 ?_
                    refine lv_topi (fun z_2 e_z_2 => ?_)
                    obtain rfl : z_2 = nI (i + 1) := e_z_2.trans (nI_add i 1)
                    refine lv_aload_n hx hb dX4_findPartners_88 rfl (lv_at hl 0 rfl) ?_
                    refine va_get (D := D) (ci := 4) (v := .ref ap) (C := RX4) (T := TX4) (N := 9) hx hb hts (by decide +kernel) hown hK hP 0 rfl rfl 4 (by decide) (hts (.fieldLink RX4 25 "JoinDesk$Table" "partnerSums" "[I") (by decide +kernel)) (fun _ h9 => h9) rfl dX4_findPartners_89 ?_
                    refine lv_iload hx hb dX4_findPartners_92 (lv_at hl 4 rfl) ?_
                    refine va_iald hx hb hK hP 3 0 rfl rfl (vp_in_nI (show i < a + 1 by rw [nI_leI (by omega) (by omega)] at cge; omega) (by omega)) dX4_findPartners_94 ?_
                    refine lv_iload_n hx hb dX4_findPartners_95 rfl (lv_at hl 3 rfl) ?_
                    refine lv_iadd hx hb dX4_findPartners_96 ?_
                    refine lv_iload_n hx hb dX4_findPartners_97 rfl (lv_at hl 2 rfl) ?_
                    refine lv_isub hx hb dX4_findPartners_98 ?_
                    refine va_iast hx hb hK hP hD hS 3 0 rfl rfl (vp_in_nI (show i + 1 < a + 1 by rw [nI_leI (by omega) (by omega)] at cge; omega) (by omega)) dX4_findPartners_99 (fun H locs hP hD hS => ?_)
                    have hP : va_P D vwCl [(h0, .inr (4, [.int (nI a), .ref ak, .ref av, .ref ao, .ref ap, .ref al, .ref af, .int (nI n), .int (nI pl)])), (ak, .inl (cI, a, .inl fk)), (ao, .inl (cI, a, .inl fo)), (ap, .inl (cI, a + 1, .inl (upd fp1 (nI (i + 1)).toNatClampNeg (((fp1 (nI i).toNatClampNeg) + (nI be1)) - (nI fi1))))), (al, .inl (cI, a + 1, .inl fl1)), (af, .inl (cI, a, .inl (upd ff1 (nI i).toNatClampNeg (nI fi1)))), (o0, .inr (4, [.int (nI a2), .ref bk, .ref bv, .ref bo, .ref bp, .ref bl, .ref bf, .int (nI n2), .int (nI pl2)])), (bk, .inl (cI, a2, .inl gk)), (bo, .inl (cI, a2, .inl go))] H := hP
                    have hD : va_D A [(h0, .inr (4, [.int (nI a), .ref ak, .ref av, .ref ao, .ref ap, .ref al, .ref af, .int (nI n), .int (nI pl)])), (ak, .inl (cI, a, .inl fk)), (ao, .inl (cI, a, .inl fo)), (ap, .inl (cI, a + 1, .inl (upd fp1 (nI (i + 1)).toNatClampNeg (((fp1 (nI i).toNatClampNeg) + (nI be1)) - (nI fi1))))), (al, .inl (cI, a + 1, .inl fl1)), (af, .inl (cI, a, .inl (upd ff1 (nI i).toNatClampNeg (nI fi1)))), (o0, .inr (4, [.int (nI a2), .ref bk, .ref bv, .ref bo, .ref bp, .ref bl, .ref bf, .int (nI n2), .int (nI pl2)])), (bk, .inl (cI, a2, .inl gk)), (bo, .inl (cI, a2, .inl go))] := hD
                    refine lv_aload_n hx hb dX4_findPartners_100 rfl (lv_at hl 0 rfl) ?_
                    refine va_get (D := D) (ci := 4) (v := .ref al) (C := RX4) (T := TX4) (N := 9) hx hb hts (by decide +kernel) hown hK hP 0 rfl rfl 5 (by decide) (hts (.fieldLink RX4 28 "JoinDesk$Table" "loneSums" "[I") (by decide +kernel)) (fun _ h9 => h9) rfl dX4_findPartners_101 ?_
                    refine lv_iload hx hb dX4_findPartners_104 (lv_at hl 4 rfl) ?_
                    refine lv_iconst (v := 1) hx hb dX4_findPartners_106 (by decide) ?_
                    refine lv_iadd hx hb dX4_findPartners_107 ?_
                    refine lv_topi (fun z_3 e_z_3 => ?_)
                    obtain rfl : z_3 = nI (i + 1) := e_z_3.trans (nI_add i 1)
                    refine lv_aload_n hx hb dX4_findPartners_108 rfl (lv_at hl 0 rfl) ?_
                    refine va_get (D := D) (ci := 4) (v := .ref al) (C := RX4) (T := TX4) (N := 9) hx hb hts (by decide +kernel) hown hK hP 0 rfl rfl 5 (by decide) (hts (.fieldLink RX4 28 "JoinDesk$Table" "loneSums" "[I") (by decide +kernel)) (fun _ h9 => h9) rfl dX4_findPartners_109 ?_
                    refine lv_iload hx hb dX4_findPartners_112 (lv_at hl 4 rfl) ?_
                    refine va_iald hx hb hK hP 4 0 rfl rfl (vp_in_nI (show i < a + 1 by rw [nI_leI (by omega) (by omega)] at cge; omega) (by omega)) dX4_findPartners_114 ?_
                    refine lv_iload_n hx hb dX4_findPartners_115 rfl (lv_at hl 3 rfl) ?_
                    refine lv_iload_n hx hb dX4_findPartners_116 rfl (lv_at hl 2 rfl) ?_
                    refine lv_icmp_ne (tgt := 124) hx hb dX4_findPartners_117 (by decide) (fun c_4 => ?_) (fun c_4 => ?_)
                    · refine lv_iconst (v := 0) hx hb dX4_findPartners_124 (by decide) ?_
                      refine lv_iadd hx hb dX4_findPartners_125 ?_
                      refine va_iast hx hb hK hP hD hS 4 0 rfl rfl (vp_in_nI (show i + 1 < a + 1 by rw [nI_leI (by omega) (by omega)] at cge; omega) (by omega)) dX4_findPartners_126 (fun H locs hP hD hS => ?_)
                      have hP : va_P D vwCl [(h0, .inr (4, [.int (nI a), .ref ak, .ref av, .ref ao, .ref ap, .ref al, .ref af, .int (nI n), .int (nI pl)])), (ak, .inl (cI, a, .inl fk)), (ao, .inl (cI, a, .inl fo)), (ap, .inl (cI, a + 1, .inl (upd fp1 (nI (i + 1)).toNatClampNeg (((fp1 (nI i).toNatClampNeg) + (nI be1)) - (nI fi1))))), (al, .inl (cI, a + 1, .inl (upd fl1 (nI (i + 1)).toNatClampNeg ((fl1 (nI i).toNatClampNeg) + 0)))), (af, .inl (cI, a, .inl (upd ff1 (nI i).toNatClampNeg (nI fi1)))), (o0, .inr (4, [.int (nI a2), .ref bk, .ref bv, .ref bo, .ref bp, .ref bl, .ref bf, .int (nI n2), .int (nI pl2)])), (bk, .inl (cI, a2, .inl gk)), (bo, .inl (cI, a2, .inl go))] H := hP
                      have hD : va_D A [(h0, .inr (4, [.int (nI a), .ref ak, .ref av, .ref ao, .ref ap, .ref al, .ref af, .int (nI n), .int (nI pl)])), (ak, .inl (cI, a, .inl fk)), (ao, .inl (cI, a, .inl fo)), (ap, .inl (cI, a + 1, .inl (upd fp1 (nI (i + 1)).toNatClampNeg (((fp1 (nI i).toNatClampNeg) + (nI be1)) - (nI fi1))))), (al, .inl (cI, a + 1, .inl (upd fl1 (nI (i + 1)).toNatClampNeg ((fl1 (nI i).toNatClampNeg) + 0)))), (af, .inl (cI, a, .inl (upd ff1 (nI i).toNatClampNeg (nI fi1)))), (o0, .inr (4, [.int (nI a2), .ref bk, .ref bv, .ref bo, .ref bp, .ref bl, .ref bf, .int (nI n2), .int (nI pl2)])), (bk, .inl (cI, a2, .inl gk)), (bo, .inl (cI, a2, .inl go))] := hD
                      refine lv_iinc (v := nI (i + 1)) (lv' := [(4, .int (nI (i + 1))), (0, .ref h0), (1, .ref o0), (2, .int (nI fi1)), (3, .int (nI be1)), (5, .int (jat n fk fo (nI i)))]) hx hb dX4_findPartners_127 hl (k := 4) rfl (nI_1 _) (by decide) rfl (fun ls hl => ?_)
                      refine lv_goto (tgt := 7) hx hb dX4_findPartners_130 (by decide) ?_
                      exact ih_1 (i + 1) fi1 be1 (upd fp1 (nI (i + 1)).toNatClampNeg (((fp1 (nI i).toNatClampNeg) + (nI be1)) - (nI fi1))) (upd fl1 (nI (i + 1)).toNatClampNeg ((fl1 (nI i).toNatClampNeg) + 0)) (upd ff1 (nI i).toNatClampNeg (nI fi1)) (by rw [nI_leI (by omega) (by omega)] at cge; omega) (by rw [nI_leI (by omega) (by omega)] at cge; omega) (by first | assumption | omega) (by first | assumption | omega) (jff_upd hff1 (by omega)) _ _ hP hD hS ls (lv_sub hl [1, 2, 3, 4, 0] rfl)
                    · refine lv_iconst (v := 1) hx hb dX4_findPartners_120 (by decide) ?_
                      refine lv_goto (tgt := 125) hx hb dX4_findPartners_121 (by decide) ?_
                      refine lv_iadd hx hb dX4_findPartners_125 ?_
                      refine va_iast hx hb hK hP hD hS 4 0 rfl rfl (vp_in_nI (show i + 1 < a + 1 by rw [nI_leI (by omega) (by omega)] at cge; omega) (by omega)) dX4_findPartners_126 (fun H locs hP hD hS => ?_)
                      have hP : va_P D vwCl [(h0, .inr (4, [.int (nI a), .ref ak, .ref av, .ref ao, .ref ap, .ref al, .ref af, .int (nI n), .int (nI pl)])), (ak, .inl (cI, a, .inl fk)), (ao, .inl (cI, a, .inl fo)), (ap, .inl (cI, a + 1, .inl (upd fp1 (nI (i + 1)).toNatClampNeg (((fp1 (nI i).toNatClampNeg) + (nI be1)) - (nI fi1))))), (al, .inl (cI, a + 1, .inl (upd fl1 (nI (i + 1)).toNatClampNeg ((fl1 (nI i).toNatClampNeg) + 1)))), (af, .inl (cI, a, .inl (upd ff1 (nI i).toNatClampNeg (nI fi1)))), (o0, .inr (4, [.int (nI a2), .ref bk, .ref bv, .ref bo, .ref bp, .ref bl, .ref bf, .int (nI n2), .int (nI pl2)])), (bk, .inl (cI, a2, .inl gk)), (bo, .inl (cI, a2, .inl go))] H := hP
                      have hD : va_D A [(h0, .inr (4, [.int (nI a), .ref ak, .ref av, .ref ao, .ref ap, .ref al, .ref af, .int (nI n), .int (nI pl)])), (ak, .inl (cI, a, .inl fk)), (ao, .inl (cI, a, .inl fo)), (ap, .inl (cI, a + 1, .inl (upd fp1 (nI (i + 1)).toNatClampNeg (((fp1 (nI i).toNatClampNeg) + (nI be1)) - (nI fi1))))), (al, .inl (cI, a + 1, .inl (upd fl1 (nI (i + 1)).toNatClampNeg ((fl1 (nI i).toNatClampNeg) + 1)))), (af, .inl (cI, a, .inl (upd ff1 (nI i).toNatClampNeg (nI fi1)))), (o0, .inr (4, [.int (nI a2), .ref bk, .ref bv, .ref bo, .ref bp, .ref bl, .ref bf, .int (nI n2), .int (nI pl2)])), (bk, .inl (cI, a2, .inl gk)), (bo, .inl (cI, a2, .inl go))] := hD
                      refine lv_iinc (v := nI (i + 1)) (lv' := [(4, .int (nI (i + 1))), (0, .ref h0), (1, .ref o0), (2, .int (nI fi1)), (3, .int (nI be1)), (5, .int (jat n fk fo (nI i)))]) hx hb dX4_findPartners_127 hl (k := 4) rfl (nI_1 _) (by decide) rfl (fun ls hl => ?_)
                      refine lv_goto (tgt := 7) hx hb dX4_findPartners_130 (by decide) ?_
                      exact ih_1 (i + 1) fi1 be1 (upd fp1 (nI (i + 1)).toNatClampNeg (((fp1 (nI i).toNatClampNeg) + (nI be1)) - (nI fi1))) (upd fl1 (nI (i + 1)).toNatClampNeg ((fl1 (nI i).toNatClampNeg) + 1)) (upd ff1 (nI i).toNatClampNeg (nI fi1)) (by rw [nI_leI (by omega) (by omega)] at cge; omega) (by rw [nI_leI (by omega) (by omega)] at cge; omega) (by first | assumption | omega) (by first | assumption | omega) (jff_upd hff1 (by omega)) _ _ hP hD hS ls (lv_sub hl [1, 2, 3, 4, 0] rfl)
                  · refine lv_aload_n hx hb dX4_findPartners_56 rfl (lv_at hl 1 rfl) ?_
                    refine lv_iload_n hx hb dX4_findPartners_57 rfl (lv_at hl 3 rfl) ?_
                    refine vp_callSi (va_Run.run (va_runV (As := [.int (nI be1)]) (rest := []) ⟨hx, hb, hml, hown, hts⟩ (gT_keyAt l D cI cL cQ o0 a2 n2 pl2 bk bv bo bp bl bf gk go (nI be1) (by first | assumption | decide | omega) (by first | assumption | decide | omega) (by first | assumption | decide | omega)) (cwV 1 hts gX4_findPartners_X4_keyAt rfl rfl rfl (by decide +kernel) ⟨Nat.le_of_ble_eq_true rfl, Nat.le_of_ble_eq_true rfl⟩) (jr_V hK hN hP [6, 7, 8] rfl 4 6 rfl rfl rfl) rfl rfl hl.1 rfl (lv_room (Nat.le_of_ble_eq_true rfl)) dX4_findPartners_58 ⟨Nat.le_of_ble_eq_true rfl, Nat.le_of_ble_eq_true rfl⟩)) (fun r f_5 => ?_)
                    obtain rfl := f_5
                    refine lv_iload hx hb dX4_findPartners_61 (lv_at hl 5 rfl) ?_
                    refine lv_icmp_gt (tgt := 72) hx hb dX4_findPartners_63 (by decide) (fun c_6 => ?_) (fun c_6 => ?_)
                    · refine lv_aload_n hx hb dX4_findPartners_72 rfl (lv_at hl 0 rfl) ?_
                      refine va_get (D := D) (ci := 4) (v := .ref af) (C := RX4) (T := TX4) (N := 9) hx hb hts (by decide +kernel) hown hK hP 0 rfl rfl 6 (by decide) (hts (.fieldLink RX4 31 "JoinDesk$Table" "firstPartners" "[I") (by decide +kernel)) (fun _ h9 => h9) rfl dX4_findPartners_73 ?_
                      refine lv_iload hx hb dX4_findPartners_76 (lv_at hl 4 rfl) ?_
                      refine lv_iload_n hx hb dX4_findPartners_78 rfl (lv_at hl 2 rfl) ?_
                      refine va_iast hx hb hK hP hD hS 5 0 rfl rfl (vp_in_nI (show i < a by rw [nI_leI (by omega) (by omega)] at cge; omega) (by omega)) dX4_findPartners_79 (fun H locs hP hD hS => ?_)
                      have hP : va_P D vwCl [(h0, .inr (4, [.int (nI a), .ref ak, .ref av, .ref ao, .ref ap, .ref al, .ref af, .int (nI n), .int (nI pl)])), (ak, .inl (cI, a, .inl fk)), (ao, .inl (cI, a, .inl fo)), (ap, .inl (cI, a + 1, .inl fp1)), (al, .inl (cI, a + 1, .inl fl1)), (af, .inl (cI, a, .inl (upd ff1 (nI i).toNatClampNeg (nI fi1)))), (o0, .inr (4, [.int (nI a2), .ref bk, .ref bv, .ref bo, .ref bp, .ref bl, .ref bf, .int (nI n2), .int (nI pl2)])), (bk, .inl (cI, a2, .inl gk)), (bo, .inl (cI, a2, .inl go))] H := hP
                      have hD : va_D A [(h0, .inr (4, [.int (nI a), .ref ak, .ref av, .ref ao, .ref ap, .ref al, .ref af, .int (nI n), .int (nI pl)])), (ak, .inl (cI, a, .inl fk)), (ao, .inl (cI, a, .inl fo)), (ap, .inl (cI, a + 1, .inl fp1)), (al, .inl (cI, a + 1, .inl fl1)), (af, .inl (cI, a, .inl (upd ff1 (nI i).toNatClampNeg (nI fi1)))), (o0, .inr (4, [.int (nI a2), .ref bk, .ref bv, .ref bo, .ref bp, .ref bl, .ref bf, .int (nI n2), .int (nI pl2)])), (bk, .inl (cI, a2, .inl gk)), (bo, .inl (cI, a2, .inl go))] := hD
                      refine lv_aload_n hx hb dX4_findPartners_80 rfl (lv_at hl 0 rfl) ?_
                      refine va_get (D := D) (ci := 4) (v := .ref ap) (C := RX4) (T := TX4) (N := 9) hx hb hts (by decide +kernel) hown hK hP 0 rfl rfl 4 (by decide) (hts (.fieldLink RX4 25 "JoinDesk$Table" "partnerSums" "[I") (by decide +kernel)) (fun _ h9 => h9) rfl dX4_findPartners_81 ?_
                      refine lv_iload hx hb dX4_findPartners_84 (lv_at hl 4 rfl) ?_
                      refine lv_iconst (v := 1) hx hb dX4_findPartners_86 (by decide) ?_
                      refine lv_iadd hx hb dX4_findPartners_87 ?_
                      refine lv_topi (fun z_7 e_z_7 => ?_)
                      obtain rfl : z_7 = nI (i + 1) := e_z_7.trans (nI_add i 1)
                      refine lv_aload_n hx hb dX4_findPartners_88 rfl (lv_at hl 0 rfl) ?_
                      refine va_get (D := D) (ci := 4) (v := .ref ap) (C := RX4) (T := TX4) (N := 9) hx hb hts (by decide +kernel) hown hK hP 0 rfl rfl 4 (by decide) (hts (.fieldLink RX4 25 "JoinDesk$Table" "partnerSums" "[I") (by decide +kernel)) (fun _ h9 => h9) rfl dX4_findPartners_89 ?_
                      refine lv_iload hx hb dX4_findPartners_92 (lv_at hl 4 rfl) ?_
                      refine va_iald hx hb hK hP 3 0 rfl rfl (vp_in_nI (show i < a + 1 by rw [nI_leI (by omega) (by omega)] at cge; omega) (by omega)) dX4_findPartners_94 ?_
                      refine lv_iload_n hx hb dX4_findPartners_95 rfl (lv_at hl 3 rfl) ?_
                      refine lv_iadd hx hb dX4_findPartners_96 ?_
                      refine lv_iload_n hx hb dX4_findPartners_97 rfl (lv_at hl 2 rfl) ?_
                      refine lv_isub hx hb dX4_findPartners_98 ?_
                      refine va_iast hx hb hK hP hD hS 3 0 rfl rfl (vp_in_nI (show i + 1 < a + 1 by rw [nI_leI (by omega) (by omega)] at cge; omega) (by omega)) dX4_findPartners_99 (fun H locs hP hD hS => ?_)
                      have hP : va_P D vwCl [(h0, .inr (4, [.int (nI a), .ref ak, .ref av, .ref ao, .ref ap, .ref al, .ref af, .int (nI n), .int (nI pl)])), (ak, .inl (cI, a, .inl fk)), (ao, .inl (cI, a, .inl fo)), (ap, .inl (cI, a + 1, .inl (upd fp1 (nI (i + 1)).toNatClampNeg (((fp1 (nI i).toNatClampNeg) + (nI be1)) - (nI fi1))))), (al, .inl (cI, a + 1, .inl fl1)), (af, .inl (cI, a, .inl (upd ff1 (nI i).toNatClampNeg (nI fi1)))), (o0, .inr (4, [.int (nI a2), .ref bk, .ref bv, .ref bo, .ref bp, .ref bl, .ref bf, .int (nI n2), .int (nI pl2)])), (bk, .inl (cI, a2, .inl gk)), (bo, .inl (cI, a2, .inl go))] H := hP
                      have hD : va_D A [(h0, .inr (4, [.int (nI a), .ref ak, .ref av, .ref ao, .ref ap, .ref al, .ref af, .int (nI n), .int (nI pl)])), (ak, .inl (cI, a, .inl fk)), (ao, .inl (cI, a, .inl fo)), (ap, .inl (cI, a + 1, .inl (upd fp1 (nI (i + 1)).toNatClampNeg (((fp1 (nI i).toNatClampNeg) + (nI be1)) - (nI fi1))))), (al, .inl (cI, a + 1, .inl fl1)), (af, .inl (cI, a, .inl (upd ff1 (nI i).toNatClampNeg (nI fi1)))), (o0, .inr (4, [.int (nI a2), .ref bk, .ref bv, .ref bo, .ref bp, .ref bl, .ref bf, .int (nI n2), .int (nI pl2)])), (bk, .inl (cI, a2, .inl gk)), (bo, .inl (cI, a2, .inl go))] := hD
                      refine lv_aload_n hx hb dX4_findPartners_100 rfl (lv_at hl 0 rfl) ?_
                      refine va_get (D := D) (ci := 4) (v := .ref al) (C := RX4) (T := TX4) (N := 9) hx hb hts (by decide +kernel) hown hK hP 0 rfl rfl 5 (by decide) (hts (.fieldLink RX4 28 "JoinDesk$Table" "loneSums" "[I") (by decide +kernel)) (fun _ h9 => h9) rfl dX4_findPartners_101 ?_
                      refine lv_iload hx hb dX4_findPartners_104 (lv_at hl 4 rfl) ?_
                      refine lv_iconst (v := 1) hx hb dX4_findPartners_106 (by decide) ?_
                      refine lv_iadd hx hb dX4_findPartners_107 ?_
                      refine lv_topi (fun z_8 e_z_8 => ?_)
                      obtain rfl : z_8 = nI (i + 1) := e_z_8.trans (nI_add i 1)
                      refine lv_aload_n hx hb dX4_findPartners_108 rfl (lv_at hl 0 rfl) ?_
                      refine va_get (D := D) (ci := 4) (v := .ref al) (C := RX4) (T := TX4) (N := 9) hx hb hts (by decide +kernel) hown hK hP 0 rfl rfl 5 (by decide) (hts (.fieldLink RX4 28 "JoinDesk$Table" "loneSums" "[I") (by decide +kernel)) (fun _ h9 => h9) rfl dX4_findPartners_109 ?_
                      refine lv_iload hx hb dX4_findPartners_112 (lv_at hl 4 rfl) ?_
                      refine va_iald hx hb hK hP 4 0 rfl rfl (vp_in_nI (show i < a + 1 by rw [nI_leI (by omega) (by omega)] at cge; omega) (by omega)) dX4_findPartners_114 ?_
                      refine lv_iload_n hx hb dX4_findPartners_115 rfl (lv_at hl 3 rfl) ?_
                      refine lv_iload_n hx hb dX4_findPartners_116 rfl (lv_at hl 2 rfl) ?_
                      refine lv_icmp_ne (tgt := 124) hx hb dX4_findPartners_117 (by decide) (fun c_9 => ?_) (fun c_9 => ?_)
                      · refine lv_iconst (v := 0) hx hb dX4_findPartners_124 (by decide) ?_
                        refine lv_iadd hx hb dX4_findPartners_125 ?_
                        refine va_iast hx hb hK hP hD hS 4 0 rfl rfl (vp_in_nI (show i + 1 < a + 1 by rw [nI_leI (by omega) (by omega)] at cge; omega) (by omega)) dX4_findPartners_126 (fun H locs hP hD hS => ?_)
                        have hP : va_P D vwCl [(h0, .inr (4, [.int (nI a), .ref ak, .ref av, .ref ao, .ref ap, .ref al, .ref af, .int (nI n), .int (nI pl)])), (ak, .inl (cI, a, .inl fk)), (ao, .inl (cI, a, .inl fo)), (ap, .inl (cI, a + 1, .inl (upd fp1 (nI (i + 1)).toNatClampNeg (((fp1 (nI i).toNatClampNeg) + (nI be1)) - (nI fi1))))), (al, .inl (cI, a + 1, .inl (upd fl1 (nI (i + 1)).toNatClampNeg ((fl1 (nI i).toNatClampNeg) + 0)))), (af, .inl (cI, a, .inl (upd ff1 (nI i).toNatClampNeg (nI fi1)))), (o0, .inr (4, [.int (nI a2), .ref bk, .ref bv, .ref bo, .ref bp, .ref bl, .ref bf, .int (nI n2), .int (nI pl2)])), (bk, .inl (cI, a2, .inl gk)), (bo, .inl (cI, a2, .inl go))] H := hP
                        have hD : va_D A [(h0, .inr (4, [.int (nI a), .ref ak, .ref av, .ref ao, .ref ap, .ref al, .ref af, .int (nI n), .int (nI pl)])), (ak, .inl (cI, a, .inl fk)), (ao, .inl (cI, a, .inl fo)), (ap, .inl (cI, a + 1, .inl (upd fp1 (nI (i + 1)).toNatClampNeg (((fp1 (nI i).toNatClampNeg) + (nI be1)) - (nI fi1))))), (al, .inl (cI, a + 1, .inl (upd fl1 (nI (i + 1)).toNatClampNeg ((fl1 (nI i).toNatClampNeg) + 0)))), (af, .inl (cI, a, .inl (upd ff1 (nI i).toNatClampNeg (nI fi1)))), (o0, .inr (4, [.int (nI a2), .ref bk, .ref bv, .ref bo, .ref bp, .ref bl, .ref bf, .int (nI n2), .int (nI pl2)])), (bk, .inl (cI, a2, .inl gk)), (bo, .inl (cI, a2, .inl go))] := hD
                        refine lv_iinc (v := nI (i + 1)) (lv' := [(4, .int (nI (i + 1))), (0, .ref h0), (1, .ref o0), (2, .int (nI fi1)), (3, .int (nI be1)), (5, .int (jat n fk fo (nI i)))]) hx hb dX4_findPartners_127 hl (k := 4) rfl (nI_1 _) (by decide) rfl (fun ls hl => ?_)
                        refine lv_goto (tgt := 7) hx hb dX4_findPartners_130 (by decide) ?_
                        exact ih_1 (i + 1) fi1 be1 (upd fp1 (nI (i + 1)).toNatClampNeg (((fp1 (nI i).toNatClampNeg) + (nI be1)) - (nI fi1))) (upd fl1 (nI (i + 1)).toNatClampNeg ((fl1 (nI i).toNatClampNeg) + 0)) (upd ff1 (nI i).toNatClampNeg (nI fi1)) (by rw [nI_leI (by omega) (by omega)] at cge; omega) (by rw [nI_leI (by omega) (by omega)] at cge; omega) (by first | assumption | omega) (by first | assumption | omega) (jff_upd hff1 (by omega)) _ _ hP hD hS ls (lv_sub hl [1, 2, 3, 4, 0] rfl)
                      · refine lv_iconst (v := 1) hx hb dX4_findPartners_120 (by decide) ?_
                        refine lv_goto (tgt := 125) hx hb dX4_findPartners_121 (by decide) ?_
                        refine lv_iadd hx hb dX4_findPartners_125 ?_
                        refine va_iast hx hb hK hP hD hS 4 0 rfl rfl (vp_in_nI (show i + 1 < a + 1 by rw [nI_leI (by omega) (by omega)] at cge; omega) (by omega)) dX4_findPartners_126 (fun H locs hP hD hS => ?_)
                        have hP : va_P D vwCl [(h0, .inr (4, [.int (nI a), .ref ak, .ref av, .ref ao, .ref ap, .ref al, .ref af, .int (nI n), .int (nI pl)])), (ak, .inl (cI, a, .inl fk)), (ao, .inl (cI, a, .inl fo)), (ap, .inl (cI, a + 1, .inl (upd fp1 (nI (i + 1)).toNatClampNeg (((fp1 (nI i).toNatClampNeg) + (nI be1)) - (nI fi1))))), (al, .inl (cI, a + 1, .inl (upd fl1 (nI (i + 1)).toNatClampNeg ((fl1 (nI i).toNatClampNeg) + 1)))), (af, .inl (cI, a, .inl (upd ff1 (nI i).toNatClampNeg (nI fi1)))), (o0, .inr (4, [.int (nI a2), .ref bk, .ref bv, .ref bo, .ref bp, .ref bl, .ref bf, .int (nI n2), .int (nI pl2)])), (bk, .inl (cI, a2, .inl gk)), (bo, .inl (cI, a2, .inl go))] H := hP
                        have hD : va_D A [(h0, .inr (4, [.int (nI a), .ref ak, .ref av, .ref ao, .ref ap, .ref al, .ref af, .int (nI n), .int (nI pl)])), (ak, .inl (cI, a, .inl fk)), (ao, .inl (cI, a, .inl fo)), (ap, .inl (cI, a + 1, .inl (upd fp1 (nI (i + 1)).toNatClampNeg (((fp1 (nI i).toNatClampNeg) + (nI be1)) - (nI fi1))))), (al, .inl (cI, a + 1, .inl (upd fl1 (nI (i + 1)).toNatClampNeg ((fl1 (nI i).toNatClampNeg) + 1)))), (af, .inl (cI, a, .inl (upd ff1 (nI i).toNatClampNeg (nI fi1)))), (o0, .inr (4, [.int (nI a2), .ref bk, .ref bv, .ref bo, .ref bp, .ref bl, .ref bf, .int (nI n2), .int (nI pl2)])), (bk, .inl (cI, a2, .inl gk)), (bo, .inl (cI, a2, .inl go))] := hD
                        refine lv_iinc (v := nI (i + 1)) (lv' := [(4, .int (nI (i + 1))), (0, .ref h0), (1, .ref o0), (2, .int (nI fi1)), (3, .int (nI be1)), (5, .int (jat n fk fo (nI i)))]) hx hb dX4_findPartners_127 hl (k := 4) rfl (nI_1 _) (by decide) rfl (fun ls hl => ?_)
                        refine lv_goto (tgt := 7) hx hb dX4_findPartners_130 (by decide) ?_
                        exact ih_1 (i + 1) fi1 be1 (upd fp1 (nI (i + 1)).toNatClampNeg (((fp1 (nI i).toNatClampNeg) + (nI be1)) - (nI fi1))) (upd fl1 (nI (i + 1)).toNatClampNeg ((fl1 (nI i).toNatClampNeg) + 1)) (upd ff1 (nI i).toNatClampNeg (nI fi1)) (by rw [nI_leI (by omega) (by omega)] at cge; omega) (by rw [nI_leI (by omega) (by omega)] at cge; omega) (by first | assumption | omega) (by first | assumption | omega) (jff_upd hff1 (by omega)) _ _ hP hD hS ls (lv_sub hl [1, 2, 3, 4, 0] rfl)
                    · refine lv_iinc (v := nI (be1 + 1)) (lv' := [(3, .int (nI (be1 + 1))), (0, .ref h0), (1, .ref o0), (2, .int (nI fi1)), (4, .int (nI i)), (5, .int (jat n fk fo (nI i)))]) hx hb dX4_findPartners_66 hl (k := 3) rfl (nI_1 _) (by decide) rfl (fun ls hl => ?_)
                      refine lv_goto (tgt := 48) hx hb dX4_findPartners_69 (by decide) ?_
                      exact ih_3 (be1 + 1) (by rw [nI_leI (by omega) (by omega)] at cge3; omega) (by rw [nI_leI (by omega) (by omega)] at cge3; omega) _ _ hP hD hS ls (lv_sub hl [1, 2, 3, 0, 4, 5] rfl)
              exact hloop_3 (n2 - be + 1) be (Nat.lt_succ_self _) (by first | assumption | omega) _ _ hP hD hS ls (lv_sub hl [0, 1, 2, 3, 4, 5] rfl)
            · refine lv_aload_n hx hb dX4_findPartners_32 rfl (lv_at hl 1 rfl) ?_
              refine lv_iload_n hx hb dX4_findPartners_33 rfl (lv_at hl 2 rfl) ?_
              refine vp_callSi (va_Run.run (va_runV (As := [.int (nI fi1)]) (rest := []) ⟨hx, hb, hml, hown, hts⟩ (gT_keyAt l D cI cL cQ o0 a2 n2 pl2 bk bv bo bp bl bf gk go (nI fi1) (by first | assumption | decide | omega) (by first | assumption | decide | omega) (by first | assumption | decide | omega)) (cwV 1 hts gX4_findPartners_X4_keyAt rfl rfl rfl (by decide +kernel) ⟨Nat.le_of_ble_eq_true rfl, Nat.le_of_ble_eq_true rfl⟩) (jr_V hK hN hP [6, 7, 8] rfl 4 6 rfl rfl rfl) rfl rfl hl.1 rfl (lv_room (Nat.le_of_ble_eq_true rfl)) dX4_findPartners_34 ⟨Nat.le_of_ble_eq_true rfl, Nat.le_of_ble_eq_true rfl⟩)) (fun r f_10 => ?_)
              obtain rfl := f_10
              refine lv_iload hx hb dX4_findPartners_37 (lv_at hl 5 rfl) ?_
              refine lv_icmp_ge (tgt := 48) hx hb dX4_findPartners_39 (by decide) (fun c_11 => ?_) (fun c_11 => ?_)
              · have hloop_4 : ∀ (k_4 : Nat) (be1 : Nat), n2 - be1 < k_4 → (be1 ≤ n2) → ∀ (H : Heap) (locs : List Loc), va_P D vwCl [(h0, .inr (4, [.int (nI a), .ref ak, .ref av, .ref ao, .ref ap, .ref al, .ref af, .int (nI n), .int (nI pl)])), (ak, .inl (cI, a, .inl fk)), (ao, .inl (cI, a, .inl fo)), (ap, .inl (cI, a + 1, .inl fp1)), (al, .inl (cI, a + 1, .inl fl1)), (af, .inl (cI, a, .inl ff1)), (o0, .inr (4, [.int (nI a2), .ref bk, .ref bv, .ref bo, .ref bp, .ref bl, .ref bf, .int (nI n2), .int (nI pl2)])), (bk, .inl (cI, a2, .inl gk)), (bo, .inl (cI, a2, .inl go))] H → va_D A [(h0, .inr (4, [.int (nI a), .ref ak, .ref av, .ref ao, .ref ap, .ref al, .ref af, .int (nI n), .int (nI pl)])), (ak, .inl (cI, a, .inl fk)), (ao, .inl (cI, a, .inl fo)), (ap, .inl (cI, a + 1, .inl fp1)), (al, .inl (cI, a + 1, .inl fl1)), (af, .inl (cI, a, .inl ff1)), (o0, .inr (4, [.int (nI a2), .ref bk, .ref bv, .ref bo, .ref bp, .ref bl, .ref bf, .int (nI n2), .int (nI pl2)])), (bk, .inl (cI, a2, .inl gk)), (bo, .inl (cI, a2, .inl go))] → va_S A s.heap H locs → ∀ ls : Array Slot, lv_has ls 6 [(0, .ref h0), (1, .ref o0), (2, .int (nI fi1)), (3, .int (nI be1)), (4, .int (nI i)), (5, .int (jat n fk fo (nI i)))] → W p l e (headSpec wsX4_findPartners ({ frames := 2, cells := 0, slots := 0, locals := 42 })).room s m #[.ref h0, .ref o0] below meth c H locs 0 0 (MQ below (va_Qv (fun u : va_W => ∃ (fp9 : Nat → Int32) (fl9 : Nat → Int32) (ff9 : Nat → Int32), u = [(h0, .inr (4, [.int (nI a), .ref ak, .ref av, .ref ao, .ref ap, .ref al, .ref af, .int (nI n), .int (nI pl)])), (ak, .inl (cI, a, .inl fk)), (ao, .inl (cI, a, .inl fo)), (ap, .inl (cI, a + 1, .inl fp9)), (al, .inl (cI, a + 1, .inl fl9)), (af, .inl (cI, a, .inl ff9)), (o0, .inr (4, [.int (nI a2), .ref bk, .ref bv, .ref bo, .ref bp, .ref bl, .ref bf, .int (nI n2), .int (nI pl2)])), (bk, .inl (cI, a2, .inl gk)), (bo, .inl (cI, a2, .inl go))] ∧ (∀ j, ∃ k, k ≤ 400 ∧ ff9 j = nI k)) (jw_B D vwCl A (fun u : va_W => u)) A) #[.ref h0, .ref o0] s 0 0 A) (F0 m 48 ls []) := by
                  intro k_4
                  induction k_4 with
                  | zero => exact fun _ hm => absurd hm (Nat.not_lt_zero _)
                  | succ k_4 ih_4 =>
                    intro be1 hm4 hbe1 H locs hP hD hS ls hl
                    refine lv_iload_n hx hb dX4_findPartners_48 rfl (lv_at hl 3 rfl) ?_
                    refine lv_aload_n hx hb dX4_findPartners_49 rfl (lv_at hl 1 rfl) ?_
                    refine va_get (D := D) (ci := 4) (v := .int (nI n2)) (C := RX4) (T := TX4) (N := 9) hx hb hts (by decide +kernel) hown hK hP 6 rfl rfl 7 (by decide) (hts (.fieldLink RX4 34 "JoinDesk$Table" "size" "I") (by decide +kernel)) (fun _ h9 => h9) rfl dX4_findPartners_50 ?_
                    refine lv_icmp_ge (tgt := 72) hx hb dX4_findPartners_53 (by decide) (fun cge3 => ?_) (fun cge3 => ?_)
                    · refine lv_aload_n hx hb dX4_findPartners_72 rfl (lv_at hl 0 rfl) ?_
                      refine va_get (D := D) (ci := 4) (v := .ref af) (C := RX4) (T := TX4) (N := 9) hx hb hts (by decide +kernel) hown hK hP 0 rfl rfl 6 (by decide) (hts (.fieldLink RX4 31 "JoinDesk$Table" "firstPartners" "[I") (by decide +kernel)) (fun _ h9 => h9) rfl dX4_findPartners_73 ?_
                      refine lv_iload hx hb dX4_findPartners_76 (lv_at hl 4 rfl) ?_
                      refine lv_iload_n hx hb dX4_findPartners_78 rfl (lv_at hl 2 rfl) ?_
                      refine va_iast hx hb hK hP hD hS 5 0 rfl rfl (vp_in_nI (show i < a by rw [nI_leI (by omega) (by omega)] at cge; omega) (by omega)) dX4_findPartners_79 (fun H locs hP hD hS => ?_)
                      have hP : va_P D vwCl [(h0, .inr (4, [.int (nI a), .ref ak, .ref av, .ref ao, .ref ap, .ref al, .ref af, .int (nI n), .int (nI pl)])), (ak, .inl (cI, a, .inl fk)), (ao, .inl (cI, a, .inl fo)), (ap, .inl (cI, a + 1, .inl fp1)), (al, .inl (cI, a + 1, .inl fl1)), (af, .inl (cI, a, .inl (upd ff1 (nI i).toNatClampNeg (nI fi1)))), (o0, .inr (4, [.int (nI a2), .ref bk, .ref bv, .ref bo, .ref bp, .ref bl, .ref bf, .int (nI n2), .int (nI pl2)])), (bk, .inl (cI, a2, .inl gk)), (bo, .inl (cI, a2, .inl go))] H := hP
                      have hD : va_D A [(h0, .inr (4, [.int (nI a), .ref ak, .ref av, .ref ao, .ref ap, .ref al, .ref af, .int (nI n), .int (nI pl)])), (ak, .inl (cI, a, .inl fk)), (ao, .inl (cI, a, .inl fo)), (ap, .inl (cI, a + 1, .inl fp1)), (al, .inl (cI, a + 1, .inl fl1)), (af, .inl (cI, a, .inl (upd ff1 (nI i).toNatClampNeg (nI fi1)))), (o0, .inr (4, [.int (nI a2), .ref bk, .ref bv, .ref bo, .ref bp, .ref bl, .ref bf, .int (nI n2), .int (nI pl2)])), (bk, .inl (cI, a2, .inl gk)), (bo, .inl (cI, a2, .inl go))] := hD
                      refine lv_aload_n hx hb dX4_findPartners_80 rfl (lv_at hl 0 rfl) ?_
                      refine va_get (D := D) (ci := 4) (v := .ref ap) (C := RX4) (T := TX4) (N := 9) hx hb hts (by decide +kernel) hown hK hP 0 rfl rfl 4 (by decide) (hts (.fieldLink RX4 25 "JoinDesk$Table" "partnerSums" "[I") (by decide +kernel)) (fun _ h9 => h9) rfl dX4_findPartners_81 ?_
                      refine lv_iload hx hb dX4_findPartners_84 (lv_at hl 4 rfl) ?_
                      refine lv_iconst (v := 1) hx hb dX4_findPartners_86 (by decide) ?_
                      refine lv_iadd hx hb dX4_findPartners_87 ?_
                      refine lv_topi (fun z_12 e_z_12 => ?_)
                      obtain rfl : z_12 = nI (i + 1) := e_z_12.trans (nI_add i 1)
                      refine lv_aload_n hx hb dX4_findPartners_88 rfl (lv_at hl 0 rfl) ?_
                      refine va_get (D := D) (ci := 4) (v := .ref ap) (C := RX4) (T := TX4) (N := 9) hx hb hts (by decide +kernel) hown hK hP 0 rfl rfl 4 (by decide) (hts (.fieldLink RX4 25 "JoinDesk$Table" "partnerSums" "[I") (by decide +kernel)) (fun _ h9 => h9) rfl dX4_findPartners_89 ?_
                      refine lv_iload hx hb dX4_findPartners_92 (lv_at hl 4 rfl) ?_
                      refine va_iald hx hb hK hP 3 0 rfl rfl (vp_in_nI (show i < a + 1 by rw [nI_leI (by omega) (by omega)] at cge; omega) (by omega)) dX4_findPartners_94 ?_
                      refine lv_iload_n hx hb dX4_findPartners_95 rfl (lv_at hl 3 rfl) ?_
                      refine lv_iadd hx hb dX4_findPartners_96 ?_
                      refine lv_iload_n hx hb dX4_findPartners_97 rfl (lv_at hl 2 rfl) ?_
                      refine lv_isub hx hb dX4_findPartners_98 ?_
                      refine va_iast hx hb hK hP hD hS 3 0 rfl rfl (vp_in_nI (show i + 1 < a + 1 by rw [nI_leI (by omega) (by omega)] at cge; omega) (by omega)) dX4_findPartners_99 (fun H locs hP hD hS => ?_)
                      have hP : va_P D vwCl [(h0, .inr (4, [.int (nI a), .ref ak, .ref av, .ref ao, .ref ap, .ref al, .ref af, .int (nI n), .int (nI pl)])), (ak, .inl (cI, a, .inl fk)), (ao, .inl (cI, a, .inl fo)), (ap, .inl (cI, a + 1, .inl (upd fp1 (nI (i + 1)).toNatClampNeg (((fp1 (nI i).toNatClampNeg) + (nI be1)) - (nI fi1))))), (al, .inl (cI, a + 1, .inl fl1)), (af, .inl (cI, a, .inl (upd ff1 (nI i).toNatClampNeg (nI fi1)))), (o0, .inr (4, [.int (nI a2), .ref bk, .ref bv, .ref bo, .ref bp, .ref bl, .ref bf, .int (nI n2), .int (nI pl2)])), (bk, .inl (cI, a2, .inl gk)), (bo, .inl (cI, a2, .inl go))] H := hP
                      have hD : va_D A [(h0, .inr (4, [.int (nI a), .ref ak, .ref av, .ref ao, .ref ap, .ref al, .ref af, .int (nI n), .int (nI pl)])), (ak, .inl (cI, a, .inl fk)), (ao, .inl (cI, a, .inl fo)), (ap, .inl (cI, a + 1, .inl (upd fp1 (nI (i + 1)).toNatClampNeg (((fp1 (nI i).toNatClampNeg) + (nI be1)) - (nI fi1))))), (al, .inl (cI, a + 1, .inl fl1)), (af, .inl (cI, a, .inl (upd ff1 (nI i).toNatClampNeg (nI fi1)))), (o0, .inr (4, [.int (nI a2), .ref bk, .ref bv, .ref bo, .ref bp, .ref bl, .ref bf, .int (nI n2), .int (nI pl2)])), (bk, .inl (cI, a2, .inl gk)), (bo, .inl (cI, a2, .inl go))] := hD
                      refine lv_aload_n hx hb dX4_findPartners_100 rfl (lv_at hl 0 rfl) ?_
                      refine va_get (D := D) (ci := 4) (v := .ref al) (C := RX4) (T := TX4) (N := 9) hx hb hts (by decide +kernel) hown hK hP 0 rfl rfl 5 (by decide) (hts (.fieldLink RX4 28 "JoinDesk$Table" "loneSums" "[I") (by decide +kernel)) (fun _ h9 => h9) rfl dX4_findPartners_101 ?_
                      refine lv_iload hx hb dX4_findPartners_104 (lv_at hl 4 rfl) ?_
                      refine lv_iconst (v := 1) hx hb dX4_findPartners_106 (by decide) ?_
                      refine lv_iadd hx hb dX4_findPartners_107 ?_
                      refine lv_topi (fun z_13 e_z_13 => ?_)
                      obtain rfl : z_13 = nI (i + 1) := e_z_13.trans (nI_add i 1)
                      refine lv_aload_n hx hb dX4_findPartners_108 rfl (lv_at hl 0 rfl) ?_
                      refine va_get (D := D) (ci := 4) (v := .ref al) (C := RX4) (T := TX4) (N := 9) hx hb hts (by decide +kernel) hown hK hP 0 rfl rfl 5 (by decide) (hts (.fieldLink RX4 28 "JoinDesk$Table" "loneSums" "[I") (by decide +kernel)) (fun _ h9 => h9) rfl dX4_findPartners_109 ?_
                      refine lv_iload hx hb dX4_findPartners_112 (lv_at hl 4 rfl) ?_
                      refine va_iald hx hb hK hP 4 0 rfl rfl (vp_in_nI (show i < a + 1 by rw [nI_leI (by omega) (by omega)] at cge; omega) (by omega)) dX4_findPartners_114 ?_
                      refine lv_iload_n hx hb dX4_findPartners_115 rfl (lv_at hl 3 rfl) ?_
                      refine lv_iload_n hx hb dX4_findPartners_116 rfl (lv_at hl 2 rfl) ?_
                      refine lv_icmp_ne (tgt := 124) hx hb dX4_findPartners_117 (by decide) (fun c_14 => ?_) (fun c_14 => ?_)
                      · refine lv_iconst (v := 0) hx hb dX4_findPartners_124 (by decide) ?_
                        refine lv_iadd hx hb dX4_findPartners_125 ?_
                        refine va_iast hx hb hK hP hD hS 4 0 rfl rfl (vp_in_nI (show i + 1 < a + 1 by rw [nI_leI (by omega) (by omega)] at cge; omega) (by omega)) dX4_findPartners_126 (fun H locs hP hD hS => ?_)
                        have hP : va_P D vwCl [(h0, .inr (4, [.int (nI a), .ref ak, .ref av, .ref ao, .ref ap, .ref al, .ref af, .int (nI n), .int (nI pl)])), (ak, .inl (cI, a, .inl fk)), (ao, .inl (cI, a, .inl fo)), (ap, .inl (cI, a + 1, .inl (upd fp1 (nI (i + 1)).toNatClampNeg (((fp1 (nI i).toNatClampNeg) + (nI be1)) - (nI fi1))))), (al, .inl (cI, a + 1, .inl (upd fl1 (nI (i + 1)).toNatClampNeg ((fl1 (nI i).toNatClampNeg) + 0)))), (af, .inl (cI, a, .inl (upd ff1 (nI i).toNatClampNeg (nI fi1)))), (o0, .inr (4, [.int (nI a2), .ref bk, .ref bv, .ref bo, .ref bp, .ref bl, .ref bf, .int (nI n2), .int (nI pl2)])), (bk, .inl (cI, a2, .inl gk)), (bo, .inl (cI, a2, .inl go))] H := hP
                        have hD : va_D A [(h0, .inr (4, [.int (nI a), .ref ak, .ref av, .ref ao, .ref ap, .ref al, .ref af, .int (nI n), .int (nI pl)])), (ak, .inl (cI, a, .inl fk)), (ao, .inl (cI, a, .inl fo)), (ap, .inl (cI, a + 1, .inl (upd fp1 (nI (i + 1)).toNatClampNeg (((fp1 (nI i).toNatClampNeg) + (nI be1)) - (nI fi1))))), (al, .inl (cI, a + 1, .inl (upd fl1 (nI (i + 1)).toNatClampNeg ((fl1 (nI i).toNatClampNeg) + 0)))), (af, .inl (cI, a, .inl (upd ff1 (nI i).toNatClampNeg (nI fi1)))), (o0, .inr (4, [.int (nI a2), .ref bk, .ref bv, .ref bo, .ref bp, .ref bl, .ref bf, .int (nI n2), .int (nI pl2)])), (bk, .inl (cI, a2, .inl gk)), (bo, .inl (cI, a2, .inl go))] := hD
                        refine lv_iinc (v := nI (i + 1)) (lv' := [(4, .int (nI (i + 1))), (0, .ref h0), (1, .ref o0), (2, .int (nI fi1)), (3, .int (nI be1)), (5, .int (jat n fk fo (nI i)))]) hx hb dX4_findPartners_127 hl (k := 4) rfl (nI_1 _) (by decide) rfl (fun ls hl => ?_)
                        refine lv_goto (tgt := 7) hx hb dX4_findPartners_130 (by decide) ?_
                        exact ih_1 (i + 1) fi1 be1 (upd fp1 (nI (i + 1)).toNatClampNeg (((fp1 (nI i).toNatClampNeg) + (nI be1)) - (nI fi1))) (upd fl1 (nI (i + 1)).toNatClampNeg ((fl1 (nI i).toNatClampNeg) + 0)) (upd ff1 (nI i).toNatClampNeg (nI fi1)) (by rw [nI_leI (by omega) (by omega)] at cge; omega) (by rw [nI_leI (by omega) (by omega)] at cge; omega) (by first | assumption | omega) (by first | assumption | omega) (jff_upd hff1 (by omega)) _ _ hP hD hS ls (lv_sub hl [1, 2, 3, 4, 0] rfl)
                      · refine lv_iconst (v := 1) hx hb dX4_findPartners_120 (by decide) ?_
                        refine lv_goto (tgt := 125) hx hb dX4_findPartners_121 (by decide) ?_
                        refine lv_iadd hx hb dX4_findPartners_125 ?_
                        refine va_iast hx hb hK hP hD hS 4 0 rfl rfl (vp_in_nI (show i + 1 < a + 1 by rw [nI_leI (by omega) (by omega)] at cge; omega) (by omega)) dX4_findPartners_126 (fun H locs hP hD hS => ?_)
                        have hP : va_P D vwCl [(h0, .inr (4, [.int (nI a), .ref ak, .ref av, .ref ao, .ref ap, .ref al, .ref af, .int (nI n), .int (nI pl)])), (ak, .inl (cI, a, .inl fk)), (ao, .inl (cI, a, .inl fo)), (ap, .inl (cI, a + 1, .inl (upd fp1 (nI (i + 1)).toNatClampNeg (((fp1 (nI i).toNatClampNeg) + (nI be1)) - (nI fi1))))), (al, .inl (cI, a + 1, .inl (upd fl1 (nI (i + 1)).toNatClampNeg ((fl1 (nI i).toNatClampNeg) + 1)))), (af, .inl (cI, a, .inl (upd ff1 (nI i).toNatClampNeg (nI fi1)))), (o0, .inr (4, [.int (nI a2), .ref bk, .ref bv, .ref bo, .ref bp, .ref bl, .ref bf, .int (nI n2), .int (nI pl2)])), (bk, .inl (cI, a2, .inl gk)), (bo, .inl (cI, a2, .inl go))] H := hP
                        have hD : va_D A [(h0, .inr (4, [.int (nI a), .ref ak, .ref av, .ref ao, .ref ap, .ref al, .ref af, .int (nI n), .int (nI pl)])), (ak, .inl (cI, a, .inl fk)), (ao, .inl (cI, a, .inl fo)), (ap, .inl (cI, a + 1, .inl (upd fp1 (nI (i + 1)).toNatClampNeg (((fp1 (nI i).toNatClampNeg) + (nI be1)) - (nI fi1))))), (al, .inl (cI, a + 1, .inl (upd fl1 (nI (i + 1)).toNatClampNeg ((fl1 (nI i).toNatClampNeg) + 1)))), (af, .inl (cI, a, .inl (upd ff1 (nI i).toNatClampNeg (nI fi1)))), (o0, .inr (4, [.int (nI a2), .ref bk, .ref bv, .ref bo, .ref bp, .ref bl, .ref bf, .int (nI n2), .int (nI pl2)])), (bk, .inl (cI, a2, .inl gk)), (bo, .inl (cI, a2, .inl go))] := hD
                        refine lv_iinc (v := nI (i + 1)) (lv' := [(4, .int (nI (i + 1))), (0, .ref h0), (1, .ref o0), (2, .int (nI fi1)), (3, .int (nI be1)), (5, .int (jat n fk fo (nI i)))]) hx hb dX4_findPartners_127 hl (k := 4) rfl (nI_1 _) (by decide) rfl (fun ls hl => ?_)
                        refine lv_goto (tgt := 7) hx hb dX4_findPartners_130 (by decide) ?_
                        exact ih_1 (i + 1) fi1 be1 (upd fp1 (nI (i + 1)).toNatClampNeg (((fp1 (nI i).toNatClampNeg) + (nI be1)) - (nI fi1))) (upd fl1 (nI (i + 1)).toNatClampNeg ((fl1 (nI i).toNatClampNeg) + 1)) (upd ff1 (nI i).toNatClampNeg (nI fi1)) (by rw [nI_leI (by omega) (by omega)] at cge; omega) (by rw [nI_leI (by omega) (by omega)] at cge; omega) (by first | assumption | omega) (by first | assumption | omega) (jff_upd hff1 (by omega)) _ _ hP hD hS ls (lv_sub hl [1, 2, 3, 4, 0] rfl)
                    · refine lv_aload_n hx hb dX4_findPartners_56 rfl (lv_at hl 1 rfl) ?_
                      refine lv_iload_n hx hb dX4_findPartners_57 rfl (lv_at hl 3 rfl) ?_
                      refine vp_callSi (va_Run.run (va_runV (As := [.int (nI be1)]) (rest := []) ⟨hx, hb, hml, hown, hts⟩ (gT_keyAt l D cI cL cQ o0 a2 n2 pl2 bk bv bo bp bl bf gk go (nI be1) (by first | assumption | decide | omega) (by first | assumption | decide | omega) (by first | assumption | decide | omega)) (cwV 1 hts gX4_findPartners_X4_keyAt rfl rfl rfl (by decide +kernel) ⟨Nat.le_of_ble_eq_true rfl, Nat.le_of_ble_eq_true rfl⟩) (jr_V hK hN hP [6, 7, 8] rfl 4 6 rfl rfl rfl) rfl rfl hl.1 rfl (lv_room (Nat.le_of_ble_eq_true rfl)) dX4_findPartners_58 ⟨Nat.le_of_ble_eq_true rfl, Nat.le_of_ble_eq_true rfl⟩)) (fun r f_15 => ?_)
                      obtain rfl := f_15
                      refine lv_iload hx hb dX4_findPartners_61 (lv_at hl 5 rfl) ?_
                      refine lv_icmp_gt (tgt := 72) hx hb dX4_findPartners_63 (by decide) (fun c_16 => ?_) (fun c_16 => ?_)
                      · refine lv_aload_n hx hb dX4_findPartners_72 rfl (lv_at hl 0 rfl) ?_
                        refine va_get (D := D) (ci := 4) (v := .ref af) (C := RX4) (T := TX4) (N := 9) hx hb hts (by decide +kernel) hown hK hP 0 rfl rfl 6 (by decide) (hts (.fieldLink RX4 31 "JoinDesk$Table" "firstPartners" "[I") (by decide +kernel)) (fun _ h9 => h9) rfl dX4_findPartners_73 ?_
                        refine lv_iload hx hb dX4_findPartners_76 (lv_at hl 4 rfl) ?_
                        refine lv_iload_n hx hb dX4_findPartners_78 rfl (lv_at hl 2 rfl) ?_
                        refine va_iast hx hb hK hP hD hS 5 0 rfl rfl (vp_in_nI (show i < a by rw [nI_leI (by omega) (by omega)] at cge; omega) (by omega)) dX4_findPartners_79 (fun H locs hP hD hS => ?_)
                        have hP : va_P D vwCl [(h0, .inr (4, [.int (nI a), .ref ak, .ref av, .ref ao, .ref ap, .ref al, .ref af, .int (nI n), .int (nI pl)])), (ak, .inl (cI, a, .inl fk)), (ao, .inl (cI, a, .inl fo)), (ap, .inl (cI, a + 1, .inl fp1)), (al, .inl (cI, a + 1, .inl fl1)), (af, .inl (cI, a, .inl (upd ff1 (nI i).toNatClampNeg (nI fi1)))), (o0, .inr (4, [.int (nI a2), .ref bk, .ref bv, .ref bo, .ref bp, .ref bl, .ref bf, .int (nI n2), .int (nI pl2)])), (bk, .inl (cI, a2, .inl gk)), (bo, .inl (cI, a2, .inl go))] H := hP
                        have hD : va_D A [(h0, .inr (4, [.int (nI a), .ref ak, .ref av, .ref ao, .ref ap, .ref al, .ref af, .int (nI n), .int (nI pl)])), (ak, .inl (cI, a, .inl fk)), (ao, .inl (cI, a, .inl fo)), (ap, .inl (cI, a + 1, .inl fp1)), (al, .inl (cI, a + 1, .inl fl1)), (af, .inl (cI, a, .inl (upd ff1 (nI i).toNatClampNeg (nI fi1)))), (o0, .inr (4, [.int (nI a2), .ref bk, .ref bv, .ref bo, .ref bp, .ref bl, .ref bf, .int (nI n2), .int (nI pl2)])), (bk, .inl (cI, a2, .inl gk)), (bo, .inl (cI, a2, .inl go))] := hD
                        refine lv_aload_n hx hb dX4_findPartners_80 rfl (lv_at hl 0 rfl) ?_
                        refine va_get (D := D) (ci := 4) (v := .ref ap) (C := RX4) (T := TX4) (N := 9) hx hb hts (by decide +kernel) hown hK hP 0 rfl rfl 4 (by decide) (hts (.fieldLink RX4 25 "JoinDesk$Table" "partnerSums" "[I") (by decide +kernel)) (fun _ h9 => h9) rfl dX4_findPartners_81 ?_
                        refine lv_iload hx hb dX4_findPartners_84 (lv_at hl 4 rfl) ?_
                        refine lv_iconst (v := 1) hx hb dX4_findPartners_86 (by decide) ?_
                        refine lv_iadd hx hb dX4_findPartners_87 ?_
                        refine lv_topi (fun z_17 e_z_17 => ?_)
                        obtain rfl : z_17 = nI (i + 1) := e_z_17.trans (nI_add i 1)
                        refine lv_aload_n hx hb dX4_findPartners_88 rfl (lv_at hl 0 rfl) ?_
                        refine va_get (D := D) (ci := 4) (v := .ref ap) (C := RX4) (T := TX4) (N := 9) hx hb hts (by decide +kernel) hown hK hP 0 rfl rfl 4 (by decide) (hts (.fieldLink RX4 25 "JoinDesk$Table" "partnerSums" "[I") (by decide +kernel)) (fun _ h9 => h9) rfl dX4_findPartners_89 ?_
                        refine lv_iload hx hb dX4_findPartners_92 (lv_at hl 4 rfl) ?_
                        refine va_iald hx hb hK hP 3 0 rfl rfl (vp_in_nI (show i < a + 1 by rw [nI_leI (by omega) (by omega)] at cge; omega) (by omega)) dX4_findPartners_94 ?_
                        refine lv_iload_n hx hb dX4_findPartners_95 rfl (lv_at hl 3 rfl) ?_
                        refine lv_iadd hx hb dX4_findPartners_96 ?_
                        refine lv_iload_n hx hb dX4_findPartners_97 rfl (lv_at hl 2 rfl) ?_
                        refine lv_isub hx hb dX4_findPartners_98 ?_
                        refine va_iast hx hb hK hP hD hS 3 0 rfl rfl (vp_in_nI (show i + 1 < a + 1 by rw [nI_leI (by omega) (by omega)] at cge; omega) (by omega)) dX4_findPartners_99 (fun H locs hP hD hS => ?_)
                        have hP : va_P D vwCl [(h0, .inr (4, [.int (nI a), .ref ak, .ref av, .ref ao, .ref ap, .ref al, .ref af, .int (nI n), .int (nI pl)])), (ak, .inl (cI, a, .inl fk)), (ao, .inl (cI, a, .inl fo)), (ap, .inl (cI, a + 1, .inl (upd fp1 (nI (i + 1)).toNatClampNeg (((fp1 (nI i).toNatClampNeg) + (nI be1)) - (nI fi1))))), (al, .inl (cI, a + 1, .inl fl1)), (af, .inl (cI, a, .inl (upd ff1 (nI i).toNatClampNeg (nI fi1)))), (o0, .inr (4, [.int (nI a2), .ref bk, .ref bv, .ref bo, .ref bp, .ref bl, .ref bf, .int (nI n2), .int (nI pl2)])), (bk, .inl (cI, a2, .inl gk)), (bo, .inl (cI, a2, .inl go))] H := hP
                        have hD : va_D A [(h0, .inr (4, [.int (nI a), .ref ak, .ref av, .ref ao, .ref ap, .ref al, .ref af, .int (nI n), .int (nI pl)])), (ak, .inl (cI, a, .inl fk)), (ao, .inl (cI, a, .inl fo)), (ap, .inl (cI, a + 1, .inl (upd fp1 (nI (i + 1)).toNatClampNeg (((fp1 (nI i).toNatClampNeg) + (nI be1)) - (nI fi1))))), (al, .inl (cI, a + 1, .inl fl1)), (af, .inl (cI, a, .inl (upd ff1 (nI i).toNatClampNeg (nI fi1)))), (o0, .inr (4, [.int (nI a2), .ref bk, .ref bv, .ref bo, .ref bp, .ref bl, .ref bf, .int (nI n2), .int (nI pl2)])), (bk, .inl (cI, a2, .inl gk)), (bo, .inl (cI, a2, .inl go))] := hD
                        refine lv_aload_n hx hb dX4_findPartners_100 rfl (lv_at hl 0 rfl) ?_
                        refine va_get (D := D) (ci := 4) (v := .ref al) (C := RX4) (T := TX4) (N := 9) hx hb hts (by decide +kernel) hown hK hP 0 rfl rfl 5 (by decide) (hts (.fieldLink RX4 28 "JoinDesk$Table" "loneSums" "[I") (by decide +kernel)) (fun _ h9 => h9) rfl dX4_findPartners_101 ?_
                        refine lv_iload hx hb dX4_findPartners_104 (lv_at hl 4 rfl) ?_
                        refine lv_iconst (v := 1) hx hb dX4_findPartners_106 (by decide) ?_
                        refine lv_iadd hx hb dX4_findPartners_107 ?_
                        refine lv_topi (fun z_18 e_z_18 => ?_)
                        obtain rfl : z_18 = nI (i + 1) := e_z_18.trans (nI_add i 1)
                        refine lv_aload_n hx hb dX4_findPartners_108 rfl (lv_at hl 0 rfl) ?_
                        refine va_get (D := D) (ci := 4) (v := .ref al) (C := RX4) (T := TX4) (N := 9) hx hb hts (by decide +kernel) hown hK hP 0 rfl rfl 5 (by decide) (hts (.fieldLink RX4 28 "JoinDesk$Table" "loneSums" "[I") (by decide +kernel)) (fun _ h9 => h9) rfl dX4_findPartners_109 ?_
                        refine lv_iload hx hb dX4_findPartners_112 (lv_at hl 4 rfl) ?_
                        refine va_iald hx hb hK hP 4 0 rfl rfl (vp_in_nI (show i < a + 1 by rw [nI_leI (by omega) (by omega)] at cge; omega) (by omega)) dX4_findPartners_114 ?_
                        refine lv_iload_n hx hb dX4_findPartners_115 rfl (lv_at hl 3 rfl) ?_
                        refine lv_iload_n hx hb dX4_findPartners_116 rfl (lv_at hl 2 rfl) ?_
                        refine lv_icmp_ne (tgt := 124) hx hb dX4_findPartners_117 (by decide) (fun c_19 => ?_) (fun c_19 => ?_)
                        · refine lv_iconst (v := 0) hx hb dX4_findPartners_124 (by decide) ?_
                          refine lv_iadd hx hb dX4_findPartners_125 ?_
                          refine va_iast hx hb hK hP hD hS 4 0 rfl rfl (vp_in_nI (show i + 1 < a + 1 by rw [nI_leI (by omega) (by omega)] at cge; omega) (by omega)) dX4_findPartners_126 (fun H locs hP hD hS => ?_)
                          have hP : va_P D vwCl [(h0, .inr (4, [.int (nI a), .ref ak, .ref av, .ref ao, .ref ap, .ref al, .ref af, .int (nI n), .int (nI pl)])), (ak, .inl (cI, a, .inl fk)), (ao, .inl (cI, a, .inl fo)), (ap, .inl (cI, a + 1, .inl (upd fp1 (nI (i + 1)).toNatClampNeg (((fp1 (nI i).toNatClampNeg) + (nI be1)) - (nI fi1))))), (al, .inl (cI, a + 1, .inl (upd fl1 (nI (i + 1)).toNatClampNeg ((fl1 (nI i).toNatClampNeg) + 0)))), (af, .inl (cI, a, .inl (upd ff1 (nI i).toNatClampNeg (nI fi1)))), (o0, .inr (4, [.int (nI a2), .ref bk, .ref bv, .ref bo, .ref bp, .ref bl, .ref bf, .int (nI n2), .int (nI pl2)])), (bk, .inl (cI, a2, .inl gk)), (bo, .inl (cI, a2, .inl go))] H := hP
                          have hD : va_D A [(h0, .inr (4, [.int (nI a), .ref ak, .ref av, .ref ao, .ref ap, .ref al, .ref af, .int (nI n), .int (nI pl)])), (ak, .inl (cI, a, .inl fk)), (ao, .inl (cI, a, .inl fo)), (ap, .inl (cI, a + 1, .inl (upd fp1 (nI (i + 1)).toNatClampNeg (((fp1 (nI i).toNatClampNeg) + (nI be1)) - (nI fi1))))), (al, .inl (cI, a + 1, .inl (upd fl1 (nI (i + 1)).toNatClampNeg ((fl1 (nI i).toNatClampNeg) + 0)))), (af, .inl (cI, a, .inl (upd ff1 (nI i).toNatClampNeg (nI fi1)))), (o0, .inr (4, [.int (nI a2), .ref bk, .ref bv, .ref bo, .ref bp, .ref bl, .ref bf, .int (nI n2), .int (nI pl2)])), (bk, .inl (cI, a2, .inl gk)), (bo, .inl (cI, a2, .inl go))] := hD
                          refine lv_iinc (v := nI (i + 1)) (lv' := [(4, .int (nI (i + 1))), (0, .ref h0), (1, .ref o0), (2, .int (nI fi1)), (3, .int (nI be1)), (5, .int (jat n fk fo (nI i)))]) hx hb dX4_findPartners_127 hl (k := 4) rfl (nI_1 _) (by decide) rfl (fun ls hl => ?_)
                          refine lv_goto (tgt := 7) hx hb dX4_findPartners_130 (by decide) ?_
                          exact ih_1 (i + 1) fi1 be1 (upd fp1 (nI (i + 1)).toNatClampNeg (((fp1 (nI i).toNatClampNeg) + (nI be1)) - (nI fi1))) (upd fl1 (nI (i + 1)).toNatClampNeg ((fl1 (nI i).toNatClampNeg) + 0)) (upd ff1 (nI i).toNatClampNeg (nI fi1)) (by rw [nI_leI (by omega) (by omega)] at cge; omega) (by rw [nI_leI (by omega) (by omega)] at cge; omega) (by first | assumption | omega) (by first | assumption | omega) (jff_upd hff1 (by omega)) _ _ hP hD hS ls (lv_sub hl [1, 2, 3, 4, 0] rfl)
                        · refine lv_iconst (v := 1) hx hb dX4_findPartners_120 (by decide) ?_
                          refine lv_goto (tgt := 125) hx hb dX4_findPartners_121 (by decide) ?_
                          refine lv_iadd hx hb dX4_findPartners_125 ?_
                          refine va_iast hx hb hK hP hD hS 4 0 rfl rfl (vp_in_nI (show i + 1 < a + 1 by rw [nI_leI (by omega) (by omega)] at cge; omega) (by omega)) dX4_findPartners_126 (fun H locs hP hD hS => ?_)
                          have hP : va_P D vwCl [(h0, .inr (4, [.int (nI a), .ref ak, .ref av, .ref ao, .ref ap, .ref al, .ref af, .int (nI n), .int (nI pl)])), (ak, .inl (cI, a, .inl fk)), (ao, .inl (cI, a, .inl fo)), (ap, .inl (cI, a + 1, .inl (upd fp1 (nI (i + 1)).toNatClampNeg (((fp1 (nI i).toNatClampNeg) + (nI be1)) - (nI fi1))))), (al, .inl (cI, a + 1, .inl (upd fl1 (nI (i + 1)).toNatClampNeg ((fl1 (nI i).toNatClampNeg) + 1)))), (af, .inl (cI, a, .inl (upd ff1 (nI i).toNatClampNeg (nI fi1)))), (o0, .inr (4, [.int (nI a2), .ref bk, .ref bv, .ref bo, .ref bp, .ref bl, .ref bf, .int (nI n2), .int (nI pl2)])), (bk, .inl (cI, a2, .inl gk)), (bo, .inl (cI, a2, .inl go))] H := hP
                          have hD : va_D A [(h0, .inr (4, [.int (nI a), .ref ak, .ref av, .ref ao, .ref ap, .ref al, .ref af, .int (nI n), .int (nI pl)])), (ak, .inl (cI, a, .inl fk)), (ao, .inl (cI, a, .inl fo)), (ap, .inl (cI, a + 1, .inl (upd fp1 (nI (i + 1)).toNatClampNeg (((fp1 (nI i).toNatClampNeg) + (nI be1)) - (nI fi1))))), (al, .inl (cI, a + 1, .inl (upd fl1 (nI (i + 1)).toNatClampNeg ((fl1 (nI i).toNatClampNeg) + 1)))), (af, .inl (cI, a, .inl (upd ff1 (nI i).toNatClampNeg (nI fi1)))), (o0, .inr (4, [.int (nI a2), .ref bk, .ref bv, .ref bo, .ref bp, .ref bl, .ref bf, .int (nI n2), .int (nI pl2)])), (bk, .inl (cI, a2, .inl gk)), (bo, .inl (cI, a2, .inl go))] := hD
                          refine lv_iinc (v := nI (i + 1)) (lv' := [(4, .int (nI (i + 1))), (0, .ref h0), (1, .ref o0), (2, .int (nI fi1)), (3, .int (nI be1)), (5, .int (jat n fk fo (nI i)))]) hx hb dX4_findPartners_127 hl (k := 4) rfl (nI_1 _) (by decide) rfl (fun ls hl => ?_)
                          refine lv_goto (tgt := 7) hx hb dX4_findPartners_130 (by decide) ?_
                          exact ih_1 (i + 1) fi1 be1 (upd fp1 (nI (i + 1)).toNatClampNeg (((fp1 (nI i).toNatClampNeg) + (nI be1)) - (nI fi1))) (upd fl1 (nI (i + 1)).toNatClampNeg ((fl1 (nI i).toNatClampNeg) + 1)) (upd ff1 (nI i).toNatClampNeg (nI fi1)) (by rw [nI_leI (by omega) (by omega)] at cge; omega) (by rw [nI_leI (by omega) (by omega)] at cge; omega) (by first | assumption | omega) (by first | assumption | omega) (jff_upd hff1 (by omega)) _ _ hP hD hS ls (lv_sub hl [1, 2, 3, 4, 0] rfl)
                      · refine lv_iinc (v := nI (be1 + 1)) (lv' := [(3, .int (nI (be1 + 1))), (0, .ref h0), (1, .ref o0), (2, .int (nI fi1)), (4, .int (nI i)), (5, .int (jat n fk fo (nI i)))]) hx hb dX4_findPartners_66 hl (k := 3) rfl (nI_1 _) (by decide) rfl (fun ls hl => ?_)
                        refine lv_goto (tgt := 48) hx hb dX4_findPartners_69 (by decide) ?_
                        exact ih_4 (be1 + 1) (by rw [nI_leI (by omega) (by omega)] at cge3; omega) (by rw [nI_leI (by omega) (by omega)] at cge3; omega) _ _ hP hD hS ls (lv_sub hl [1, 2, 3, 0, 4, 5] rfl)
                exact hloop_4 (n2 - be + 1) be (Nat.lt_succ_self _) (by first | assumption | omega) _ _ hP hD hS ls (lv_sub hl [0, 1, 2, 3, 4, 5] rfl)
              · refine lv_iinc (v := nI (fi1 + 1)) (lv' := [(2, .int (nI (fi1 + 1))), (0, .ref h0), (1, .ref o0), (3, .int (nI be)), (4, .int (nI i)), (5, .int (jat n fk fo (nI i)))]) hx hb dX4_findPartners_42 hl (k := 2) rfl (nI_1 _) (by decide) rfl (fun ls hl => ?_)
                refine lv_goto (tgt := 24) hx hb dX4_findPartners_45 (by decide) ?_
                exact ih_2 (fi1 + 1) (by rw [nI_leI (by omega) (by omega)] at cge2; omega) (by rw [nI_leI (by omega) (by omega)] at cge2; omega) _ _ hP hD hS ls (lv_sub hl [1, 2, 0, 3, 4, 5] rfl)
        exact hloop_2 (n2 - fi + 1) fi (Nat.lt_succ_self _) (by first | assumption | omega) _ _ hP hD hS ls (lv_sub hl [1, 2, 3, 4, 5, 0] rfl)
  exact hloop_1 (n - 0 + 1) 0 0 0 fp fl ff (Nat.lt_succ_self _) (Nat.zero_le _) (Nat.zero_le _) (Nat.zero_le _) (hff) _ _ hP hD hS ls (lv_sub hl [3, 4, 2, 1, 0] rfl)
set_option maxHeartbeats 1000000 in
set_option maxRecDepth 100000 in
theorem gT_startsGroup (l : Launch) (D : va_G) (cI cL cQ : ClassId) (h0 : Nat) (a : Nat) (n : Nat) (pl : Nat) (ak : Nat) (av : Nat) (ao : Nat) (ap : Nat) (al : Nat) (af : Nat) (fk : Nat → Int32) (fo : Nat → Int32) (fp : Nat → Int32) (x : Int32) (ha : a ≤ 400) (hn : n ≤ a) (ho : jord a fo) : Met l yX4_startsGroup wsX4_startsGroup ({ frames := 2, cells := 0, slots := 0, locals := 42 }) (jr_P D vwCl (jT cI cL cQ) cL cQ [.ref h0, .int x] [(h0, .inr (4, [.int (nI a), .ref ak, .ref av, .ref ao, .ref ap, .ref al, .ref af, .int (nI n), .int (nI pl)])), (ak, .inl (cI, a, .inl fk)), (ao, .inl (cI, a, .inl fo)), (ap, .inl (cI, a + 1, .inl fp))]) (vp_Si (fun r : Int32 => (r = 1 ∧ (jst n fk fo fp x = true)) ∨ (r = 0 ∧ (jst n fk fo fp x = false)))) 0 0 (fun _ => False) := by
  refine Met.ofW (cc := cX4_startsGroup) (maxL := 3) (ret := (some .boolean)) (by decide) rfl ?_
  intro p e s m args below meth c s₁ B hml hv
  obtain ⟨rfl, hP, hK, hN⟩ := hv
  have hx := B.exec
  have hb := B.bytes
  have hr := B.returns
  have hts := atoms_spec (ws := wsX4_startsGroup) B.pre
  have hown : s.vm.findClass RX4 = some m.cls := findClass_of_methodNamed B.named
  have hlocks := B.notSynchronized
  have hl := lv_entry ([.ref h0, .int x]) (n := 3) (Nat.le_of_ble_eq_true rfl)
  rw [lg_entry_eq]
  generalize (lg_sl ([.ref h0, .int x]) ++ List.replicate (3 - (lg_sl ([.ref h0, .int x])).length) Slot.unset).toArray = ls at hl ⊢
  have hl : lv_has ls 3 [(0, .ref h0), (1, .int x)] := hl
  refine lv_iload_n hx hb dX4_startsGroup_0 rfl (lv_at hl 1 rfl) ?_
  refine lv_if_eq (tgt := 19) hx hb dX4_startsGroup_1 (by decide) (fun c_1 => ?_) (fun c_1 => ?_)
  · refine lv_iconst (v := 1) hx hb dX4_startsGroup_19 (by decide) ?_
    refine lv_goto (tgt := 24) hx hb dX4_startsGroup_20 (by decide) ?_
    refine lv_istore_n (lv' := [(2, .int 1), (0, .ref h0), (1, .int x)]) hx hb dX4_startsGroup_24 rfl hl (by decide) rfl (fun ls hl => ?_)
    refine lv_iload_n hx hb dX4_startsGroup_25 rfl (lv_at hl 0 rfl) ?_
    refine lv_if_eq (tgt := 48) hx hb dX4_startsGroup_26 (by decide) (fun c_2 => absurd c_2 (by decide)) (fun c_2 => ?_)
    refine lv_aload_n hx hb dX4_startsGroup_29 rfl (lv_at hl 1 rfl) ?_
    refine lv_iload_n hx hb dX4_startsGroup_30 rfl (lv_at hl 2 rfl) ?_
    refine lv_iconst (v := 1) hx hb dX4_startsGroup_31 (by decide) ?_
    refine lv_iadd hx hb dX4_startsGroup_32 ?_
    refine vp_callSi (va_Run.run (va_runV (As := [.int (x + 1)]) (rest := []) ⟨hx, hb, hml, hown, hts⟩ (gT_partnersBefore l D cI cL cQ h0 a n pl ak av ao ap al af fp (x + 1) (by first | assumption | decide | omega) (by first | assumption | decide | omega)) (cwV 1 hts gX4_startsGroup_X4_partnersBefore rfl rfl rfl (by decide +kernel) ⟨Nat.le_of_ble_eq_true rfl, Nat.le_of_ble_eq_true rfl⟩) (jr_V hK hN hP [0, 3] rfl 4 0 rfl rfl rfl) rfl rfl hl.1 rfl (lv_room (Nat.le_of_ble_eq_true rfl)) dX4_startsGroup_33 ⟨Nat.le_of_ble_eq_true rfl, Nat.le_of_ble_eq_true rfl⟩)) (fun r f_3 => ?_)
    obtain rfl := f_3
    refine lv_aload_n hx hb dX4_startsGroup_36 rfl (lv_at hl 1 rfl) ?_
    refine lv_iload_n hx hb dX4_startsGroup_37 rfl (lv_at hl 2 rfl) ?_
    refine vp_callSi (va_Run.run (va_runV (As := [.int x]) (rest := [.int (jsum n fp (x + 1))]) ⟨hx, hb, hml, hown, hts⟩ (gT_partnersBefore l D cI cL cQ h0 a n pl ak av ao ap al af fp x (by first | assumption | decide | omega) (by first | assumption | decide | omega)) (cwV 1 hts gX4_startsGroup_X4_partnersBefore rfl rfl rfl (by decide +kernel) ⟨Nat.le_of_ble_eq_true rfl, Nat.le_of_ble_eq_true rfl⟩) (jr_V hK hN hP [0, 3] rfl 4 0 rfl rfl rfl) rfl rfl hl.1 rfl (lv_room (Nat.le_of_ble_eq_true rfl)) dX4_startsGroup_38 ⟨Nat.le_of_ble_eq_true rfl, Nat.le_of_ble_eq_true rfl⟩)) (fun r f_4 => ?_)
    obtain rfl := f_4
    refine lv_icmp_le (tgt := 48) hx hb dX4_startsGroup_41 (by decide) (fun c_5 => ?_) (fun c_5 => ?_)
    · refine lv_iconst (v := 0) hx hb dX4_startsGroup_48 (by decide) ?_
      exact W.zret (v := 0) (ty := .boolean) hx hb hr rfl (fun t ht hW => ⟨0, rfl, (by first | exact Or.inl ⟨rfl, jst_1 (by first | exact Or.inl (by assumption) | exact Or.inr (by assumption)) (by assumption)⟩ | exact Or.inr ⟨rfl, jst_0 (by first | exact Or.inr (by assumption) | exact Or.inl ⟨by assumption, by assumption⟩)⟩), ht⟩) (fun _ h => nomatch h) dX4_startsGroup_49
    · refine lv_iconst (v := 1) hx hb dX4_startsGroup_44 (by decide) ?_
      refine lv_goto (tgt := 49) hx hb dX4_startsGroup_45 (by decide) ?_
      exact W.zret (v := 1) (ty := .boolean) hx hb hr rfl (fun t ht hW => ⟨1, rfl, (by first | exact Or.inl ⟨rfl, jst_1 (by first | exact Or.inl (by assumption) | exact Or.inr (by assumption)) (by assumption)⟩ | exact Or.inr ⟨rfl, jst_0 (by first | exact Or.inr (by assumption) | exact Or.inl ⟨by assumption, by assumption⟩)⟩), ht⟩) (fun _ h => nomatch h) dX4_startsGroup_49
  · refine lv_aload_n hx hb dX4_startsGroup_4 rfl (lv_at hl 0 rfl) ?_
    refine lv_iload_n hx hb dX4_startsGroup_5 rfl (lv_at hl 1 rfl) ?_
    refine lv_iconst (v := 1) hx hb dX4_startsGroup_6 (by decide) ?_
    refine lv_isub hx hb dX4_startsGroup_7 ?_
    refine vp_callSi (va_Run.run (va_runV (As := [.int (x - 1)]) (rest := []) ⟨hx, hb, hml, hown, hts⟩ (gT_keyAt l D cI cL cQ h0 a n pl ak av ao ap al af fk fo (x - 1) (by first | assumption | decide | omega) (by first | assumption | decide | omega) (by first | assumption | decide | omega)) (cwV 1 hts gX4_startsGroup_X4_keyAt rfl rfl rfl (by decide +kernel) ⟨Nat.le_of_ble_eq_true rfl, Nat.le_of_ble_eq_true rfl⟩) (jr_V hK hN hP [0, 1, 2] rfl 4 0 rfl rfl rfl) rfl rfl hl.1 rfl (lv_room (Nat.le_of_ble_eq_true rfl)) dX4_startsGroup_8 ⟨Nat.le_of_ble_eq_true rfl, Nat.le_of_ble_eq_true rfl⟩)) (fun r f_6 => ?_)
    obtain rfl := f_6
    refine lv_aload_n hx hb dX4_startsGroup_11 rfl (lv_at hl 0 rfl) ?_
    refine lv_iload_n hx hb dX4_startsGroup_12 rfl (lv_at hl 1 rfl) ?_
    refine vp_callSi (va_Run.run (va_runV (As := [.int x]) (rest := [.int (jat n fk fo (x - 1))]) ⟨hx, hb, hml, hown, hts⟩ (gT_keyAt l D cI cL cQ h0 a n pl ak av ao ap al af fk fo x (by first | assumption | decide | omega) (by first | assumption | decide | omega) (by first | assumption | decide | omega)) (cwV 1 hts gX4_startsGroup_X4_keyAt rfl rfl rfl (by decide +kernel) ⟨Nat.le_of_ble_eq_true rfl, Nat.le_of_ble_eq_true rfl⟩) (jr_V hK hN hP [0, 1, 2] rfl 4 0 rfl rfl rfl) rfl rfl hl.1 rfl (lv_room (Nat.le_of_ble_eq_true rfl)) dX4_startsGroup_13 ⟨Nat.le_of_ble_eq_true rfl, Nat.le_of_ble_eq_true rfl⟩)) (fun r f_7 => ?_)
    obtain rfl := f_7
    refine lv_icmp_eq (tgt := 23) hx hb dX4_startsGroup_16 (by decide) (fun c_8 => ?_) (fun c_8 => ?_)
    · refine lv_iconst (v := 0) hx hb dX4_startsGroup_23 (by decide) ?_
      refine lv_istore_n (lv' := [(2, .int 0), (0, .ref h0), (1, .int x)]) hx hb dX4_startsGroup_24 rfl hl (by decide) rfl (fun ls hl => ?_)
      refine lv_iload_n hx hb dX4_startsGroup_25 rfl (lv_at hl 0 rfl) ?_
      refine lv_if_eq (tgt := 48) hx hb dX4_startsGroup_26 (by decide) (fun c_9 => ?_) (fun c_9 => absurd c_9 (by decide))
      refine lv_iconst (v := 0) hx hb dX4_startsGroup_48 (by decide) ?_
      exact W.zret (v := 0) (ty := .boolean) hx hb hr rfl (fun t ht hW => ⟨0, rfl, (by first | exact Or.inl ⟨rfl, jst_1 (by first | exact Or.inl (by assumption) | exact Or.inr (by assumption)) (by assumption)⟩ | exact Or.inr ⟨rfl, jst_0 (by first | exact Or.inr (by assumption) | exact Or.inl ⟨by assumption, by assumption⟩)⟩), ht⟩) (fun _ h => nomatch h) dX4_startsGroup_49
    · refine lv_iconst (v := 1) hx hb dX4_startsGroup_19 (by decide) ?_
      refine lv_goto (tgt := 24) hx hb dX4_startsGroup_20 (by decide) ?_
      refine lv_istore_n (lv' := [(2, .int 1), (0, .ref h0), (1, .int x)]) hx hb dX4_startsGroup_24 rfl hl (by decide) rfl (fun ls hl => ?_)
      refine lv_iload_n hx hb dX4_startsGroup_25 rfl (lv_at hl 0 rfl) ?_
      refine lv_if_eq (tgt := 48) hx hb dX4_startsGroup_26 (by decide) (fun c_10 => absurd c_10 (by decide)) (fun c_10 => ?_)
      refine lv_aload_n hx hb dX4_startsGroup_29 rfl (lv_at hl 1 rfl) ?_
      refine lv_iload_n hx hb dX4_startsGroup_30 rfl (lv_at hl 2 rfl) ?_
      refine lv_iconst (v := 1) hx hb dX4_startsGroup_31 (by decide) ?_
      refine lv_iadd hx hb dX4_startsGroup_32 ?_
      refine vp_callSi (va_Run.run (va_runV (As := [.int (x + 1)]) (rest := []) ⟨hx, hb, hml, hown, hts⟩ (gT_partnersBefore l D cI cL cQ h0 a n pl ak av ao ap al af fp (x + 1) (by first | assumption | decide | omega) (by first | assumption | decide | omega)) (cwV 1 hts gX4_startsGroup_X4_partnersBefore rfl rfl rfl (by decide +kernel) ⟨Nat.le_of_ble_eq_true rfl, Nat.le_of_ble_eq_true rfl⟩) (jr_V hK hN hP [0, 3] rfl 4 0 rfl rfl rfl) rfl rfl hl.1 rfl (lv_room (Nat.le_of_ble_eq_true rfl)) dX4_startsGroup_33 ⟨Nat.le_of_ble_eq_true rfl, Nat.le_of_ble_eq_true rfl⟩)) (fun r f_11 => ?_)
      obtain rfl := f_11
      refine lv_aload_n hx hb dX4_startsGroup_36 rfl (lv_at hl 1 rfl) ?_
      refine lv_iload_n hx hb dX4_startsGroup_37 rfl (lv_at hl 2 rfl) ?_
      refine vp_callSi (va_Run.run (va_runV (As := [.int x]) (rest := [.int (jsum n fp (x + 1))]) ⟨hx, hb, hml, hown, hts⟩ (gT_partnersBefore l D cI cL cQ h0 a n pl ak av ao ap al af fp x (by first | assumption | decide | omega) (by first | assumption | decide | omega)) (cwV 1 hts gX4_startsGroup_X4_partnersBefore rfl rfl rfl (by decide +kernel) ⟨Nat.le_of_ble_eq_true rfl, Nat.le_of_ble_eq_true rfl⟩) (jr_V hK hN hP [0, 3] rfl 4 0 rfl rfl rfl) rfl rfl hl.1 rfl (lv_room (Nat.le_of_ble_eq_true rfl)) dX4_startsGroup_38 ⟨Nat.le_of_ble_eq_true rfl, Nat.le_of_ble_eq_true rfl⟩)) (fun r f_12 => ?_)
      obtain rfl := f_12
      refine lv_icmp_le (tgt := 48) hx hb dX4_startsGroup_41 (by decide) (fun c_13 => ?_) (fun c_13 => ?_)
      · refine lv_iconst (v := 0) hx hb dX4_startsGroup_48 (by decide) ?_
        exact W.zret (v := 0) (ty := .boolean) hx hb hr rfl (fun t ht hW => ⟨0, rfl, (by first | exact Or.inl ⟨rfl, jst_1 (by first | exact Or.inl (by assumption) | exact Or.inr (by assumption)) (by assumption)⟩ | exact Or.inr ⟨rfl, jst_0 (by first | exact Or.inr (by assumption) | exact Or.inl ⟨by assumption, by assumption⟩)⟩), ht⟩) (fun _ h => nomatch h) dX4_startsGroup_49
      · refine lv_iconst (v := 1) hx hb dX4_startsGroup_44 (by decide) ?_
        refine lv_goto (tgt := 49) hx hb dX4_startsGroup_45 (by decide) ?_
        exact W.zret (v := 1) (ty := .boolean) hx hb hr rfl (fun t ht hW => ⟨1, rfl, (by first | exact Or.inl ⟨rfl, jst_1 (by first | exact Or.inl (by assumption) | exact Or.inr (by assumption)) (by assumption)⟩ | exact Or.inr ⟨rfl, jst_0 (by first | exact Or.inr (by assumption) | exact Or.inl ⟨by assumption, by assumption⟩)⟩), ht⟩) (fun _ h => nomatch h) dX4_startsGroup_49
set_option maxHeartbeats 1000000 in
set_option maxRecDepth 100000 in
theorem gT_groupStarts (l : Launch) (D : va_G) (cI cL cQ : ClassId) (h0 : Nat) (a : Nat) (n : Nat) (pl : Nat) (ak : Nat) (av : Nat) (ao : Nat) (ap : Nat) (al : Nat) (af : Nat) (fk : Nat → Int32) (fo : Nat → Int32) (fp : Nat → Int32) (ha : a ≤ 400) (hn : n ≤ a) (ho : jord a fo) : Met l yX4_groupStarts wsX4_groupStarts ({ frames := 3, cells := 0, slots := 0, locals := 64 }) (jr_P D vwCl (jT cI cL cQ) cL cQ [.ref h0] [(h0, .inr (4, [.int (nI a), .ref ak, .ref av, .ref ao, .ref ap, .ref al, .ref af, .int (nI n), .int (nI pl)])), (ak, .inl (cI, a, .inl fk)), (ao, .inl (cI, a, .inl fo)), (ap, .inl (cI, a + 1, .inl fp))]) (vp_Si (fun r : Int32 => r = nI (jgs n fk fo fp n))) 0 0 (fun _ => False) := by
  refine Met.ofW (cc := cX4_groupStarts) (maxL := 3) (ret := (some .int)) (by decide) rfl ?_
  intro p e s m args below meth c s₁ B hml hv
  obtain ⟨rfl, hP, hK, hN⟩ := hv
  have hx := B.exec
  have hb := B.bytes
  have hr := B.returns
  have hts := atoms_spec (ws := wsX4_groupStarts) B.pre
  have hown : s.vm.findClass RX4 = some m.cls := findClass_of_methodNamed B.named
  have hlocks := B.notSynchronized
  have hl := lv_entry ([.ref h0]) (n := 3) (Nat.le_of_ble_eq_true rfl)
  rw [lg_entry_eq]
  generalize (lg_sl ([.ref h0]) ++ List.replicate (3 - (lg_sl ([.ref h0])).length) Slot.unset).toArray = ls at hl ⊢
  have hl : lv_has ls 3 [(0, .ref h0)] := hl
  refine lv_iconst (v := 0) hx hb dX4_groupStarts_0 (by decide) ?_
  refine lv_istore_n (lv' := [(1, .int 0), (0, .ref h0)]) hx hb dX4_groupStarts_1 rfl hl (by decide) rfl (fun ls hl => ?_)
  refine lv_iconst (v := 0) hx hb dX4_groupStarts_2 (by decide) ?_
  refine lv_istore_n (lv' := [(2, .int 0), (1, .int 0), (0, .ref h0)]) hx hb dX4_groupStarts_3 rfl hl (by decide) rfl (fun ls hl => ?_)
  have hloop_1 : ∀ (k_1 : Nat) (i : Nat) (z : Nat), n - i < k_1 → (i ≤ n) → (z = jgs n fk fo fp i) → ∀ ls : Array Slot, lv_has ls 3 [(0, .ref h0), (1, .int (nI z)), (2, .int (nI i))] → W p l e (headSpec wsX4_groupStarts ({ frames := 3, cells := 0, slots := 0, locals := 64 })).room s m #[.ref h0] below meth c s.heap [] 0 0 (MQ below (vp_Si (fun r : Int32 => r = nI (jgs n fk fo fp n))) #[.ref h0] s 0 0 (fun _ => False)) (F0 m 4 ls []) := by
    intro k_1
    induction k_1 with
    | zero => exact fun _ _ hm => absurd hm (Nat.not_lt_zero _)
    | succ k_1 ih_1 =>
      intro i z hm1 hi hz ls hl
      refine lv_iload_n hx hb dX4_groupStarts_4 rfl (lv_at hl 2 rfl) ?_
      refine lv_aload_n hx hb dX4_groupStarts_5 rfl (lv_at hl 0 rfl) ?_
      refine va_get (D := D) (ci := 4) (v := .int (nI n)) (C := RX4) (T := TX4) (N := 9) hx hb hts (by decide +kernel) hown hK hP 0 rfl rfl 7 (by decide) (hts (.fieldLink RX4 34 "JoinDesk$Table" "size" "I") (by decide +kernel)) (fun _ h9 => h9) rfl dX4_groupStarts_6 ?_
      refine lv_icmp_ge (tgt := 29) hx hb dX4_groupStarts_9 (by decide) (fun cge => ?_) (fun cge => ?_)
      · refine lv_iload_n hx hb dX4_groupStarts_29 rfl (lv_at hl 1 rfl) ?_
        exact W.iret (v := nI z) hx hb hr (fun t ht hW => ⟨(nI z), rfl, (by rw [nI_leI (by omega) (by omega)] at cge; rw [hz, show i = n by omega]), ht⟩) (fun _ h => nomatch h) dX4_groupStarts_30
      · refine lv_aload_n hx hb dX4_groupStarts_12 rfl (lv_at hl 0 rfl) ?_
        refine lv_iload_n hx hb dX4_groupStarts_13 rfl (lv_at hl 2 rfl) ?_
        refine vp_callSi (va_Run.run (va_runV (As := [.int (nI i)]) (rest := []) ⟨hx, hb, hml, hown, hts⟩ (gT_startsGroup l D cI cL cQ h0 a n pl ak av ao ap al af fk fo fp (nI i) (by first | assumption | decide | omega) (by first | assumption | decide | omega) (by first | assumption | decide | omega)) (cwV 1 hts gX4_groupStarts_X4_startsGroup rfl rfl rfl (by decide +kernel) ⟨Nat.le_of_ble_eq_true rfl, Nat.le_of_ble_eq_true rfl⟩) (jr_V hK hN hP [0, 1, 2, 3] rfl 4 0 rfl rfl rfl) rfl rfl hl.1 rfl (lv_room (Nat.le_of_ble_eq_true rfl)) dX4_groupStarts_14 ⟨Nat.le_of_ble_eq_true rfl, Nat.le_of_ble_eq_true rfl⟩)) (fun r f_1 => ?_)
        rcases f_1 with ⟨rfl, f_2⟩ | ⟨rfl, f_3⟩
        · refine lv_if_eq (tgt := 23) hx hb dX4_groupStarts_17 (by decide) (fun c_4 => absurd c_4 (by decide)) (fun c_4 => ?_)
          refine lv_iinc (v := nI (z + 1)) (lv' := [(1, .int (nI (z + 1))), (0, .ref h0), (2, .int (nI i))]) hx hb dX4_groupStarts_20 hl (k := 1) rfl (nI_1 _) (by decide) rfl (fun ls hl => ?_)
          refine lv_iinc (v := nI (i + 1)) (lv' := [(2, .int (nI (i + 1))), (1, .int (nI (z + 1))), (0, .ref h0)]) hx hb dX4_groupStarts_23 hl (k := 2) rfl (nI_1 _) (by decide) rfl (fun ls hl => ?_)
          refine lv_goto (tgt := 4) hx hb dX4_groupStarts_26 (by decide) ?_
          exact ih_1 (i + 1) (z + 1) (by rw [nI_leI (by omega) (by omega)] at cge; omega) (by rw [nI_leI (by omega) (by omega)] at cge; omega) (by first | exact jgs_1 (by assumption) hz | exact jgs_0 (by assumption) hz) ls (lv_sub hl [2, 1, 0] rfl)
        · refine lv_if_eq (tgt := 23) hx hb dX4_groupStarts_17 (by decide) (fun c_5 => ?_) (fun c_5 => absurd c_5 (by decide))
          refine lv_iinc (v := nI (i + 1)) (lv' := [(2, .int (nI (i + 1))), (0, .ref h0), (1, .int (nI z))]) hx hb dX4_groupStarts_23 hl (k := 2) rfl (nI_1 _) (by decide) rfl (fun ls hl => ?_)
          refine lv_goto (tgt := 4) hx hb dX4_groupStarts_26 (by decide) ?_
          exact ih_1 (i + 1) z (by rw [nI_leI (by omega) (by omega)] at cge; omega) (by rw [nI_leI (by omega) (by omega)] at cge; omega) (by first | exact jgs_1 (by assumption) hz | exact jgs_0 (by assumption) hz) ls (lv_sub hl [1, 2, 0] rfl)
  exact hloop_1 (n - 0 + 1) 0 0 (Nat.lt_succ_self _) (Nat.zero_le _) (rfl) ls (lv_sub hl [2, 1, 0] rfl)
