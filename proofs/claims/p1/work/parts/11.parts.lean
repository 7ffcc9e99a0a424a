set_option maxHeartbeats 1000000 in
set_option maxRecDepth 100000 in
theorem cP_init (l : Launch) (D : va_G) (cI cL cQ : ClassId) (h0 : Nat) (sz : Nat) : Met l yX2_init wsX2_init ({ frames := 1, cells := 0, slots := 0, locals := 12 }) (jw_P D vwCl (jT cI cL cQ) cL cQ [.ref h0] [(h0, .inr (2, [.int 0, .int 0, .int 0, .int 0, .int 0, .int 0, .int 0]))] sz) (va_Qv (fun u : va_W => u = [(h0, .inr (2, [.int 0, .int 0, .int 0, .int 0, .int (-1), .int (-1), .int 0]))]) (jw_B D vwCl (va_A [(h0, .inr (2, [.int 0, .int 0, .int 0, .int 0, .int 0, .int 0, .int 0]))] sz) (fun u : va_W => u)) (va_A [(h0, .inr (2, [.int 0, .int 0, .int 0, .int 0, .int 0, .int 0, .int 0]))] sz)) 0 0 (va_A [(h0, .inr (2, [.int 0, .int 0, .int 0, .int 0, .int 0, .int 0, .int 0]))] sz) := by
  refine Met.ofW (cc := cX2_init) (maxL := 1) (ret := none) (by decide) rfl ?_
  intro p e s m args below meth c s₁ B hml hv
  obtain ⟨rfl, hsz, hP, hK, hN, hD0⟩ := hv
  have hx := B.exec
  have hb := B.bytes
  have hr := B.returns
  have hts := atoms_spec (ws := wsX2_init) B.pre
  have hown : s.vm.findClass RX2 = some m.cls := findClass_of_methodNamed B.named
  have hlocks := B.notSynchronized
  have hin : meth.name = "<init>" := (name_of_methodNamed B.named B.method).1
  subst hsz
  have hD := hD0.self (sz := s.heap.size)
  generalize hAe : va_A [(h0, .inr (2, [.int 0, .int 0, .int 0, .int 0, .int 0, .int 0, .int 0]))] s.heap.size = A at hD ⊢
  have hA : ∀ q : Nat, s.heap.size ≤ q → A q := fun q h => by rw [← hAe]; exact Or.inr h
  have hS : va_S A s.heap s.heap [] := va_S.rf
  have hl := lv_entry ([.ref h0]) (n := 1) (Nat.le_of_ble_eq_true rfl)
  rw [lg_entry_eq]
  generalize (lg_sl ([.ref h0]) ++ List.replicate (1 - (lg_sl ([.ref h0])).length) Slot.unset).toArray = ls at hl ⊢
  have hl : lv_has ls 1 [(0, .ref h0)] := hl
  refine lv_aload_n hx hb dX2_init_0 rfl (lv_at hl 0 rfl) ?_
  refine W.objInit hx hb hown (hts (.methodLink RX2 3 objectInit) (by decide +kernel)) (hts (.instanceMethod objectInit) (by decide +kernel)) (hts (.code objectInit ⟨#[0xb1]⟩ 1 none) (by decide +kernel)) rfl (by rw [hml]; exact hl.1) rfl dX2_init_1 (Nat.le_of_ble_eq_true rfl) (Nat.le_of_ble_eq_true rfl) ?_
  refine W.eq (g2 := F0 m 4 ls []) rfl ?_
  refine lv_aload_n hx hb dX2_init_4 rfl (lv_at hl 0 rfl) ?_
  refine lv_iconst (v := (-1)) hx hb dX2_init_5 (by decide) ?_
  refine va_put (D := D) (ci := 2) (v := .int (-1)) (ty := .int) (C := RX2) (T := TX2) (N := 7) hx hb hts (by decide +kernel) tyX2 tyX2_ok nmX2 hown hK hP hD hS 0 rfl rfl 4 (by decide) (hts (.fieldLink RX2 9 "JoinDesk$Position" "leftAt" "I") (by decide +kernel)) (fun _ h9 => h9) rfl (by decide +kernel) rfl rfl (Nat.le_of_ble_eq_true rfl) dX2_init_6 (fun H locs hP hD hS => ?_)
  have hP : va_P D vwCl [(h0, .inr (2, [.int 0, .int 0, .int 0, .int 0, .int (-1), .int 0, .int 0]))] H := hP
  have hD : va_D A [(h0, .inr (2, [.int 0, .int 0, .int 0, .int 0, .int (-1), .int 0, .int 0]))] := hD
  refine lv_aload_n hx hb dX2_init_9 rfl (lv_at hl 0 rfl) ?_
  refine lv_iconst (v := (-1)) hx hb dX2_init_10 (by decide) ?_
  refine va_put (D := D) (ci := 2) (v := .int (-1)) (ty := .int) (C := RX2) (T := TX2) (N := 7) hx hb hts (by decide +kernel) tyX2 tyX2_ok nmX2 hown hK hP hD hS 0 rfl rfl 5 (by decide) (hts (.fieldLink RX2 15 "JoinDesk$Position" "rightAt" "I") (by decide +kernel)) (fun _ h9 => h9) rfl (by decide +kernel) rfl rfl (Nat.le_of_ble_eq_true rfl) dX2_init_11 (fun H locs hP hD hS => ?_)
  have hP : va_P D vwCl [(h0, .inr (2, [.int 0, .int 0, .int 0, .int 0, .int (-1), .int (-1), .int 0]))] H := hP
  have hD : va_D A [(h0, .inr (2, [.int 0, .int 0, .int 0, .int 0, .int (-1), .int (-1), .int 0]))] := hD
  refine W.widen (k := 0) (n := 0) (by omega) (by omega) ?_
  exact W.vret hx hb hr (fun t ht hW => ⟨⟨[(h0, .inr (2, [.int 0, .int 0, .int 0, .int 0, .int (-1), .int (-1), .int 0]))], rfl, (by exact rfl), by rw [ht]; exact hP, hD⟩, hS.F ht⟩) hS.2.2 dX2_init_14
set_option maxHeartbeats 1000000 in
set_option maxRecDepth 100000 in
theorem cP_stand (l : Launch) (D : va_G) (cI cL cQ : ClassId) (h0 : Nat) (p0 : Int32) (p1 : Int32) (p2 : Int32) (p3 : Int32) (p4 : Int32) (p5 : Int32) (p6 : Int32) (x : Int32) (y : Int32) (z : Int32) (sz : Nat) : Met l yX2_stand wsX2_stand ({ frames := 0, cells := 0, slots := 0, locals := 0 }) (jw_P D vwCl (jT cI cL cQ) cL cQ [.ref h0, .int x, .int y, .int z] [(h0, .inr (2, [.int p0, .int p1, .int p2, .int p3, .int p4, .int p5, .int p6]))] sz) (va_Qv (fun u : va_W => u = [(h0, .inr (2, [.int x, .int x, .int y, .int y, .int (-1), .int (-1), .int z]))]) (jw_B D vwCl (va_A [(h0, .inr (2, [.int p0, .int p1, .int p2, .int p3, .int p4, .int p5, .int p6]))] sz) (fun u : va_W => u)) (va_A [(h0, .inr (2, [.int p0, .int p1, .int p2, .int p3, .int p4, .int p5, .int p6]))] sz)) 0 0 (va_A [(h0, .inr (2, [.int p0, .int p1, .int p2, .int p3, .int p4, .int p5, .int p6]))] sz) := by
  refine Met.ofW (cc := cX2_stand) (maxL := 4) (ret := none) (by decide) rfl ?_
  intro p e s m args below meth c s₁ B hml hv
  obtain ⟨rfl, hsz, hP, hK, hN, hD0⟩ := hv
  have hx := B.exec
  have hb := B.bytes
  have hr := B.returns
  have hts := atoms_spec (ws := wsX2_stand) B.pre
  have hown : s.vm.findClass RX2 = some m.cls := findClass_of_methodNamed B.named
  have hlocks := B.notSynchronized
  subst hsz
  have hD := hD0.self (sz := s.heap.size)
  generalize hAe : va_A [(h0, .inr (2, [.int p0, .int p1, .int p2, .int p3, .int p4, .int p5, .int p6]))] s.heap.size = A at hD ⊢
  have hA : ∀ q : Nat, s.heap.size ≤ q → A q := fun q h => by rw [← hAe]; exact Or.inr h
  have hS : va_S A s.heap s.heap [] := va_S.rf
  have hl := lv_entry ([.ref h0, .int x, .int y, .int z]) (n := 4) (Nat.le_of_ble_eq_true rfl)
  rw [lg_entry_eq]
  generalize (lg_sl ([.ref h0, .int x, .int y, .int z]) ++ List.replicate (4 - (lg_sl ([.ref h0, .int x, .int y, .int z])).length) Slot.unset).toArray = ls at hl ⊢
  have hl : lv_has ls 4 [(0, .ref h0), (1, .int x), (2, .int y), (3, .int z)] := hl
  refine lv_aload_n hx hb dX2_stand_0 rfl (lv_at hl 0 rfl) ?_
  refine lv_iload_n hx hb dX2_stand_1 rfl (lv_at hl 1 rfl) ?_
  refine va_put (D := D) (ci := 2) (v := .int x) (ty := .int) (C := RX2) (T := TX2) (N := 7) hx hb hts (by decide +kernel) tyX2 tyX2_ok nmX2 hown hK hP hD hS 0 rfl rfl 0 (by decide) (hts (.fieldLink RX2 18 "JoinDesk$Position" "leftFrom" "I") (by decide +kernel)) (fun _ h9 => h9) rfl (by decide +kernel) rfl rfl (Nat.le_of_ble_eq_true rfl) dX2_stand_2 (fun H locs hP hD hS => ?_)
  have hP : va_P D vwCl [(h0, .inr (2, [.int x, .int p1, .int p2, .int p3, .int p4, .int p5, .int p6]))] H := hP
  have hD : va_D A [(h0, .inr (2, [.int x, .int p1, .int p2, .int p3, .int p4, .int p5, .int p6]))] := hD
  refine lv_aload_n hx hb dX2_stand_5 rfl (lv_at hl 0 rfl) ?_
  refine lv_iload_n hx hb dX2_stand_6 rfl (lv_at hl 1 rfl) ?_
  refine va_put (D := D) (ci := 2) (v := .int x) (ty := .int) (C := RX2) (T := TX2) (N := 7) hx hb hts (by decide +kernel) tyX2 tyX2_ok nmX2 hown hK hP hD hS 0 rfl rfl 1 (by decide) (hts (.fieldLink RX2 21 "JoinDesk$Position" "leftTo" "I") (by decide +kernel)) (fun _ h9 => h9) rfl (by decide +kernel) rfl rfl (Nat.le_of_ble_eq_true rfl) dX2_stand_7 (fun H locs hP hD hS => ?_)
  have hP : va_P D vwCl [(h0, .inr (2, [.int x, .int x, .int p2, .int p3, .int p4, .int p5, .int p6]))] H := hP
  have hD : va_D A [(h0, .inr (2, [.int x, .int x, .int p2, .int p3, .int p4, .int p5, .int p6]))] := hD
  refine lv_aload_n hx hb dX2_stand_10 rfl (lv_at hl 0 rfl) ?_
  refine lv_iload_n hx hb dX2_stand_11 rfl (lv_at hl 2 rfl) ?_
  refine va_put (D := D) (ci := 2) (v := .int y) (ty := .int) (C := RX2) (T := TX2) (N := 7) hx hb hts (by decide +kernel) tyX2 tyX2_ok nmX2 hown hK hP hD hS 0 rfl rfl 2 (by decide) (hts (.fieldLink RX2 24 "JoinDesk$Position" "rightFrom" "I") (by decide +kernel)) (fun _ h9 => h9) rfl (by decide +kernel) rfl rfl (Nat.le_of_ble_eq_true rfl) dX2_stand_12 (fun H locs hP hD hS => ?_)
  have hP : va_P D vwCl [(h0, .inr (2, [.int x, .int x, .int y, .int p3, .int p4, .int p5, .int p6]))] H := hP
  have hD : va_D A [(h0, .inr (2, [.int x, .int x, .int y, .int p3, .int p4, .int p5, .int p6]))] := hD
  refine lv_aload_n hx hb dX2_stand_15 rfl (lv_at hl 0 rfl) ?_
  refine lv_iload_n hx hb dX2_stand_16 rfl (lv_at hl 2 rfl) ?_
  refine va_put (D := D) (ci := 2) (v := .int y) (ty := .int) (C := RX2) (T := TX2) (N := 7) hx hb hts (by decide +kernel) tyX2 tyX2_ok nmX2 hown hK hP hD hS 0 rfl rfl 3 (by decide) (hts (.fieldLink RX2 27 "JoinDesk$Position" "rightTo" "I") (by decide +kernel)) (fun _ h9 => h9) rfl (by decide +kernel) rfl rfl (Nat.le_of_ble_eq_true rfl) dX2_stand_17 (fun H locs hP hD hS => ?_)
  have hP : va_P D vwCl [(h0, .inr (2, [.int x, .int x, .int y, .int y, .int p4, .int p5, .int p6]))] H := hP
  have hD : va_D A [(h0, .inr (2, [.int x, .int x, .int y, .int y, .int p4, .int p5, .int p6]))] := hD
  refine lv_aload_n hx hb dX2_stand_20 rfl (lv_at hl 0 rfl) ?_
  refine lv_iconst (v := (-1)) hx hb dX2_stand_21 (by decide) ?_
  refine va_put (D := D) (ci := 2) (v := .int (-1)) (ty := .int) (C := RX2) (T := TX2) (N := 7) hx hb hts (by decide +kernel) tyX2 tyX2_ok nmX2 hown hK hP hD hS 0 rfl rfl 4 (by decide) (hts (.fieldLink RX2 9 "JoinDesk$Position" "leftAt" "I") (by decide +kernel)) (fun _ h9 => h9) rfl (by decide +kernel) rfl rfl (Nat.le_of_ble_eq_true rfl) dX2_stand_22 (fun H locs hP hD hS => ?_)
  have hP : va_P D vwCl [(h0, .inr (2, [.int x, .int x, .int y, .int y, .int (-1), .int p5, .int p6]))] H := hP
  have hD : va_D A [(h0, .inr (2, [.int x, .int x, .int y, .int y, .int (-1), .int p5, .int p6]))] := hD
  refine lv_aload_n hx hb dX2_stand_25 rfl (lv_at hl 0 rfl) ?_
  refine lv_iconst (v := (-1)) hx hb dX2_stand_26 (by decide) ?_
  refine va_put (D := D) (ci := 2) (v := .int (-1)) (ty := .int) (C := RX2) (T := TX2) (N := 7) hx hb hts (by decide +kernel) tyX2 tyX2_ok nmX2 hown hK hP hD hS 0 rfl rfl 5 (by decide) (hts (.fieldLink RX2 15 "JoinDesk$Position" "rightAt" "I") (by decide +kernel)) (fun _ h9 => h9) rfl (by decide +kernel) rfl rfl (Nat.le_of_ble_eq_true rfl) dX2_stand_27 (fun H locs hP hD hS => ?_)
  have hP : va_P D vwCl [(h0, .inr (2, [.int x, .int x, .int y, .int y, .int (-1), .int (-1), .int p6]))] H := hP
  have hD : va_D A [(h0, .inr (2, [.int x, .int x, .int y, .int y, .int (-1), .int (-1), .int p6]))] := hD
  refine lv_aload_n hx hb dX2_stand_30 rfl (lv_at hl 0 rfl) ?_
  refine lv_iload_n hx hb dX2_stand_31 rfl (lv_at hl 3 rfl) ?_
  refine va_put (D := D) (ci := 2) (v := .int z) (ty := .int) (C := RX2) (T := TX2) (N := 7) hx hb hts (by decide +kernel) tyX2 tyX2_ok nmX2 hown hK hP hD hS 0 rfl rfl 6 (by decide) (hts (.fieldLink RX2 30 "JoinDesk$Position" "passed" "I") (by decide +kernel)) (fun _ h9 => h9) rfl (by decide +kernel) rfl rfl (Nat.le_of_ble_eq_true rfl) dX2_stand_32 (fun H locs hP hD hS => ?_)
  have hP : va_P D vwCl [(h0, .inr (2, [.int x, .int x, .int y, .int y, .int (-1), .int (-1), .int z]))] H := hP
  have hD : va_D A [(h0, .inr (2, [.int x, .int x, .int y, .int y, .int (-1), .int (-1), .int z]))] := hD
  refine W.widen (k := 0) (n := 0) (by omega) (by omega) ?_
  exact W.vret hx hb hr (fun t ht hW => ⟨⟨[(h0, .inr (2, [.int x, .int x, .int y, .int y, .int (-1), .int (-1), .int z]))], rfl, (by exact rfl), by rw [ht]; exact hP, hD⟩, hS.F ht⟩) hS.2.2 dX2_stand_35
set_option maxHeartbeats 1000000 in
set_option maxRecDepth 100000 in
theorem cS_init (l : Launch) (D : va_G) (cI cL cQ : ClassId) (h0 : Nat) (sz : Nat) : Met l yX3_init wsX3_init ({ frames := 1, cells := 0, slots := 0, locals := 12 }) (jw_P D vwCl (jT cI cL cQ) cL cQ [.ref h0] [(h0, .inr (3, [.int 0, .long 0, .long 0, .long 0]))] sz) (va_Qv (fun u : va_W => u = [(h0, .inr (3, [.int 0, .long 0, .long 0, .long 0]))]) (jw_B D vwCl (va_A [(h0, .inr (3, [.int 0, .long 0, .long 0, .long 0]))] sz) (fun u : va_W => u)) (va_A [(h0, .inr (3, [.int 0, .long 0, .long 0, .long 0]))] sz)) 0 0 (va_A [(h0, .inr (3, [.int 0, .long 0, .long 0, .long 0]))] sz) := by
  refine Met.ofW (cc := cX3_init) (maxL := 1) (ret := none) (by decide) rfl ?_
  intro p e s m args below meth c s₁ B hml hv
  obtain ⟨rfl, hsz, hP, hK, hN, hD0⟩ := hv
  have hx := B.exec
  have hb := B.bytes
  have hr := B.returns
  have hts := atoms_spec (ws := wsX3_init) B.pre
  have hown : s.vm.findClass RX3 = some m.cls := findClass_of_methodNamed B.named
  have hlocks := B.notSynchronized
  have hin : meth.name = "<init>" := (name_of_methodNamed B.named B.method).1
  subst hsz
  have hD := hD0.self (sz := s.heap.size)
  generalize hAe : va_A [(h0, .inr (3, [.int 0, .long 0, .long 0, .long 0]))] s.heap.size = A at hD ⊢
  have hA : ∀ q : Nat, s.heap.size ≤ q → A q := fun q h => by rw [← hAe]; exact Or.inr h
  have hS : va_S A s.heap s.heap [] := va_S.rf
  have hl := lv_entry ([.ref h0]) (n := 1) (Nat.le_of_ble_eq_true rfl)
  rw [lg_entry_eq]
  generalize (lg_sl ([.ref h0]) ++ List.replicate (1 - (lg_sl ([.ref h0])).length) Slot.unset).toArray = ls at hl ⊢
  have hl : lv_has ls 1 [(0, .ref h0)] := hl
  refine lv_aload_n hx hb dX3_init_0 rfl (lv_at hl 0 rfl) ?_
  refine W.objInit hx hb hown (hts (.methodLink RX3 1 objectInit) (by decide +kernel)) (hts (.instanceMethod objectInit) (by decide +kernel)) (hts (.code objectInit ⟨#[0xb1]⟩ 1 none) (by decide +kernel)) rfl (by rw [hml]; exact hl.1) rfl dX3_init_1 (Nat.le_of_ble_eq_true rfl) (Nat.le_of_ble_eq_true rfl) ?_
  refine W.eq (g2 := F0 m 4 ls []) rfl ?_
  refine W.widen (k := 0) (n := 0) (by omega) (by omega) ?_
  exact W.vret hx hb hr (fun t ht hW => ⟨⟨[(h0, .inr (3, [.int 0, .long 0, .long 0, .long 0]))], rfl, (by exact rfl), by rw [ht]; exact hP, hD⟩, hS.F ht⟩) hS.2.2 dX3_init_4
set_option maxHeartbeats 1000000 in
set_option maxRecDepth 100000 in
theorem cC_kindInUse (l : Launch) (D : va_G) (cI cL cQ : ClassId) (h0 : Nat) (tl : Nat) (tr : Nat) (he : Nat) (ma : Nat) (hm : Int32) (kd : Int32) (cc0 : Int64) : Met l yX0_kindInUse wsX0_kindInUse ({ frames := 0, cells := 0, slots := 0, locals := 0 }) (jr_P D vwCl (jT cI cL cQ) cL cQ [.ref h0] [(h0, .inr (0, [.ref tl, .ref tr, .ref he, .ref ma, .int hm, .int kd, .long cc0]))]) (vp_Si (fun r : Int32 => r = kd)) 0 0 (fun _ => False) := by
  refine Met.ofW (cc := cX0_kindInUse) (maxL := 1) (ret := (some .int)) (by decide) rfl ?_
  intro p e s m args below meth c s₁ B hml hv
  obtain ⟨rfl, hP, hK, hN⟩ := hv
  have hx := B.exec
  have hb := B.bytes
  have hr := B.returns
  have hts := atoms_spec (ws := wsX0_kindInUse) B.pre
  have hown : s.vm.findClass RX0 = some m.cls := findClass_of_methodNamed B.named
  have hlocks := B.notSynchronized
  have hl := lv_entry ([.ref h0]) (n := 1) (Nat.le_of_ble_eq_true rfl)
  rw [lg_entry_eq]
  generalize (lg_sl ([.ref h0]) ++ List.replicate (1 - (lg_sl ([.ref h0])).length) Slot.unset).toArray = ls at hl ⊢
  have hl : lv_has ls 1 [(0, .ref h0)] := hl
  refine lv_aload_n hx hb dX0_kindInUse_0 rfl (lv_at hl 0 rfl) ?_
  refine va_get (D := D) (ci := 0) (v := .int kd) (C := RX0) (T := TX0) (N := 7) hx hb hts (by decide +kernel) hown hK hP 0 rfl rfl 5 (by decide) (hts (.fieldLink RX0 32 "JoinDesk$Cursor" "kind" "I") (by decide +kernel)) (fun _ h9 => h9) rfl dX0_kindInUse_1 ?_
  exact W.iret (v := kd) hx hb hr (fun t ht hW => ⟨kd, rfl, (by exact rfl), ht⟩) (fun _ h => nomatch h) dX0_kindInUse_4
set_option maxHeartbeats 1000000 in
set_option maxRecDepth 100000 in
theorem cC_cellsRead (l : Launch) (D : va_G) (cI cL cQ : ClassId) (h0 : Nat) (tl : Nat) (tr : Nat) (he : Nat) (ma : Nat) (hm : Int32) (kd : Int32) (cc0 : Int64) : Met l yX0_cellsRead wsX0_cellsRead ({ frames := 0, cells := 0, slots := 0, locals := 0 }) (jr_P D vwCl (jT cI cL cQ) cL cQ [.ref h0] [(h0, .inr (0, [.ref tl, .ref tr, .ref he, .ref ma, .int hm, .int kd, .long cc0]))]) (vp_Sl (fun r : Int64 => r = cc0)) 0 0 (fun _ => False) := by
  refine Met.ofW (cc := cX0_cellsRead) (maxL := 1) (ret := (some .long)) (by decide) rfl ?_
  intro p e s m args below meth c s₁ B hml hv
  obtain ⟨rfl, hP, hK, hN⟩ := hv
  have hx := B.exec
  have hb := B.bytes
  have hr := B.returns
  have hts := atoms_spec (ws := wsX0_cellsRead) B.pre
  have hown : s.vm.findClass RX0 = some m.cls := findClass_of_methodNamed B.named
  have hlocks := B.notSynchronized
  have hl := lv_entry ([.ref h0]) (n := 1) (Nat.le_of_ble_eq_true rfl)
  rw [lg_entry_eq]
  generalize (lg_sl ([.ref h0]) ++ List.replicate (1 - (lg_sl ([.ref h0])).length) Slot.unset).toArray = ls at hl ⊢
  have hl : lv_has ls 1 [(0, .ref h0)] := hl
  refine lv_aload_n hx hb dX0_cellsRead_0 rfl (lv_at hl 0 rfl) ?_
  refine va_get (D := D) (ci := 0) (v := .long cc0) (C := RX0) (T := TX0) (N := 7) hx hb hts (by decide +kernel) hown hK hP 0 rfl rfl 6 (by decide) (hts (.fieldLink RX0 36 "JoinDesk$Cursor" "cells" "J") (by decide +kernel)) (fun _ h9 => h9) rfl dX0_cellsRead_1 ?_
  exact W.lret (v := cc0) hx hb hr (fun t ht hW => ⟨cc0, rfl, (by exact rfl), ht⟩) (fun _ h => nomatch h) dX0_cellsRead_4
set_option maxHeartbeats 1000000 in
set_option maxRecDepth 100000 in
theorem cC_useKind (l : Launch) (D : va_G) (cI cL cQ : ClassId) (h0 : Nat) (tl : Nat) (tr : Nat) (he : Nat) (ma : Nat) (hm : Int32) (kd : Int32) (cc0 : Int64) (x : Int32) (sz : Nat) : Met l yX0_useKind wsX0_useKind ({ frames := 0, cells := 0, slots := 0, locals := 0 }) (jw_P D vwCl (jT cI cL cQ) cL cQ [.ref h0, .int x] [(h0, .inr (0, [.ref tl, .ref tr, .ref he, .ref ma, .int hm, .int kd, .long cc0]))] sz) (va_Qv (fun u : va_W => u = [(h0, .inr (0, [.ref tl, .ref tr, .ref he, .ref ma, .int hm, .int x, .long cc0]))]) (jw_B D vwCl (va_A [(h0, .inr (0, [.ref tl, .ref tr, .ref he, .ref ma, .int hm, .int kd, .long cc0]))] sz) (fun u : va_W => u)) (va_A [(h0, .inr (0, [.ref tl, .ref tr, .ref he, .ref ma, .int hm, .int kd, .long cc0]))] sz)) 0 0 (va_A [(h0, .inr (0, [.ref tl, .ref tr, .ref he, .ref ma, .int hm, .int kd, .long cc0]))] sz) := by
  refine Met.ofW (cc := cX0_useKind) (maxL := 2) (ret := none) (by decide) rfl ?_
  intro p e s m args below meth c s₁ B hml hv
  obtain ⟨rfl, hsz, hP, hK, hN, hD0⟩ := hv
  have hx := B.exec
  have hb := B.bytes
  have hr := B.returns
  have hts := atoms_spec (ws := wsX0_useKind) B.pre
  have hown : s.vm.findClass RX0 = some m.cls := findClass_of_methodNamed B.named
  have hlocks := B.notSynchronized
  subst hsz
  have hD := hD0.self (sz := s.heap.size)
  generalize hAe : va_A [(h0, .inr (0, [.ref tl, .ref tr, .ref he, .ref ma, .int hm, .int kd, .long cc0]))] s.heap.size = A at hD ⊢
  have hA : ∀ q : Nat, s.heap.size ≤ q → A q := fun q h => by rw [← hAe]; exact Or.inr h
  have hS : va_S A s.heap s.heap [] := va_S.rf
  have hl := lv_entry ([.ref h0, .int x]) (n := 2) (Nat.le_of_ble_eq_true rfl)
  rw [lg_entry_eq]
  generalize (lg_sl ([.ref h0, .int x]) ++ List.replicate (2 - (lg_sl ([.ref h0, .int x])).length) Slot.unset).toArray = ls at hl ⊢
  have hl : lv_has ls 2 [(0, .ref h0), (1, .int x)] := hl
  refine lv_aload_n hx hb dX0_useKind_0 rfl (lv_at hl 0 rfl) ?_
  refine lv_iload_n hx hb dX0_useKind_1 rfl (lv_at hl 1 rfl) ?_
  refine va_put (D := D) (ci := 0) (v := .int x) (ty := .int) (C := RX0) (T := TX0) (N := 7) hx hb hts (by decide +kernel) tyX0 tyX0_ok nmX0 hown hK hP hD hS 0 rfl rfl 5 (by decide) (hts (.fieldLink RX0 32 "JoinDesk$Cursor" "kind" "I") (by decide +kernel)) (fun _ h9 => h9) rfl (by decide +kernel) rfl rfl (Nat.le_of_ble_eq_true rfl) dX0_useKind_2 (fun H locs hP hD hS => ?_)
  have hP : va_P D vwCl [(h0, .inr (0, [.ref tl, .ref tr, .ref he, .ref ma, .int hm, .int x, .long cc0]))] H := hP
  have hD : va_D A [(h0, .inr (0, [.ref tl, .ref tr, .ref he, .ref ma, .int hm, .int x, .long cc0]))] := hD
  refine W.widen (k := 0) (n := 0) (by omega) (by omega) ?_
  exact W.vret hx hb hr (fun t ht hW => ⟨⟨[(h0, .inr (0, [.ref tl, .ref tr, .ref he, .ref ma, .int hm, .int x, .long cc0]))], rfl, (by exact rfl), by rw [ht]; exact hP, hD⟩, hS.F ht⟩) hS.2.2 dX0_useKind_5
set_option maxHeartbeats 1000000 in
set_option maxRecDepth 100000 in
theorem cC_forgetMark (l : Launch) (D : va_G) (cI cL cQ : ClassId) (h0 : Nat) (tl : Nat) (tr : Nat) (he : Nat) (ma : Nat) (hm : Int32) (kd : Int32) (cc0 : Int64) (sz : Nat) : Met l yX0_forgetMark wsX0_forgetMark ({ frames := 0, cells := 0, slots := 0, locals := 0 }) (jw_P D vwCl (jT cI cL cQ) cL cQ [.ref h0] [(h0, .inr (0, [.ref tl, .ref tr, .ref he, .ref ma, .int hm, .int kd, .long cc0]))] sz) (va_Qv (fun u : va_W => u = [(h0, .inr (0, [.ref tl, .ref tr, .ref he, .ref ma, .int 0, .int kd, .long cc0]))]) (jw_B D vwCl (va_A [(h0, .inr (0, [.ref tl, .ref tr, .ref he, .ref ma, .int hm, .int kd, .long cc0]))] sz) (fun u : va_W => u)) (va_A [(h0, .inr (0, [.ref tl, .ref tr, .ref he, .ref ma, .int hm, .int kd, .long cc0]))] sz)) 0 0 (va_A [(h0, .inr (0, [.ref tl, .ref tr, .ref he, .ref ma, .int hm, .int kd, .long cc0]))] sz) := by
  refine Met.ofW (cc := cX0_forgetMark) (maxL := 1) (ret := none) (by decide) rfl ?_
  intro p e s m args below meth c s₁ B hml hv
  obtain ⟨rfl, hsz, hP, hK, hN, hD0⟩ := hv
  have hx := B.exec
  have hb := B.bytes
  have hr := B.returns
  have hts := atoms_spec (ws := wsX0_forgetMark) B.pre
  have hown : s.vm.findClass RX0 = some m.cls := findClass_of_methodNamed B.named
  have hlocks := B.notSynchronized
  subst hsz
  have hD := hD0.self (sz := s.heap.size)
  generalize hAe : va_A [(h0, .inr (0, [.ref tl, .ref tr, .ref he, .ref ma, .int hm, .int kd, .long cc0]))] s.heap.size = A at hD ⊢
  have hA : ∀ q : Nat, s.heap.size ≤ q → A q := fun q h => by rw [← hAe]; exact Or.inr h
  have hS : va_S A s.heap s.heap [] := va_S.rf
  have hl := lv_entry ([.ref h0]) (n := 1) (Nat.le_of_ble_eq_true rfl)
  rw [lg_entry_eq]
  generalize (lg_sl ([.ref h0]) ++ List.replicate (1 - (lg_sl ([.ref h0])).length) Slot.unset).toArray = ls at hl ⊢
  have hl : lv_has ls 1 [(0, .ref h0)] := hl
  refine lv_aload_n hx hb dX0_forgetMark_0 rfl (lv_at hl 0 rfl) ?_
  refine lv_iconst (v := 0) hx hb dX0_forgetMark_1 (by decide) ?_
  refine va_put (D := D) (ci := 0) (v := .int 0) (ty := .boolean) (C := RX0) (T := TX0) (N := 7) hx hb hts (by decide +kernel) tyX0 tyX0_ok nmX0 hown hK hP hD hS 0 rfl rfl 4 (by decide) (hts (.fieldLink RX0 28 "JoinDesk$Cursor" "hasMark" "Z") (by decide +kernel)) (fun _ h9 => h9) rfl (by decide +kernel) rfl rfl (Nat.le_of_ble_eq_true rfl) dX0_forgetMark_2 (fun H locs hP hD hS => ?_)
  have hP : va_P D vwCl [(h0, .inr (0, [.ref tl, .ref tr, .ref he, .ref ma, .int 0, .int kd, .long cc0]))] H := hP
  have hD : va_D A [(h0, .inr (0, [.ref tl, .ref tr, .ref he, .ref ma, .int 0, .int kd, .long cc0]))] := hD
  refine W.widen (k := 0) (n := 0) (by omega) (by omega) ?_
  exact W.vret hx hb hr (fun t ht hW => ⟨⟨[(h0, .inr (0, [.ref tl, .ref tr, .ref he, .ref ma, .int 0, .int kd, .long cc0]))], rfl, (by exact rfl), by rw [ht]; exact hP, hD⟩, hS.F ht⟩) hS.2.2 dX0_forgetMark_5
set_option maxHeartbeats 1000000 in
set_option maxRecDepth 100000 in
theorem cC_restart (l : Launch) (D : va_G) (cI cL cQ : ClassId) (h0 : Nat) (tl : Nat) (tr : Nat) (he : Nat) (ma : Nat) (hm : Int32) (kd : Int32) (cc0 : Int64) (p0 : Int32) (p1 : Int32) (p2 : Int32) (p3 : Int32) (p4 : Int32) (p5 : Int32) (p6 : Int32) (sz : Nat) : Met l yX0_restart wsX0_restart ({ frames := 1, cells := 0, slots := 0, locals := 23 }) (jw_P D vwCl (jT cI cL cQ) cL cQ [.ref h0] [(h0, .inr (0, [.ref tl, .ref tr, .ref he, .ref ma, .int hm, .int kd, .long cc0])), (he, .inr (2, [.int p0, .int p1, .int p2, .int p3, .int p4, .int p5, .int p6]))] sz) (va_Qv (fun u : va_W => u = [(h0, .inr (0, [.ref tl, .ref tr, .ref he, .ref ma, .int hm, .int kd, .long 0])), (he, .inr (2, [.int 0, .int 0, .int 0, .int 0, .int (-1), .int (-1), .int 0]))]) (jw_B D vwCl (va_A [(h0, .inr (0, [.ref tl, .ref tr, .ref he, .ref ma, .int hm, .int kd, .long cc0])), (he, .inr (2, [.int p0, .int p1, .int p2, .int p3, .int p4, .int p5, .int p6]))] sz) (fun u : va_W => u)) (va_A [(h0, .inr (0, [.ref tl, .ref tr, .ref he, .ref ma, .int hm, .int kd, .long cc0])), (he, .inr (2, [.int p0, .int p1, .int p2, .int p3, .int p4, .int p5, .int p6]))] sz)) 0 0 (va_A [(h0, .inr (0, [.ref tl, .ref tr, .ref he, .ref ma, .int hm, .int kd, .long cc0])), (he, .inr (2, [.int p0, .int p1, .int p2, .int p3, .int p4, .int p5, .int p6]))] sz) := by
  refine Met.ofW (cc := cX0_restart) (maxL := 1) (ret := none) (by decide) rfl ?_
  intro p e s m args below meth c s₁ B hml hv
  obtain ⟨rfl, hsz, hP, hK, hN, hD0⟩ := hv
  have hx := B.exec
  have hb := B.bytes
  have hr := B.returns
  have hts := atoms_spec (ws := wsX0_restart) B.pre
  have hown : s.vm.findClass RX0 = some m.cls := findClass_of_methodNamed B.named
  have hlocks := B.notSynchronized
  subst hsz
  have hD := hD0.self (sz := s.heap.size)
  generalize hAe : va_A [(h0, .inr (0, [.ref tl, .ref tr, .ref he, .ref ma, .int hm, .int kd, .long cc0])), (he, .inr (2, [.int p0, .int p1, .int p2, .int p3, .int p4, .int p5, .int p6]))] s.heap.size = A at hD ⊢
  have hA : ∀ q : Nat, s.heap.size ≤ q → A q := fun q h => by rw [← hAe]; exact Or.inr h
  have hS : va_S A s.heap s.heap [] := va_S.rf
  have hl := lv_entry ([.ref h0]) (n := 1) (Nat.le_of_ble_eq_true rfl)
  rw [lg_entry_eq]
  generalize (lg_sl ([.ref h0]) ++ List.replicate (1 - (lg_sl ([.ref h0])).length) Slot.unset).toArray = ls at hl ⊢
  have hl : lv_has ls 1 [(0, .ref h0)] := hl
  refine lv_aload_n hx hb dX0_restart_0 rfl (lv_at hl 0 rfl) ?_
  refine va_get (D := D) (ci := 0) (v := .ref he) (C := RX0) (T := TX0) (N := 7) hx hb hts (by decide +kernel) hown hK hP 0 rfl rfl 2 (by decide) (hts (.fieldLink RX0 21 "JoinDesk$Cursor" "here" "LJoinDesk$Position;") (by decide +kernel)) (fun _ h9 => h9) rfl dX0_restart_1 ?_
  refine lv_iconst (v := 0) hx hb dX0_restart_4 (by decide) ?_
  refine lv_iconst (v := 0) hx hb dX0_restart_5 (by decide) ?_
  refine lv_iconst (v := 0) hx hb dX0_restart_6 (by decide) ?_
  refine jw_v (wr := [(h0, .inr (0, [.ref tl, .ref tr, .ref he, .ref ma, .int hm, .int kd, .long cc0]))]) (va_runV (As := [.int 0, .int 0, .int 0]) (rest := []) ⟨hx, hb, hml, hown, hts⟩ (cP_stand l D cI cL cQ he p0 p1 p2 p3 p4 p5 p6 0 0 0 _) (cwV 3 hts gX0_restart_X2_stand rfl rfl rfl (by decide +kernel) ⟨Nat.le_of_ble_eq_true rfl, Nat.le_of_ble_eq_true rfl⟩) (jw_V hK hN hP hD [1] (by decide) rfl 2 1 rfl rfl rfl) rfl rfl hl.1 rfl (lv_room (Nat.le_of_ble_eq_true rfl)) dX0_restart_7 ⟨Nat.le_of_ble_eq_true rfl, Nat.le_of_ble_eq_true rfl⟩) hP hD hS hA [1] [0] rfl rfl (by decide) (by decide) (fun u H locs f_1 hP hD hS => ?_)
  obtain rfl := f_1
  have hP : va_P D vwCl [(h0, .inr (0, [.ref tl, .ref tr, .ref he, .ref ma, .int hm, .int kd, .long cc0])), (he, .inr (2, [.int 0, .int 0, .int 0, .int 0, .int (-1), .int (-1), .int 0]))] H := hP
  have hD : va_D A [(h0, .inr (0, [.ref tl, .ref tr, .ref he, .ref ma, .int hm, .int kd, .long cc0])), (he, .inr (2, [.int 0, .int 0, .int 0, .int 0, .int (-1), .int (-1), .int 0]))] := hD
  refine lv_aload_n hx hb dX0_restart_10 rfl (lv_at hl 0 rfl) ?_
  refine lv_lconst (v := 0) hx hb dX0_restart_11 (by decide) ?_
  refine va_put (D := D) (ci := 0) (v := .long 0) (ty := .long) (C := RX0) (T := TX0) (N := 7) hx hb hts (by decide +kernel) tyX0 tyX0_ok nmX0 hown hK hP hD hS 0 rfl rfl 6 (by decide) (hts (.fieldLink RX0 36 "JoinDesk$Cursor" "cells" "J") (by decide +kernel)) (fun _ h9 => h9) rfl (by decide +kernel) rfl rfl (Nat.le_of_ble_eq_true rfl) dX0_restart_12 (fun H locs hP hD hS => ?_)
  have hP : va_P D vwCl [(h0, .inr (0, [.ref tl, .ref tr, .ref he, .ref ma, .int hm, .int kd, .long 0])), (he, .inr (2, [.int 0, .int 0, .int 0, .int 0, .int (-1), .int (-1), .int 0]))] H := hP
  have hD : va_D A [(h0, .inr (0, [.ref tl, .ref tr, .ref he, .ref ma, .int hm, .int kd, .long 0])), (he, .inr (2, [.int 0, .int 0, .int 0, .int 0, .int (-1), .int (-1), .int 0]))] := hD
  refine W.widen (k := 0) (n := 0) (by omega) (by omega) ?_
  exact W.vret hx hb hr (fun t ht hW => ⟨⟨[(h0, .inr (0, [.ref tl, .ref tr, .ref he, .ref ma, .int hm, .int kd, .long 0])), (he, .inr (2, [.int 0, .int 0, .int 0, .int 0, .int (-1), .int (-1), .int 0]))], rfl, (by exact rfl), by rw [ht]; exact hP, hD⟩, hS.F ht⟩) hS.2.2 dX0_restart_15
set_option maxHeartbeats 1000000 in
set_option maxRecDepth 100000 in
theorem cC_init (l : Launch) (D : va_G) (cI cL cQ : ClassId) (h0 : Nat) (tl : Nat) (tr : Nat) (sz : Nat) : Met l yX0_init wsX0_init ({ frames := 2, cells := 2, slots := 14, locals := 32 }) (jw_P D vwCl (jT cI cL cQ) cL cQ [.ref h0, .ref tl, .ref tr] [(h0, .inr (0, [.null, .null, .null, .null, .int 0, .int 0, .long 0]))] sz) (va_Qv (fun u : va_W => ∃ (he : Nat) (ma : Nat), u = [(h0, .inr (0, [.ref tl, .ref tr, .ref he, .ref ma, .int 0, .int 0, .long 0])), (he, .inr (2, [.int 0, .int 0, .int 0, .int 0, .int (-1), .int (-1), .int 0])), (ma, .inr (2, [.int 0, .int 0, .int 0, .int 0, .int (-1), .int (-1), .int 0]))]) (jw_B D vwCl (va_A [(h0, .inr (0, [.null, .null, .null, .null, .int 0, .int 0, .long 0]))] sz) (fun u : va_W => u)) (va_A [(h0, .inr (0, [.null, .null, .null, .null, .int 0, .int 0, .long 0]))] sz)) 2 14 (va_A [(h0, .inr (0, [.null, .null, .null, .null, .int 0, .int 0, .long 0]))] sz) := by
  refine Met.ofW (cc := cX0_init) (maxL := 3) (ret := none) (by decide) rfl ?_
  intro p e s m args below meth c s₁ B hml hv
  obtain ⟨rfl, hsz, hP, hK, hN, hD0⟩ := hv
  have hx := B.exec
  have hb := B.bytes
  have hr := B.returns
  have hts := atoms_spec (ws := wsX0_init) B.pre
  have hown : s.vm.findClass RX0 = some m.cls := findClass_of_methodNamed B.named
  have hlocks := B.notSynchronized
  have hin : meth.name = "<init>" := (name_of_methodNamed B.named B.method).1
  subst hsz
  have hD := hD0.self (sz := s.heap.size)
  generalize hAe : va_A [(h0, .inr (0, [.null, .null, .null, .null, .int 0, .int 0, .long 0]))] s.heap.size = A at hD ⊢
  have hA : ∀ q : Nat, s.heap.size ≤ q → A q := fun q h => by rw [← hAe]; exact Or.inr h
  have hS : va_S A s.heap s.heap [] := va_S.rf
  have hl := lv_entry ([.ref h0, .ref tl, .ref tr]) (n := 3) (Nat.le_of_ble_eq_true rfl)
  rw [lg_entry_eq]
  generalize (lg_sl ([.ref h0, .ref tl, .ref tr]) ++ List.replicate (3 - (lg_sl ([.ref h0, .ref tl, .ref tr])).length) Slot.unset).toArray = ls at hl ⊢
  have hl : lv_has ls 3 [(0, .ref h0), (1, .ref tl), (2, .ref tr)] := hl
  refine lv_aload_n hx hb dX0_init_0 rfl (lv_at hl 0 rfl) ?_
  refine W.objInit hx hb hown (hts (.methodLink RX0 3 objectInit) (by decide +kernel)) (hts (.instanceMethod objectInit) (by decide +kernel)) (hts (.code objectInit ⟨#[0xb1]⟩ 1 none) (by decide +kernel)) rfl (by rw [hml]; exact hl.1) rfl dX0_init_1 (Nat.le_of_ble_eq_true rfl) (Nat.le_of_ble_eq_true rfl) ?_
  refine W.eq (g2 := F0 m 4 ls []) rfl ?_
  refine lv_aload_n hx hb dX0_init_4 rfl (lv_at hl 0 rfl) ?_
  refine lv_aload_n hx hb dX0_init_5 rfl (lv_at hl 1 rfl) ?_
  refine va_putF (D := D) (ci := 0) (v := .ref tl) (ty := .object "JoinDesk$Table") (C := RX0) (T := TX0) (N := 7) hx hb hts (by decide +kernel) tyX0 tyX0_ok nmX0 hown hK hP hD hS 0 rfl rfl 0 (by decide) (hts (.fieldLink RX0 9 "JoinDesk$Cursor" "left" "LJoinDesk$Table;") (by decide +kernel)) (fun _ h9 => h9) rfl hin rfl (by decide +kernel) rfl rfl (Nat.le_of_ble_eq_true rfl) dX0_init_6 (fun H locs hP hD hS => ?_)
  have hP : va_P D vwCl [(h0, .inr (0, [.ref tl, .null, .null, .null, .int 0, .int 0, .long 0]))] H := hP
  have hD : va_D A [(h0, .inr (0, [.ref tl, .null, .null, .null, .int 0, .int 0, .long 0]))] := hD
  refine lv_aload_n hx hb dX0_init_9 rfl (lv_at hl 0 rfl) ?_
  refine lv_aload_n hx hb dX0_init_10 rfl (lv_at hl 2 rfl) ?_
  refine va_putF (D := D) (ci := 0) (v := .ref tr) (ty := .object "JoinDesk$Table") (C := RX0) (T := TX0) (N := 7) hx hb hts (by decide +kernel) tyX0 tyX0_ok nmX0 hown hK hP hD hS 0 rfl rfl 1 (by decide) (hts (.fieldLink RX0 15 "JoinDesk$Cursor" "right" "LJoinDesk$Table;") (by decide +kernel)) (fun _ h9 => h9) rfl hin rfl (by decide +kernel) rfl rfl (Nat.le_of_ble_eq_true rfl) dX0_init_11 (fun H locs hP hD hS => ?_)
  have hP : va_P D vwCl [(h0, .inr (0, [.ref tl, .ref tr, .null, .null, .int 0, .int 0, .long 0]))] H := hP
  have hD : va_D A [(h0, .inr (0, [.ref tl, .ref tr, .null, .null, .int 0, .int 0, .long 0]))] := hD
  refine lv_aload_n hx hb dX0_init_14 rfl (lv_at hl 0 rfl) ?_
  refine va_new (ci := 2) (fs := [.int 0, .int 0, .int 0, .int 0, .int 0, .int 0, .int 0]) (C := RX2) (T := TX2) (N := 7) hx hb hts (by decide +kernel) tyX2 tyX2_ok hown (hts (.classLink RX0 18 RX2) (by decide +kernel)) (hts (.instantiable RX2 7) (by decide +kernel)) (hts (.initialized RX2) (by decide +kernel)) hK hP hD hS hA rfl (fun j hj => by rcases (show j = 0 ∨ j = 1 ∨ j = 2 ∨ j = 3 ∨ j = 4 ∨ j = 5 ∨ j = 6 by omega) with rfl | rfl | rfl | rfl | rfl | rfl | rfl <;> rfl) (Nat.le_of_ble_eq_true rfl) (Nat.le_of_ble_eq_true rfl) dX0_init_15 (fun he H hP hD hS => ?_)
  have hP : va_P D vwCl [(h0, .inr (0, [.ref tl, .ref tr, .null, .null, .int 0, .int 0, .long 0])), (he, .inr (2, [.int 0, .int 0, .int 0, .int 0, .int 0, .int 0, .int 0]))] H := hP
  have hD : va_D A [(h0, .inr (0, [.ref tl, .ref tr, .null, .null, .int 0, .int 0, .long 0])), (he, .inr (2, [.int 0, .int 0, .int 0, .int 0, .int 0, .int 0, .int 0]))] := hD
  refine W.widen (k := 1) (n := 7) (by omega) (by omega) ?_
  refine lv_dup hx hb dX0_init_18 rfl ?_
  refine jw_v (wr := [(h0, .inr (0, [.ref tl, .ref tr, .null, .null, .int 0, .int 0, .long 0]))]) (va_runI (As := []) (rest := [.ref he, .ref h0]) ⟨hx, hb, hml, hown, hts⟩ (cP_init l D cI cL cQ he _) (cwI 0 hts gX0_init_X2_init rfl rfl rfl (hts (.initialized RX2) (by decide +kernel)) (hts (.methodLink RX0 20 yX2_init) (by decide +kernel)) (hts (.instanceMethod yX2_init) (by decide +kernel)) rfl (by decide +kernel) ⟨Nat.le_of_ble_eq_true rfl, Nat.le_of_ble_eq_true rfl⟩) (jw_S hK hN hP hD [1] (by decide) rfl) rfl rfl hl.1 rfl (lv_room (Nat.le_of_ble_eq_true rfl)) dX0_init_19 ⟨Nat.le_of_ble_eq_true rfl, Nat.le_of_ble_eq_true rfl⟩) hP hD hS hA [1] [0] rfl rfl (by decide) (by decide) (fun u H locs f_1 hP hD hS => ?_)
  obtain rfl := f_1
  have hP : va_P D vwCl [(h0, .inr (0, [.ref tl, .ref tr, .null, .null, .int 0, .int 0, .long 0])), (he, .inr (2, [.int 0, .int 0, .int 0, .int 0, .int (-1), .int (-1), .int 0]))] H := hP
  have hD : va_D A [(h0, .inr (0, [.ref tl, .ref tr, .null, .null, .int 0, .int 0, .long 0])), (he, .inr (2, [.int 0, .int 0, .int 0, .int 0, .int (-1), .int (-1), .int 0]))] := hD
  refine va_putF (D := D) (ci := 0) (v := .ref he) (ty := .object "JoinDesk$Position") (C := RX0) (T := TX0) (N := 7) hx hb hts (by decide +kernel) tyX0 tyX0_ok nmX0 hown hK hP hD hS 0 rfl rfl 2 (by decide) (hts (.fieldLink RX0 21 "JoinDesk$Cursor" "here" "LJoinDesk$Position;") (by decide +kernel)) (fun _ h9 => h9) rfl hin rfl (by decide +kernel) rfl rfl (Nat.le_of_ble_eq_true rfl) dX0_init_22 (fun H locs hP hD hS => ?_)
  have hP : va_P D vwCl [(h0, .inr (0, [.ref tl, .ref tr, .ref he, .null, .int 0, .int 0, .long 0])), (he, .inr (2, [.int 0, .int 0, .int 0, .int 0, .int (-1), .int (-1), .int 0]))] H := hP
  have hD : va_D A [(h0, .inr (0, [.ref tl, .ref tr, .ref he, .null, .int 0, .int 0, .long 0])), (he, .inr (2, [.int 0, .int 0, .int 0, .int 0, .int (-1), .int (-1), .int 0]))] := hD
  refine lv_aload_n hx hb dX0_init_25 rfl (lv_at hl 0 rfl) ?_
  refine va_new (ci := 2) (fs := [.int 0, .int 0, .int 0, .int 0, .int 0, .int 0, .int 0]) (C := RX2) (T := TX2) (N := 7) hx hb hts (by decide +kernel) tyX2 tyX2_ok hown (hts (.classLink RX0 18 RX2) (by decide +kernel)) (hts (.instantiable RX2 7) (by decide +kernel)) (hts (.initialized RX2) (by decide +kernel)) hK hP hD hS hA rfl (fun j hj => by rcases (show j = 0 ∨ j = 1 ∨ j = 2 ∨ j = 3 ∨ j = 4 ∨ j = 5 ∨ j = 6 by omega) with rfl | rfl | rfl | rfl | rfl | rfl | rfl <;> rfl) (Nat.le_of_ble_eq_true rfl) (Nat.le_of_ble_eq_true rfl) dX0_init_26 (fun ma H hP hD hS => ?_)
  have hP : va_P D vwCl [(h0, .inr (0, [.ref tl, .ref tr, .ref he, .null, .int 0, .int 0, .long 0])), (he, .inr (2, [.int 0, .int 0, .int 0, .int 0, .int (-1), .int (-1), .int 0])), (ma, .inr (2, [.int 0, .int 0, .int 0, .int 0, .int 0, .int 0, .int 0]))] H := hP
  have hD : va_D A [(h0, .inr (0, [.ref tl, .ref tr, .ref he, .null, .int 0, .int 0, .long 0])), (he, .inr (2, [.int 0, .int 0, .int 0, .int 0, .int (-1), .int (-1), .int 0])), (ma, .inr (2, [.int 0, .int 0, .int 0, .int 0, .int 0, .int 0, .int 0]))] := hD
  refine W.widen (k := 2) (n := 14) (by omega) (by omega) ?_
  refine lv_dup hx hb dX0_init_29 rfl ?_
  refine jw_v (wr := [(h0, .inr (0, [.ref tl, .ref tr, .ref he, .null, .int 0, .int 0, .long 0])), (he, .inr (2, [.int 0, .int 0, .int 0, .int 0, .int (-1), .int (-1), .int 0]))]) (va_runI (As := []) (rest := [.ref ma, .ref h0]) ⟨hx, hb, hml, hown, hts⟩ (cP_init l D cI cL cQ ma _) (cwI 0 hts gX0_init_X2_init rfl rfl rfl (hts (.initialized RX2) (by decide +kernel)) (hts (.methodLink RX0 20 yX2_init) (by decide +kernel)) (hts (.instanceMethod yX2_init) (by decide +kernel)) rfl (by decide +kernel) ⟨Nat.le_of_ble_eq_true rfl, Nat.le_of_ble_eq_true rfl⟩) (jw_S hK hN hP hD [2] (by decide) rfl) rfl rfl hl.1 rfl (lv_room (Nat.le_of_ble_eq_true rfl)) dX0_init_30 ⟨Nat.le_of_ble_eq_true rfl, Nat.le_of_ble_eq_true rfl⟩) hP hD hS hA [2] [0, 1] rfl rfl (by decide) (by decide) (fun u H locs f_2 hP hD hS => ?_)
  obtain rfl := f_2
  have hP : va_P D vwCl [(h0, .inr (0, [.ref tl, .ref tr, .ref he, .null, .int 0, .int 0, .long 0])), (he, .inr (2, [.int 0, .int 0, .int 0, .int 0, .int (-1), .int (-1), .int 0])), (ma, .inr (2, [.int 0, .int 0, .int 0, .int 0, .int (-1), .int (-1), .int 0]))] H := hP
  have hD : va_D A [(h0, .inr (0, [.ref tl, .ref tr, .ref he, .null, .int 0, .int 0, .long 0])), (he, .inr (2, [.int 0, .int 0, .int 0, .int 0, .int (-1), .int (-1), .int 0])), (ma, .inr (2, [.int 0, .int 0, .int 0, .int 0, .int (-1), .int (-1), .int 0]))] := hD
  refine va_putF (D := D) (ci := 0) (v := .ref ma) (ty := .object "JoinDesk$Position") (C := RX0) (T := TX0) (N := 7) hx hb hts (by decide +kernel) tyX0 tyX0_ok nmX0 hown hK hP hD hS 0 rfl rfl 3 (by decide) (hts (.fieldLink RX0 25 "JoinDesk$Cursor" "marked" "LJoinDesk$Position;") (by decide +kernel)) (fun _ h9 => h9) rfl hin rfl (by decide +kernel) rfl rfl (Nat.le_of_ble_eq_true rfl) dX0_init_33 (fun H locs hP hD hS => ?_)
  have hP : va_P D vwCl [(h0, .inr (0, [.ref tl, .ref tr, .ref he, .ref ma, .int 0, .int 0, .long 0])), (he, .inr (2, [.int 0, .int 0, .int 0, .int 0, .int (-1), .int (-1), .int 0])), (ma, .inr (2, [.int 0, .int 0, .int 0, .int 0, .int (-1), .int (-1), .int 0]))] H := hP
  have hD : va_D A [(h0, .inr (0, [.ref tl, .ref tr, .ref he, .ref ma, .int 0, .int 0, .long 0])), (he, .inr (2, [.int 0, .int 0, .int 0, .int 0, .int (-1), .int (-1), .int 0])), (ma, .inr (2, [.int 0, .int 0, .int 0, .int 0, .int (-1), .int (-1), .int 0]))] := hD
  refine lv_aload_n hx hb dX0_init_36 rfl (lv_at hl 0 rfl) ?_
  refine lv_iconst (v := 0) hx hb dX0_init_37 (by decide) ?_
  refine va_put (D := D) (ci := 0) (v := .int 0) (ty := .boolean) (C := RX0) (T := TX0) (N := 7) hx hb hts (by decide +kernel) tyX0 tyX0_ok nmX0 hown hK hP hD hS 0 rfl rfl 4 (by decide) (hts (.fieldLink RX0 28 "JoinDesk$Cursor" "hasMark" "Z") (by decide +kernel)) (fun _ h9 => h9) rfl (by decide +kernel) rfl rfl (Nat.le_of_ble_eq_true rfl) dX0_init_38 (fun H locs hP hD hS => ?_)
  have hP : va_P D vwCl [(h0, .inr (0, [.ref tl, .ref tr, .ref he, .ref ma, .int 0, .int 0, .long 0])), (he, .inr (2, [.int 0, .int 0, .int 0, .int 0, .int (-1), .int (-1), .int 0])), (ma, .inr (2, [.int 0, .int 0, .int 0, .int 0, .int (-1), .int (-1), .int 0]))] H := hP
  have hD : va_D A [(h0, .inr (0, [.ref tl, .ref tr, .ref he, .ref ma, .int 0, .int 0, .long 0])), (he, .inr (2, [.int 0, .int 0, .int 0, .int 0, .int (-1), .int (-1), .int 0])), (ma, .inr (2, [.int 0, .int 0, .int 0, .int 0, .int (-1), .int (-1), .int 0]))] := hD
  refine lv_aload_n hx hb dX0_init_41 rfl (lv_at hl 0 rfl) ?_
  refine lv_iconst (v := 0) hx hb dX0_init_42 (by decide) ?_
  refine va_put (D := D) (ci := 0) (v := .int 0) (ty := .int) (C := RX0) (T := TX0) (N := 7) hx hb hts (by decide +kernel) tyX0 tyX0_ok nmX0 hown hK hP hD hS 0 rfl rfl 5 (by decide) (hts (.fieldLink RX0 32 "JoinDesk$Cursor" "kind" "I") (by decide +kernel)) (fun _ h9 => h9) rfl (by decide +kernel) rfl rfl (Nat.le_of_ble_eq_true rfl) dX0_init_43 (fun H locs hP hD hS => ?_)
  have hP : va_P D vwCl [(h0, .inr (0, [.ref tl, .ref tr, .ref he, .ref ma, .int 0, .int 0, .long 0])), (he, .inr (2, [.int 0, .int 0, .int 0, .int 0, .int (-1), .int (-1), .int 0])), (ma, .inr (2, [.int 0, .int 0, .int 0, .int 0, .int (-1), .int (-1), .int 0]))] H := hP
  have hD : va_D A [(h0, .inr (0, [.ref tl, .ref tr, .ref he, .ref ma, .int 0, .int 0, .long 0])), (he, .inr (2, [.int 0, .int 0, .int 0, .int 0, .int (-1), .int (-1), .int 0])), (ma, .inr (2, [.int 0, .int 0, .int 0, .int 0, .int (-1), .int (-1), .int 0]))] := hD
  refine lv_aload_n hx hb dX0_init_46 rfl (lv_at hl 0 rfl) ?_
  refine lv_lconst (v := 0) hx hb dX0_init_47 (by decide) ?_
  refine va_put (D := D) (ci := 0) (v := .long 0) (ty := .long) (C := RX0) (T := TX0) (N := 7) hx hb hts (by decide +kernel) tyX0 tyX0_ok nmX0 hown hK hP hD hS 0 rfl rfl 6 (by decide) (hts (.fieldLink RX0 36 "JoinDesk$Cursor" "cells" "J") (by decide +kernel)) (fun _ h9 => h9) rfl (by decide +kernel) rfl rfl (Nat.le_of_ble_eq_true rfl) dX0_init_48 (fun H locs hP hD hS => ?_)
  have hP : va_P D vwCl [(h0, .inr (0, [.ref tl, .ref tr, .ref he, .ref ma, .int 0, .int 0, .long 0])), (he, .inr (2, [.int 0, .int 0, .int 0, .int 0, .int (-1), .int (-1), .int 0])), (ma, .inr (2, [.int 0, .int 0, .int 0, .int 0, .int (-1), .int (-1), .int 0]))] H := hP
  have hD : va_D A [(h0, .inr (0, [.ref tl, .ref tr, .ref he, .ref ma, .int 0, .int 0, .long 0])), (he, .inr (2, [.int 0, .int 0, .int 0, .int 0, .int (-1), .int (-1), .int 0])), (ma, .inr (2, [.int 0, .int 0, .int 0, .int 0, .int (-1), .int (-1), .int 0]))] := hD
  refine W.widen (k := 2) (n := 14) (by omega) (by omega) ?_
  exact W.vret hx hb hr (fun t ht hW => ⟨⟨[(h0, .inr (0, [.ref tl, .ref tr, .ref he, .ref ma, .int 0, .int 0, .long 0])), (he, .inr (2, [.int 0, .int 0, .int 0, .int 0, .int (-1), .int (-1), .int 0])), (ma, .inr (2, [.int 0, .int 0, .int 0, .int 0, .int (-1), .int (-1), .int 0]))], rfl, (by exact ⟨_, _, rfl⟩), by rw [ht]; exact hP, hD⟩, hS.F ht⟩) hS.2.2 dX0_init_51
set_option maxHeartbeats 1000000 in
set_option maxRecDepth 100000 in
theorem cB_forget (l : Launch) (D : va_G) (cI cL cQ : ClassId) (h0 : Nat) (gr : Int32) (fa : Nat) (s1 : Nat) (s2 : Nat) (gn : Int32) (gt : Int32) (sz : Nat) : Met l yX1_forget wsX1_forget ({ frames := 0, cells := 0, slots := 0, locals := 0 }) (jw_P D vwCl (jT cI cL cQ) cL cQ [.ref h0] [(h0, .inr (1, [.int gr, .ref fa, .ref s1, .ref s2, .int gn, .int gt]))] sz) (va_Qv (fun u : va_W => u = [(h0, .inr (1, [.int gr, .ref fa, .ref s1, .ref s2, .int 0, .int 0]))]) (jw_B D vwCl (va_A [(h0, .inr (1, [.int gr, .ref fa, .ref s1, .ref s2, .int gn, .int gt]))] sz) (fun u : va_W => u)) (va_A [(h0, .inr (1, [.int gr, .ref fa, .ref s1, .ref s2, .int gn, .int gt]))] sz)) 0 0 (va_A [(h0, .inr (1, [.int gr, .ref fa, .ref s1, .ref s2, .int gn, .int gt]))] sz) := by
  refine Met.ofW (cc := cX1_forget) (maxL := 1) (ret := none) (by decide) rfl ?_
  intro p e s m args below meth c s₁ B hml hv
  obtain ⟨rfl, hsz, hP, hK, hN, hD0⟩ := hv
  have hx := B.exec
  have hb := B.bytes
  have hr := B.returns
  have hts := atoms_spec (ws := wsX1_forget) B.pre
  have hown : s.vm.findClass RX1 = some m.cls := findClass_of_methodNamed B.named
  have hlocks := B.notSynchronized
  subst hsz
  have hD := hD0.self (sz := s.heap.size)
  generalize hAe : va_A [(h0, .inr (1, [.int gr, .ref fa, .ref s1, .ref s2, .int gn, .int gt]))] s.heap.size = A at hD ⊢
  have hA : ∀ q : Nat, s.heap.size ≤ q → A q := fun q h => by rw [← hAe]; exact Or.inr h
  have hS : va_S A s.heap s.heap [] := va_S.rf
  have hl := lv_entry ([.ref h0]) (n := 1) (Nat.le_of_ble_eq_true rfl)
  rw [lg_entry_eq]
  generalize (lg_sl ([.ref h0]) ++ List.replicate (1 - (lg_sl ([.ref h0])).length) Slot.unset).toArray = ls at hl ⊢
  have hl : lv_has ls 1 [(0, .ref h0)] := hl
  refine lv_aload_n hx hb dX1_forget_0 rfl (lv_at hl 0 rfl) ?_
  refine lv_iconst (v := 0) hx hb dX1_forget_1 (by decide) ?_
  refine va_put (D := D) (ci := 1) (v := .int 0) (ty := .int) (C := RX1) (T := TX1) (N := 6) hx hb hts (by decide +kernel) tyX1 tyX1_ok nmX1 hown hK hP hD hS 0 rfl rfl 4 (by decide) (hts (.fieldLink RX1 30 "JoinDesk$GroupBook" "size" "I") (by decide +kernel)) (fun _ h9 => h9) rfl (by decide +kernel) rfl rfl (Nat.le_of_ble_eq_true rfl) dX1_forget_2 (fun H locs hP hD hS => ?_)
  have hP : va_P D vwCl [(h0, .inr (1, [.int gr, .ref fa, .ref s1, .ref s2, .int 0, .int gt]))] H := hP
  have hD : va_D A [(h0, .inr (1, [.int gr, .ref fa, .ref s1, .ref s2, .int 0, .int gt]))] := hD
  refine lv_aload_n hx hb dX1_forget_5 rfl (lv_at hl 0 rfl) ?_
  refine lv_iconst (v := 0) hx hb dX1_forget_6 (by decide) ?_
  refine va_put (D := D) (ci := 1) (v := .int 0) (ty := .boolean) (C := RX1) (T := TX1) (N := 6) hx hb hts (by decide +kernel) tyX1 tyX1_ok nmX1 hown hK hP hD hS 0 rfl rfl 5 (by decide) (hts (.fieldLink RX1 33 "JoinDesk$GroupBook" "told" "Z") (by decide +kernel)) (fun _ h9 => h9) rfl (by decide +kernel) rfl rfl (Nat.le_of_ble_eq_true rfl) dX1_forget_7 (fun H locs hP hD hS => ?_)
  have hP : va_P D vwCl [(h0, .inr (1, [.int gr, .ref fa, .ref s1, .ref s2, .int 0, .int 0]))] H := hP
  have hD : va_D A [(h0, .inr (1, [.int gr, .ref fa, .ref s1, .ref s2, .int 0, .int 0]))] := hD
  refine W.widen (k := 0) (n := 0) (by omega) (by omega) ?_
  exact W.vret hx hb hr (fun t ht hW => ⟨⟨[(h0, .inr (1, [.int gr, .ref fa, .ref s1, .ref s2, .int 0, .int 0]))], rfl, (by exact rfl), by rw [ht]; exact hP, hD⟩, hS.F ht⟩) hS.2.2 dX1_forget_10
set_option maxHeartbeats 1000000 in
set_option maxRecDepth 100000 in
theorem cB_init (l : Launch) (D : va_G) (cI cL cQ : ClassId) (h0 : Nat) (g : Nat) (sz : Nat) (hg : g ≤ 400) : Met l yX1_init wsX1_init ({ frames := 2, cells := 8, slots := 2013, locals := 32 }) (jw_P D vwCl (jT cI cL cQ) cL cQ [.ref h0, .int (nI g)] [(h0, .inr (1, [.int 0, .null, .null, .null, .int 0, .int 0]))] sz) (va_Qv (fun u : va_W => ∃ (fa : Nat) (s1 : Nat) (s2 : Nat), u = [(h0, .inr (1, [.int (nI g), .ref fa, .ref s1, .ref s2, .int 0, .int 0])), (fa, .inl (cQ, 5, .inr (.inr (.inr (.inr (fun j => if j < 5 then some (fa + 1 + j) else none)))))), (fa + 1, .inl (cL, g, .inr (.inl (fun _ => 0)))), (fa + 2, .inl (cL, g, .inr (.inl (fun _ => 0)))), (fa + 3, .inl (cL, g, .inr (.inl (fun _ => 0)))), (fa + 4, .inl (cL, g, .inr (.inl (fun _ => 0)))), (fa + 5, .inl (cL, g, .inr (.inl (fun _ => 0)))), (s1, .inr (3, [.int 0, .long 0, .long 0, .long 0])), (s2, .inr (3, [.int 0, .long 0, .long 0, .long 0]))]) (jw_B D vwCl (va_A [(h0, .inr (1, [.int 0, .null, .null, .null, .int 0, .int 0]))] sz) (fun u : va_W => u)) (va_A [(h0, .inr (1, [.int 0, .null, .null, .null, .int 0, .int 0]))] sz)) 8 2013 (va_A [(h0, .inr (1, [.int 0, .null, .null, .null, .int 0, .int 0]))] sz) := by
  refine Met.ofW (cc := cX1_init) (maxL := 2) (ret := none) (by decide) rfl ?_
  intro p e s m args below meth c s₁ B hml hv
  obtain ⟨rfl, hsz, hP, hK, hN, hD0⟩ := hv
  have hx := B.exec
  have hb := B.bytes
  have hr := B.returns
  have hts := atoms_spec (ws := wsX1_init) B.pre
  have hown : s.vm.findClass RX1 = some m.cls := findClass_of_methodNamed B.named
  have hlocks := B.notSynchronized
  have hin : meth.name = "<init>" := (name_of_methodNamed B.named B.method).1
  subst hsz
  have hD := hD0.self (sz := s.heap.size)
  generalize hAe : va_A [(h0, .inr (1, [.int 0, .null, .null, .null, .int 0, .int 0]))] s.heap.size = A at hD ⊢
  have hA : ∀ q : Nat, s.heap.size ≤ q → A q := fun q h => by rw [← hAe]; exact Or.inr h
  have hS : va_S A s.heap s.heap [] := va_S.rf
  have hl := lv_entry ([.ref h0, .int (nI g)]) (n := 2) (Nat.le_of_ble_eq_true rfl)
  rw [lg_entry_eq]
  generalize (lg_sl ([.ref h0, .int (nI g)]) ++ List.replicate (2 - (lg_sl ([.ref h0, .int (nI g)])).length) Slot.unset).toArray = ls at hl ⊢
  have hl : lv_has ls 2 [(0, .ref h0), (1, .int (nI g))] := hl
  refine lv_aload_n hx hb dX1_init_0 rfl (lv_at hl 0 rfl) ?_
  refine W.objInit hx hb hown (hts (.methodLink RX1 3 objectInit) (by decide +kernel)) (hts (.instanceMethod objectInit) (by decide +kernel)) (hts (.code objectInit ⟨#[0xb1]⟩ 1 none) (by decide +kernel)) rfl (by rw [hml]; exact hl.1) rfl dX1_init_1 (Nat.le_of_ble_eq_true rfl) (Nat.le_of_ble_eq_true rfl) ?_
  refine W.eq (g2 := F0 m 4 ls []) rfl ?_
  refine lv_aload_n hx hb dX1_init_4 rfl (lv_at hl 0 rfl) ?_
  refine lv_iload_n hx hb dX1_init_5 rfl (lv_at hl 1 rfl) ?_
  refine va_putF (D := D) (ci := 1) (v := .int (nI g)) (ty := .int) (C := RX1) (T := TX1) (N := 6) hx hb hts (by decide +kernel) tyX1 tyX1_ok nmX1 hown hK hP hD hS 0 rfl rfl 0 (by decide) (hts (.fieldLink RX1 9 "JoinDesk$GroupBook" "room" "I") (by decide +kernel)) (fun _ h9 => h9) rfl hin rfl (by decide +kernel) rfl rfl (Nat.le_of_ble_eq_true rfl) dX1_init_6 (fun H locs hP hD hS => ?_)
  have hP : va_P D vwCl [(h0, .inr (1, [.int (nI g), .null, .null, .null, .int 0, .int 0]))] H := hP
  have hD : va_D A [(h0, .inr (1, [.int (nI g), .null, .null, .null, .int 0, .int 0]))] := hD
  refine lv_aload_n hx hb dX1_init_9 rfl (lv_at hl 0 rfl) ?_
  refine lv_iconst (v := 5) hx hb dX1_init_10 (by decide) ?_
  refine lv_iload_n hx hb dX1_init_11 rfl (lv_at hl 1 rfl) ?_
  refine jm_new hx hb hown (hts (.classLink RX1 15 "[[J") (by decide +kernel)) hN.2.2 (hts (.arrayClass .long) (by decide +kernel)) hK 1 2 rfl rfl hP hD hS hA (K := g) (nI_pos (by omega)) (nI_clamp (by omega)) (by omega) (Nat.le_of_ble_eq_true rfl) (Nat.le_trans (Nat.add_le_add_left (show 5 + 5 * g ≤ 2005 by omega) _) (Nat.le_of_ble_eq_true rfl)) dX1_init_12 (fun fa H hP hD hS => ?_)
  have hP : va_P D vwCl [(h0, .inr (1, [.int (nI g), .null, .null, .null, .int 0, .int 0])), (fa, .inl (cQ, 5, .inr (.inr (.inr (.inr (fun j => if j < 5 then some (fa + 1 + j) else none)))))), (fa + 1, .inl (cL, g, .inr (.inl (fun _ => 0)))), (fa + 2, .inl (cL, g, .inr (.inl (fun _ => 0)))), (fa + 3, .inl (cL, g, .inr (.inl (fun _ => 0)))), (fa + 4, .inl (cL, g, .inr (.inl (fun _ => 0)))), (fa + 5, .inl (cL, g, .inr (.inl (fun _ => 0))))] H := hP
  have hD : va_D A [(h0, .inr (1, [.int (nI g), .null, .null, .null, .int 0, .int 0])), (fa, .inl (cQ, 5, .inr (.inr (.inr (.inr (fun j => if j < 5 then some (fa + 1 + j) else none)))))), (fa + 1, .inl (cL, g, .inr (.inl (fun _ => 0)))), (fa + 2, .inl (cL, g, .inr (.inl (fun _ => 0)))), (fa + 3, .inl (cL, g, .inr (.inl (fun _ => 0)))), (fa + 4, .inl (cL, g, .inr (.inl (fun _ => 0)))), (fa + 5, .inl (cL, g, .inr (.inl (fun _ => 0))))] := hD
  refine W.widen (k := 6) (n := 2005) (by omega) (by omega) ?_
  refine va_putF (D := D) (ci := 1) (v := .ref fa) (ty := .array (.array .long)) (C := RX1) (T := TX1) (N := 6) hx hb hts (by decide +kernel) tyX1 tyX1_ok nmX1 hown hK hP hD hS 0 rfl rfl 1 (by decide) (hts (.fieldLink RX1 17 "JoinDesk$GroupBook" "facts" "[[J") (by decide +kernel)) (fun _ h9 => h9) rfl hin rfl (by decide +kernel) rfl rfl (Nat.le_of_ble_eq_true rfl) dX1_init_16 (fun H locs hP hD hS => ?_)
  have hP : va_P D vwCl [(h0, .inr (1, [.int (nI g), .ref fa, .null, .null, .int 0, .int 0])), (fa, .inl (cQ, 5, .inr (.inr (.inr (.inr (fun j => if j < 5 then some (fa + 1 + j) else none)))))), (fa + 1, .inl (cL, g, .inr (.inl (fun _ => 0)))), (fa + 2, .inl (cL, g, .inr (.inl (fun _ => 0)))), (fa + 3, .inl (cL, g, .inr (.inl (fun _ => 0)))), (fa + 4, .inl (cL, g, .inr (.inl (fun _ => 0)))), (fa + 5, .inl (cL, g, .inr (.inl (fun _ => 0))))] H := hP
  have hD : va_D A [(h0, .inr (1, [.int (nI g), .ref fa, .null, .null, .int 0, .int 0])), (fa, .inl (cQ, 5, .inr (.inr (.inr (.inr (fun j => if j < 5 then some (fa + 1 + j) else none)))))), (fa + 1, .inl (cL, g, .inr (.inl (fun _ => 0)))), (fa + 2, .inl (cL, g, .inr (.inl (fun _ => 0)))), (fa + 3, .inl (cL, g, .inr (.inl (fun _ => 0)))), (fa + 4, .inl (cL, g, .inr (.inl (fun _ => 0)))), (fa + 5, .inl (cL, g, .inr (.inl (fun _ => 0))))] := hD
  refine lv_aload_n hx hb dX1_init_19 rfl (lv_at hl 0 rfl) ?_
  refine va_new (ci := 3) (fs := [.int 0, .long 0, .long 0, .long 0]) (C := RX3) (T := TX3) (N := 4) hx hb hts (by decide +kernel) tyX3 tyX3_ok hown (hts (.classLink RX1 20 RX3) (by decide +kernel)) (hts (.instantiable RX3 4) (by decide +kernel)) (hts (.initialized RX3) (by decide +kernel)) hK hP hD hS hA rfl (fun j hj => by rcases (show j = 0 ∨ j = 1 ∨ j = 2 ∨ j = 3 by omega) with rfl | rfl | rfl | rfl <;> rfl) (Nat.le_of_ble_eq_true rfl) (Nat.le_of_ble_eq_true rfl) dX1_init_20 (fun s1 H hP hD hS => ?_)
  have hP : va_P D vwCl [(h0, .inr (1, [.int (nI g), .ref fa, .null, .null, .int 0, .int 0])), (fa, .inl (cQ, 5, .inr (.inr (.inr (.inr (fun j => if j < 5 then some (fa + 1 + j) else none)))))), (fa + 1, .inl (cL, g, .inr (.inl (fun _ => 0)))), (fa + 2, .inl (cL, g, .inr (.inl (fun _ => 0)))), (fa + 3, .inl (cL, g, .inr (.inl (fun _ => 0)))), (fa + 4, .inl (cL, g, .inr (.inl (fun _ => 0)))), (fa + 5, .inl (cL, g, .inr (.inl (fun _ => 0)))), (s1, .inr (3, [.int 0, .long 0, .long 0, .long 0]))] H := hP
  have hD : va_D A [(h0, .inr (1, [.int (nI g), .ref fa, .null, .null, .int 0, .int 0])), (fa, .inl (cQ, 5, .inr (.inr (.inr (.inr (fun j => if j < 5 then some (fa + 1 + j) else none)))))), (fa + 1, .inl (cL, g, .inr (.inl (fun _ => 0)))), (fa + 2, .inl (cL, g, .inr (.inl (fun _ => 0)))), (fa + 3, .inl (cL, g, .inr (.inl (fun _ => 0)))), (fa + 4, .inl (cL, g, .inr (.inl (fun _ => 0)))), (fa + 5, .inl (cL, g, .inr (.inl (fun _ => 0)))), (s1, .inr (3, [.int 0, .long 0, .long 0, .long 0]))] := hD
  refine W.widen (k := 7) (n := 2009) (by omega) (by omega) ?_
  refine lv_dup hx hb dX1_init_23 rfl ?_
  refine jw_v (wr := [(h0, .inr (1, [.int (nI g), .ref fa, .null, .null, .int 0, .int 0])), (fa, .inl (cQ, 5, .inr (.inr (.inr (.inr (fun j => if j < 5 then some (fa + 1 + j) else none)))))), (fa + 1, .inl (cL, g, .inr (.inl (fun _ => 0)))), (fa + 2, .inl (cL, g, .inr (.inl (fun _ => 0)))), (fa + 3, .inl (cL, g, .inr (.inl (fun _ => 0)))), (fa + 4, .inl (cL, g, .inr (.inl (fun _ => 0)))), (fa + 5, .inl (cL, g, .inr (.inl (fun _ => 0))))]) (va_runIN (As := []) (rest := [.ref s1, .ref h0]) ⟨hx, hb, hml, hown, hts⟩ (cS_init l D cI cL cQ s1 _) ⟨(va_cnB 0 hts gX1_init_X3_init_n22 rfl rfl rfl (hN.2.1 (RX1, 22, yX3_init, "JoinDesk") (by decide +kernel)) (hts (.initialized RX3) (by decide +kernel)) (by decide +kernel) ⟨Nat.le_of_ble_eq_true rfl, Nat.le_of_ble_eq_true rfl⟩), rfl, hts (.instanceMethod yX3_init) (by decide +kernel)⟩ (jw_S hK hN hP hD [7] (by decide) rfl) rfl rfl hl.1 rfl (lv_room (Nat.le_of_ble_eq_true rfl)) dX1_init_24 ⟨Nat.le_of_ble_eq_true rfl, Nat.le_of_ble_eq_true rfl⟩) hP hD hS hA [7] [0, 1, 2, 3, 4, 5, 6] rfl rfl (by decide) (by decide) (fun u H locs f_1 hP hD hS => ?_)
  obtain rfl := f_1
  have hP : va_P D vwCl [(h0, .inr (1, [.int (nI g), .ref fa, .null, .null, .int 0, .int 0])), (fa, .inl (cQ, 5, .inr (.inr (.inr (.inr (fun j => if j < 5 then some (fa + 1 + j) else none)))))), (fa + 1, .inl (cL, g, .inr (.inl (fun _ => 0)))), (fa + 2, .inl (cL, g, .inr (.inl (fun _ => 0)))), (fa + 3, .inl (cL, g, .inr (.inl (fun _ => 0)))), (fa + 4, .inl (cL, g, .inr (.inl (fun _ => 0)))), (fa + 5, .inl (cL, g, .inr (.inl (fun _ => 0)))), (s1, .inr (3, [.int 0, .long 0, .long 0, .long 0]))] H := hP
  have hD : va_D A [(h0, .inr (1, [.int (nI g), .ref fa, .null, .null, .int 0, .int 0])), (fa, .inl (cQ, 5, .inr (.inr (.inr (.inr (fun j => if j < 5 then some (fa + 1 + j) else none)))))), (fa + 1, .inl (cL, g, .inr (.inl (fun _ => 0)))), (fa + 2, .inl (cL, g, .inr (.inl (fun _ => 0)))), (fa + 3, .inl (cL, g, .inr (.inl (fun _ => 0)))), (fa + 4, .inl (cL, g, .inr (.inl (fun _ => 0)))), (fa + 5, .inl (cL, g, .inr (.inl (fun _ => 0)))), (s1, .inr (3, [.int 0, .long 0, .long 0, .long 0]))] := hD
  refine va_putF (D := D) (ci := 1) (v := .ref s1) (ty := .object "JoinDesk$Span") (C := RX1) (T := TX1) (N := 6) hx hb hts (by decide +kernel) tyX1 tyX1_ok nmX1 hown hK hP hD hS 0 rfl rfl 2 (by decide) (hts (.fieldLink RX1 23 "JoinDesk$GroupBook" "leftSpan" "LJoinDesk$Span;") (by decide +kernel)) (fun _ h9 => h9) rfl hin rfl (by decide +kernel) rfl rfl (Nat.le_of_ble_eq_true rfl) dX1_init_27 (fun H locs hP hD hS => ?_)
  have hP : va_P D vwCl [(h0, .inr (1, [.int (nI g), .ref fa, .ref s1, .null, .int 0, .int 0])), (fa, .inl (cQ, 5, .inr (.inr (.inr (.inr (fun j => if j < 5 then some (fa + 1 + j) else none)))))), (fa + 1, .inl (cL, g, .inr (.inl (fun _ => 0)))), (fa + 2, .inl (cL, g, .inr (.inl (fun _ => 0)))), (fa + 3, .inl (cL, g, .inr (.inl (fun _ => 0)))), (fa + 4, .inl (cL, g, .inr (.inl (fun _ => 0)))), (fa + 5, .inl (cL, g, .inr (.inl (fun _ => 0)))), (s1, .inr (3, [.int 0, .long 0, .long 0, .long 0]))] H := hP
  have hD : va_D A [(h0, .inr (1, [.int (nI g), .ref fa, .ref s1, .null, .int 0, .int 0])), (fa, .inl (cQ, 5, .inr (.inr (.inr (.inr (fun j => if j < 5 then some (fa + 1 + j) else none)))))), (fa + 1, .inl (cL, g, .inr (.inl (fun _ => 0)))), (fa + 2, .inl (cL, g, .inr (.inl (fun _ => 0)))), (fa + 3, .inl (cL, g, .inr (.inl (fun _ => 0)))), (fa + 4, .inl (cL, g, .inr (.inl (fun _ => 0)))), (fa + 5, .inl (cL, g, .inr (.inl (fun _ => 0)))), (s1, .inr (3, [.int 0, .long 0, .long 0, .long 0]))] := hD
  refine lv_aload_n hx hb dX1_init_30 rfl (lv_at hl 0 rfl) ?_
  refine va_new (ci := 3) (fs := [.int 0, .long 0, .long 0, .long 0]) (C := RX3) (T := TX3) (N := 4) hx hb hts (by decide +kernel) tyX3 tyX3_ok hown (hts (.classLink RX1 20 RX3) (by decide +kernel)) (hts (.instantiable RX3 4) (by decide +kernel)) (hts (.initialized RX3) (by decide +kernel)) hK hP hD hS hA rfl (fun j hj => by rcases (show j = 0 ∨ j = 1 ∨ j = 2 ∨ j = 3 by omega) with rfl | rfl | rfl | rfl <;> rfl) (Nat.le_of_ble_eq_true rfl) (Nat.le_of_ble_eq_true rfl) dX1_init_31 (fun s2 H hP hD hS => ?_)
  have hP : va_P D vwCl [(h0, .inr (1, [.int (nI g), .ref fa, .ref s1, .null, .int 0, .int 0])), (fa, .inl (cQ, 5, .inr (.inr (.inr (.inr (fun j => if j < 5 then some (fa + 1 + j) else none)))))), (fa + 1, .inl (cL, g, .inr (.inl (fun _ => 0)))), (fa + 2, .inl (cL, g, .inr (.inl (fun _ => 0)))), (fa + 3, .inl (cL, g, .inr (.inl (fun _ => 0)))), (fa + 4, .inl (cL, g, .inr (.inl (fun _ => 0)))), (fa + 5, .inl (cL, g, .inr (.inl (fun _ => 0)))), (s1, .inr (3, [.int 0, .long 0, .long 0, .long 0])), (s2, .inr (3, [.int 0, .long 0, .long 0, .long 0]))] H := hP
  have hD : va_D A [(h0, .inr (1, [.int (nI g), .ref fa, .ref s1, .null, .int 0, .int 0])), (fa, .inl (cQ, 5, .inr (.inr (.inr (.inr (fun j => if j < 5 then some (fa + 1 + j) else none)))))), (fa + 1, .inl (cL, g, .inr (.inl (fun _ => 0)))), (fa + 2, .inl (cL, g, .inr (.inl (fun _ => 0)))), (fa + 3, .inl (cL, g, .inr (.inl (fun _ => 0)))), (fa + 4, .inl (cL, g, .inr (.inl (fun _ => 0)))), (fa + 5, .inl (cL, g, .inr (.inl (fun _ => 0)))), (s1, .inr (3, [.int 0, .long 0, .long 0, .long 0])), (s2, .inr (3, [.int 0, .long 0, .long 0, .long 0]))] := hD
  refine W.widen (k := 8) (n := 2013) (by omega) (by omega) ?_
  refine lv_dup hx hb dX1_init_34 rfl ?_
  refine jw_v (wr := [(h0, .inr (1, [.int (nI g), .ref fa, .ref s1, .null, .int 0, .int 0])), (fa, .inl (cQ, 5, .inr (.inr (.inr (.inr (fun j => if j < 5 then some (fa + 1 + j) else none)))))), (fa + 1, .inl (cL, g, .inr (.inl (fun _ => 0)))), (fa + 2, .inl (cL, g, .inr (.inl (fun _ => 0)))), (fa + 3, .inl (cL, g, .inr (.inl (fun _ => 0)))), (fa + 4, .inl (cL, g, .inr (.inl (fun _ => 0)))), (fa + 5, .inl (cL, g, .inr (.inl (fun _ => 0)))), (s1, .inr (3, [.int 0, .long 0, .long 0, .long 0]))]) (va_runIN (As := []) (rest := [.ref s2, .ref h0]) ⟨hx, hb, hml, hown, hts⟩ (cS_init l D cI cL cQ s2 _) ⟨(va_cnB 0 hts gX1_init_X3_init_n22 rfl rfl rfl (hN.2.1 (RX1, 22, yX3_init, "JoinDesk") (by decide +kernel)) (hts (.initialized RX3) (by decide +kernel)) (by decide +kernel) ⟨Nat.le_of_ble_eq_true rfl, Nat.le_of_ble_eq_true rfl⟩), rfl, hts (.instanceMethod yX3_init) (by decide +kernel)⟩ (jw_S hK hN hP hD [8] (by decide) rfl) rfl rfl hl.1 rfl (lv_room (Nat.le_of_ble_eq_true rfl)) dX1_init_35 ⟨Nat.le_of_ble_eq_true rfl, Nat.le_of_ble_eq_true rfl⟩) hP hD hS hA [8] [0, 1, 2, 3, 4, 5, 6, 7] rfl rfl (by decide) (by decide) (fun u H locs f_2 hP hD hS => ?_)
  obtain rfl := f_2
  have hP : va_P D vwCl [(h0, .inr (1, [.int (nI g), .ref fa, .ref s1, .null, .int 0, .int 0])), (fa, .inl (cQ, 5, .inr (.inr (.inr (.inr (fun j => if j < 5 then some (fa + 1 + j) else none)))))), (fa + 1, .inl (cL, g, .inr (.inl (fun _ => 0)))), (fa + 2, .inl (cL, g, .inr (.inl (fun _ => 0)))), (fa + 3, .inl (cL, g, .inr (.inl (fun _ => 0)))), (fa + 4, .inl (cL, g, .inr (.inl (fun _ => 0)))), (fa + 5, .inl (cL, g, .inr (.inl (fun _ => 0)))), (s1, .inr (3, [.int 0, .long 0, .long 0, .long 0])), (s2, .inr (3, [.int 0, .long 0, .long 0, .long 0]))] H := hP
  have hD : va_D A [(h0, .inr (1, [.int (nI g), .ref fa, .ref s1, .null, .int 0, .int 0])), (fa, .inl (cQ, 5, .inr (.inr (.inr (.inr (fun j => if j < 5 then some (fa + 1 + j) else none)))))), (fa + 1, .inl (cL, g, .inr (.inl (fun _ => 0)))), (fa + 2, .inl (cL, g, .inr (.inl (fun _ => 0)))), (fa + 3, .inl (cL, g, .inr (.inl (fun _ => 0)))), (fa + 4, .inl (cL, g, .inr (.inl (fun _ => 0)))), (fa + 5, .inl (cL, g, .inr (.inl (fun _ => 0)))), (s1, .inr (3, [.int 0, .long 0, .long 0, .long 0])), (s2, .inr (3, [.int 0, .long 0, .long 0, .long 0]))] := hD
  refine va_putF (D := D) (ci := 1) (v := .ref s2) (ty := .object "JoinDesk$Span") (C := RX1) (T := TX1) (N := 6) hx hb hts (by decide +kernel) tyX1 tyX1_ok nmX1 hown hK hP hD hS 0 rfl rfl 3 (by decide) (hts (.fieldLink RX1 27 "JoinDesk$GroupBook" "rightSpan" "LJoinDesk$Span;") (by decide +kernel)) (fun _ h9 => h9) rfl hin rfl (by decide +kernel) rfl rfl (Nat.le_of_ble_eq_true rfl) dX1_init_38 (fun H locs hP hD hS => ?_)
  have hP : va_P D vwCl [(h0, .inr (1, [.int (nI g), .ref fa, .ref s1, .ref s2, .int 0, .int 0])), (fa, .inl (cQ, 5, .inr (.inr (.inr (.inr (fun j => if j < 5 then some (fa + 1 + j) else none)))))), (fa + 1, .inl (cL, g, .inr (.inl (fun _ => 0)))), (fa + 2, .inl (cL, g, .inr (.inl (fun _ => 0)))), (fa + 3, .inl (cL, g, .inr (.inl (fun _ => 0)))), (fa + 4, .inl (cL, g, .inr (.inl (fun _ => 0)))), (fa + 5, .inl (cL, g, .inr (.inl (fun _ => 0)))), (s1, .inr (3, [.int 0, .long 0, .long 0, .long 0])), (s2, .inr (3, [.int 0, .long 0, .long 0, .long 0]))] H := hP
  have hD : va_D A [(h0, .inr (1, [.int (nI g), .ref fa, .ref s1, .ref s2, .int 0, .int 0])), (fa, .inl (cQ, 5, .inr (.inr (.inr (.inr (fun j => if j < 5 then some (fa + 1 + j) else none)))))), (fa + 1, .inl (cL, g, .inr (.inl (fun _ => 0)))), (fa + 2, .inl (cL, g, .inr (.inl (fun _ => 0)))), (fa + 3, .inl (cL, g, .inr (.inl (fun _ => 0)))), (fa + 4, .inl (cL, g, .inr (.inl (fun _ => 0)))), (fa + 5, .inl (cL, g, .inr (.inl (fun _ => 0)))), (s1, .inr (3, [.int 0, .long 0, .long 0, .long 0])), (s2, .inr (3, [.int 0, .long 0, .long 0, .long 0]))] := hD
  refine lv_aload_n hx hb dX1_init_41 rfl (lv_at hl 0 rfl) ?_
  refine lv_iconst (v := 0) hx hb dX1_init_42 (by decide) ?_
  refine va_put (D := D) (ci := 1) (v := .int 0) (ty := .int) (C := RX1) (T := TX1) (N := 6) hx hb hts (by decide +kernel) tyX1 tyX1_ok nmX1 hown hK hP hD hS 0 rfl rfl 4 (by decide) (hts (.fieldLink RX1 30 "JoinDesk$GroupBook" "size" "I") (by decide +kernel)) (fun _ h9 => h9) rfl (by decide +kernel) rfl rfl (Nat.le_of_ble_eq_true rfl) dX1_init_43 (fun H locs hP hD hS => ?_)
  have hP : va_P D vwCl [(h0, .inr (1, [.int (nI g), .ref fa, .ref s1, .ref s2, .int 0, .int 0])), (fa, .inl (cQ, 5, .inr (.inr (.inr (.inr (fun j => if j < 5 then some (fa + 1 + j) else none)))))), (fa + 1, .inl (cL, g, .inr (.inl (fun _ => 0)))), (fa + 2, .inl (cL, g, .inr (.inl (fun _ => 0)))), (fa + 3, .inl (cL, g, .inr (.inl (fun _ => 0)))), (fa + 4, .inl (cL, g, .inr (.inl (fun _ => 0)))), (fa + 5, .inl (cL, g, .inr (.inl (fun _ => 0)))), (s1, .inr (3, [.int 0, .long 0, .long 0, .long 0])), (s2, .inr (3, [.int 0, .long 0, .long 0, .long 0]))] H := hP
  have hD : va_D A [(h0, .inr (1, [.int (nI g), .ref fa, .ref s1, .ref s2, .int 0, .int 0])), (fa, .inl (cQ, 5, .inr (.inr (.inr (.inr (fun j => if j < 5 then some (fa + 1 + j) else none)))))), (fa + 1, .inl (cL, g, .inr (.inl (fun _ => 0)))), (fa + 2, .inl (cL, g, .inr (.inl (fun _ => 0)))), (fa + 3, .inl (cL, g, .inr (.inl (fun _ => 0)))), (fa + 4, .inl (cL, g, .inr (.inl (fun _ => 0)))), (fa + 5, .inl (cL, g, .inr (.inl (fun _ => 0)))), (s1, .inr (3, [.int 0, .long 0, .long 0, .long 0])), (s2, .inr (3, [.int 0, .long 0, .long 0, .long 0]))] := hD
  refine lv_aload_n hx hb dX1_init_46 rfl (lv_at hl 0 rfl) ?_
  refine lv_iconst (v := 0) hx hb dX1_init_47 (by decide) ?_
  refine va_put (D := D) (ci := 1) (v := .int 0) (ty := .boolean) (C := RX1) (T := TX1) (N := 6) hx hb hts (by decide +kernel) tyX1 tyX1_ok nmX1 hown hK hP hD hS 0 rfl rfl 5 (by decide) (hts (.fieldLink RX1 33 "JoinDesk$GroupBook" "told" "Z") (by decide +kernel)) (fun _ h9 => h9) rfl (by decide +kernel) rfl rfl (Nat.le_of_ble_eq_true rfl) dX1_init_48 (fun H locs hP hD hS => ?_)
  have hP : va_P D vwCl [(h0, .inr (1, [.int (nI g), .ref fa, .ref s1, .ref s2, .int 0, .int 0])), (fa, .inl (cQ, 5, .inr (.inr (.inr (.inr (fun j => if j < 5 then some (fa + 1 + j) else none)))))), (fa + 1, .inl (cL, g, .inr (.inl (fun _ => 0)))), (fa + 2, .inl (cL, g, .inr (.inl (fun _ => 0)))), (fa + 3, .inl (cL, g, .inr (.inl (fun _ => 0)))), (fa + 4, .inl (cL, g, .inr (.inl (fun _ => 0)))), (fa + 5, .inl (cL, g, .inr (.inl (fun _ => 0)))), (s1, .inr (3, [.int 0, .long 0, .long 0, .long 0])), (s2, .inr (3, [.int 0, .long 0, .long 0, .long 0]))] H := hP
  have hD : va_D A [(h0, .inr (1, [.int (nI g), .ref fa, .ref s1, .ref s2, .int 0, .int 0])), (fa, .inl (cQ, 5, .inr (.inr (.inr (.inr (fun j => if j < 5 then some (fa + 1 + j) else none)))))), (fa + 1, .inl (cL, g, .inr (.inl (fun _ => 0)))), (fa + 2, .inl (cL, g, .inr (.inl (fun _ => 0)))), (fa + 3, .inl (cL, g, .inr (.inl (fun _ => 0)))), (fa + 4, .inl (cL, g, .inr (.inl (fun _ => 0)))), (fa + 5, .inl (cL, g, .inr (.inl (fun _ => 0)))), (s1, .inr (3, [.int 0, .long 0, .long 0, .long 0])), (s2, .inr (3, [.int 0, .long 0, .long 0, .long 0]))] := hD
  refine W.widen (k := 8) (n := 2013) (by omega) (by omega) ?_
  exact W.vret hx hb hr (fun t ht hW => ⟨⟨[(h0, .inr (1, [.int (nI g), .ref fa, .ref s1, .ref s2, .int 0, .int 0])), (fa, .inl (cQ, 5, .inr (.inr (.inr (.inr (fun j => if j < 5 then some (fa + 1 + j) else none)))))), (fa + 1, .inl (cL, g, .inr (.inl (fun _ => 0)))), (fa + 2, .inl (cL, g, .inr (.inl (fun _ => 0)))), (fa + 3, .inl (cL, g, .inr (.inl (fun _ => 0)))), (fa + 4, .inl (cL, g, .inr (.inl (fun _ => 0)))), (fa + 5, .inl (cL, g, .inr (.inl (fun _ => 0)))), (s1, .inr (3, [.int 0, .long 0, .long 0, .long 0])), (s2, .inr (3, [.int 0, .long 0, .long 0, .long 0]))], rfl, (by exact ⟨_, _, _, rfl⟩), by rw [ht]; exact hP, hD⟩, hS.F ht⟩) hS.2.2 dX1_init_51
