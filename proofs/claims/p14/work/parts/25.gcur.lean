set_option maxHeartbeats 1000000 in
set_option maxRecDepth 100000 in
theorem gC_kindInUse (l : Launch) (D : va_G) (cI cL cQ : ClassId) (h0 : Nat) (tl : Nat) (tr : Nat) (he : Nat) (ma : Nat) (hm : Int32) (kd : Int32) (cc0 : Int64) : Met l yX0_kindInUse wsX0_kindInUse ({ frames := 0, cells := 0, slots := 0, locals := 0 }) (jr_P D vwCl (jT cI cL cQ) cL cQ [.ref h0] [(h0, .inr (0, [.ref tl, .ref tr, .ref he, .ref ma, .int hm, .int kd, .long cc0]))]) (vp_Si (fun r : Int32 => r = kd)) 0 0 (fun _ => False) := by
  refine Met.ofW (cc := cX0_kindInUse) (maxL := 1) (ret := (some .int)) (by decide) rfl ?_
  intro p e s m args below meth c s₁ B hml hv
  obtain ⟨rfl, hP, hK, hN⟩ := hv
  have hx := B.exec
  have hb := B.bytes
  have hr := B.returns
  have hts := atoms_spec (ws := wsX0_kindInUse) B.pre
  have hown : s.vm.findClass RX0 = some m.cls := findClass_of_methodNamed B.named
  have hlocks := B.notSynchronized
  have hl := lv_entry ([.ref h0]) (n := 1) (Nat.le_of_ble_eq_true rfl)
  rw [lg_entry_eq]
  generalize (lg_sl ([.ref h0]) ++ List.replicate (1 - (lg_sl ([.ref h0])).length) Slot.unset).toArray = ls at hl ⊢
  have hl : lv_has ls 1 [(0, .ref h0)] := hl
  refine lv_aload_n hx hb dX0_kindInUse_0 rfl (lv_at hl 0 rfl) ?_
  refine va_get (D := D) (ci := 0) (v := .int kd) (C := RX0) (T := TX0) (N := 7) hx hb hts (by decide +kernel) hown hK hP 0 rfl rfl 5 (by decide) (hts (.fieldLink RX0 32 "JoinDesk$Cursor" "kind" "I") (by decide +kernel)) (fun _ h9 => h9) rfl dX0_kindInUse_1 ?_
  exact W.iret (v := kd) hx hb hr (fun t ht hW => ⟨kd, rfl, (by exact rfl), ht⟩) (fun _ h => nomatch h) dX0_kindInUse_4
set_option maxHeartbeats 1000000 in
set_option maxRecDepth 100000 in
theorem gC_cellsRead (l : Launch) (D : va_G) (cI cL cQ : ClassId) (h0 : Nat) (tl : Nat) (tr : Nat) (he : Nat) (ma : Nat) (hm : Int32) (kd : Int32) (cc0 : Int64) : Met l yX0_cellsRead wsX0_cellsRead ({ frames := 0, cells := 0, slots := 0, locals := 0 }) (jr_P D vwCl (jT cI cL cQ) cL cQ [.ref h0] [(h0, .inr (0, [.ref tl, .ref tr, .ref he, .ref ma, .int hm, .int kd, .long cc0]))]) (vp_Sl (fun r : Int64 => r = cc0)) 0 0 (fun _ => False) := by
  refine Met.ofW (cc := cX0_cellsRead) (maxL := 1) (ret := (some .long)) (by decide) rfl ?_
  intro p e s m args below meth c s₁ B hml hv
  obtain ⟨rfl, hP, hK, hN⟩ := hv
  have hx := B.exec
  have hb := B.bytes
  have hr := B.returns
  have hts := atoms_spec (ws := wsX0_cellsRead) B.pre
  have hown : s.vm.findClass RX0 = some m.cls := findClass_of_methodNamed B.named
  have hlocks := B.notSynchronized
  have hl := lv_entry ([.ref h0]) (n := 1) (Nat.le_of_ble_eq_true rfl)
  rw [lg_entry_eq]
  generalize (lg_sl ([.ref h0]) ++ List.replicate (1 - (lg_sl ([.ref h0])).length) Slot.unset).toArray = ls at hl ⊢
  have hl : lv_has ls 1 [(0, .ref h0)] := hl
  refine lv_aload_n hx hb dX0_cellsRead_0 rfl (lv_at hl 0 rfl) ?_
  refine va_get (D := D) (ci := 0) (v := .long cc0) (C := RX0) (T := TX0) (N := 7) hx hb hts (by decide +kernel) hown hK hP 0 rfl rfl 6 (by decide) (hts (.fieldLink RX0 36 "JoinDesk$Cursor" "cells" "J") (by decide +kernel)) (fun _ h9 => h9) rfl dX0_cellsRead_1 ?_
  exact W.lret (v := cc0) hx hb hr (fun t ht hW => ⟨cc0, rfl, (by exact rfl), ht⟩) (fun _ h => nomatch h) dX0_cellsRead_4
set_option maxHeartbeats 1000000 in
set_option maxRecDepth 100000 in
theorem gC_hasMark_0 (l : Launch) (D : va_G) (cI cL cQ : ClassId) (h0 : Nat) (tl : Nat) (tr : Nat) (he : Nat) (ma : Nat) (kd : Int32) (cc0 : Int64) : Met l yX0_hasMark wsX0_hasMark ({ frames := 0, cells := 0, slots := 0, locals := 0 }) (jr_P D vwCl (jT cI cL cQ) cL cQ [.ref h0] [(h0, .inr (0, [.ref tl, .ref tr, .ref he, .ref ma, .int 0, .int kd, .long cc0]))]) (vp_Si (fun r : Int32 => r = 0)) 0 0 (fun _ => False) := by
  refine Met.ofW (cc := cX0_hasMark) (maxL := 1) (ret := (some .boolean)) (by decide) rfl ?_
  intro p e s m args below meth c s₁ B hml hv
  obtain ⟨rfl, hP, hK, hN⟩ := hv
  have hx := B.exec
  have hb := B.bytes
  have hr := B.returns
  have hts := atoms_spec (ws := wsX0_hasMark) B.pre
  have hown : s.vm.findClass RX0 = some m.cls := findClass_of_methodNamed B.named
  have hlocks := B.notSynchronized
  have hl := lv_entry ([.ref h0]) (n := 1) (Nat.le_of_ble_eq_true rfl)
  rw [lg_entry_eq]
  generalize (lg_sl ([.ref h0]) ++ List.replicate (1 - (lg_sl ([.ref h0])).length) Slot.unset).toArray = ls at hl ⊢
  have hl : lv_has ls 1 [(0, .ref h0)] := hl
  refine lv_aload_n hx hb dX0_hasMark_0 rfl (lv_at hl 0 rfl) ?_
  refine va_get (D := D) (ci := 0) (v := .int 0) (C := RX0) (T := TX0) (N := 7) hx hb hts (by decide +kernel) hown hK hP 0 rfl rfl 4 (by decide) (hts (.fieldLink RX0 28 "JoinDesk$Cursor" "hasMark" "Z") (by decide +kernel)) (fun _ h9 => h9) rfl dX0_hasMark_1 ?_
  exact W.zret (v := 0) (ty := .boolean) hx hb hr rfl (fun t ht hW => ⟨0, rfl, (by exact rfl), ht⟩) (fun _ h => nomatch h) dX0_hasMark_4
set_option maxHeartbeats 1000000 in
set_option maxRecDepth 100000 in
theorem gC_hasMark_1 (l : Launch) (D : va_G) (cI cL cQ : ClassId) (h0 : Nat) (tl : Nat) (tr : Nat) (he : Nat) (ma : Nat) (kd : Int32) (cc0 : Int64) : Met l yX0_hasMark wsX0_hasMark ({ frames := 0, cells := 0, slots := 0, locals := 0 }) (jr_P D vwCl (jT cI cL cQ) cL cQ [.ref h0] [(h0, .inr (0, [.ref tl, .ref tr, .ref he, .ref ma, .int 1, .int kd, .long cc0]))]) (vp_Si (fun r : Int32 => r = 1)) 0 0 (fun _ => False) := by
  refine Met.ofW (cc := cX0_hasMark) (maxL := 1) (ret := (some .boolean)) (by decide) rfl ?_
  intro p e s m args below meth c s₁ B hml hv
  obtain ⟨rfl, hP, hK, hN⟩ := hv
  have hx := B.exec
  have hb := B.bytes
  have hr := B.returns
  have hts := atoms_spec (ws := wsX0_hasMark) B.pre
  have hown : s.vm.findClass RX0 = some m.cls := findClass_of_methodNamed B.named
  have hlocks := B.notSynchronized
  have hl := lv_entry ([.ref h0]) (n := 1) (Nat.le_of_ble_eq_true rfl)
  rw [lg_entry_eq]
  generalize (lg_sl ([.ref h0]) ++ List.replicate (1 - (lg_sl ([.ref h0])).length) Slot.unset).toArray = ls at hl ⊢
  have hl : lv_has ls 1 [(0, .ref h0)] := hl
  refine lv_aload_n hx hb dX0_hasMark_0 rfl (lv_at hl 0 rfl) ?_
  refine va_get (D := D) (ci := 0) (v := .int 1) (C := RX0) (T := TX0) (N := 7) hx hb hts (by decide +kernel) hown hK hP 0 rfl rfl 4 (by decide) (hts (.fieldLink RX0 28 "JoinDesk$Cursor" "hasMark" "Z") (by decide +kernel)) (fun _ h9 => h9) rfl dX0_hasMark_1 ?_
  exact W.zret (v := 1) (ty := .boolean) hx hb hr rfl (fun t ht hW => ⟨1, rfl, (by exact rfl), ht⟩) (fun _ h => nomatch h) dX0_hasMark_4
set_option maxHeartbeats 1000000 in
set_option maxRecDepth 100000 in
theorem gC_leftPlace (l : Launch) (D : va_G) (cI cL cQ : ClassId) (h0 : Nat) (tl : Nat) (tr : Nat) (he : Nat) (ma : Nat) (hm : Int32) (kd : Int32) (cc0 : Int64) (p0 : Int32) (p1 : Int32) (p2 : Int32) (p3 : Int32) (p4 : Int32) (p5 : Int32) (p6 : Int32) : Met l yX0_leftPlace wsX0_leftPlace ({ frames := 0, cells := 0, slots := 0, locals := 0 }) (jr_P D vwCl (jT cI cL cQ) cL cQ [.ref h0] [(h0, .inr (0, [.ref tl, .ref tr, .ref he, .ref ma, .int hm, .int kd, .long cc0])), (he, .inr (2, [.int p0, .int p1, .int p2, .int p3, .int p4, .int p5, .int p6]))]) (vp_Si (fun r : Int32 => r = p4)) 0 0 (fun _ => False) := by
  refine Met.ofW (cc := cX0_leftPlace) (maxL := 1) (ret := (some .int)) (by decide) rfl ?_
  intro p e s m args below meth c s₁ B hml hv
  obtain ⟨rfl, hP, hK, hN⟩ := hv
  have hx := B.exec
  have hb := B.bytes
  have hr := B.returns
  have hts := atoms_spec (ws := wsX0_leftPlace) B.pre
  have hown : s.vm.findClass RX0 = some m.cls := findClass_of_methodNamed B.named
  have hlocks := B.notSynchronized
  have hl := lv_entry ([.ref h0]) (n := 1) (Nat.le_of_ble_eq_true rfl)
  rw [lg_entry_eq]
  generalize (lg_sl ([.ref h0]) ++ List.replicate (1 - (lg_sl ([.ref h0])).length) Slot.unset).toArray = ls at hl ⊢
  have hl : lv_has ls 1 [(0, .ref h0)] := hl
  refine lv_aload_n hx hb dX0_leftPlace_0 rfl (lv_at hl 0 rfl) ?_
  refine va_get (D := D) (ci := 0) (v := .ref he) (C := RX0) (T := TX0) (N := 7) hx hb hts (by decide +kernel) hown hK hP 0 rfl rfl 2 (by decide) (hts (.fieldLink RX0 21 "JoinDesk$Cursor" "here" "LJoinDesk$Position;") (by decide +kernel)) (fun _ h9 => h9) rfl dX0_leftPlace_1 ?_
  refine va_getN (D := D) (ci := 2) (v := .int p4) (C := RX2) (T := TX2) (N := 7) hx hb hts (by decide +kernel) hown hK hP 1 rfl rfl 4 (by decide) (va_Nw.use rfl (hN.1 (RX0, 40, "JoinDesk$Position", "leftAt", "I", "JoinDesk") (by decide +kernel))) (fun _ h9 => h9) rfl dX0_leftPlace_4 ?_
  exact W.iret (v := p4) hx hb hr (fun t ht hW => ⟨p4, rfl, (by exact rfl), ht⟩) (fun _ h => nomatch h) dX0_leftPlace_7
set_option maxHeartbeats 1000000 in
set_option maxRecDepth 100000 in
theorem gC_rightPlace (l : Launch) (D : va_G) (cI cL cQ : ClassId) (h0 : Nat) (tl : Nat) (tr : Nat) (he : Nat) (ma : Nat) (hm : Int32) (kd : Int32) (cc0 : Int64) (p0 : Int32) (p1 : Int32) (p2 : Int32) (p3 : Int32) (p4 : Int32) (p5 : Int32) (p6 : Int32) : Met l yX0_rightPlace wsX0_rightPlace ({ frames := 0, cells := 0, slots := 0, locals := 0 }) (jr_P D vwCl (jT cI cL cQ) cL cQ [.ref h0] [(h0, .inr (0, [.ref tl, .ref tr, .ref he, .ref ma, .int hm, .int kd, .long cc0])), (he, .inr (2, [.int p0, .int p1, .int p2, .int p3, .int p4, .int p5, .int p6]))]) (vp_Si (fun r : Int32 => r = p5)) 0 0 (fun _ => False) := by
  refine Met.ofW (cc := cX0_rightPlace) (maxL := 1) (ret := (some .int)) (by decide) rfl ?_
  intro p e s m args below meth c s₁ B hml hv
  obtain ⟨rfl, hP, hK, hN⟩ := hv
  have hx := B.exec
  have hb := B.bytes
  have hr := B.returns
  have hts := atoms_spec (ws := wsX0_rightPlace) B.pre
  have hown : s.vm.findClass RX0 = some m.cls := findClass_of_methodNamed B.named
  have hlocks := B.notSynchronized
  have hl := lv_entry ([.ref h0]) (n := 1) (Nat.le_of_ble_eq_true rfl)
  rw [lg_entry_eq]
  generalize (lg_sl ([.ref h0]) ++ List.replicate (1 - (lg_sl ([.ref h0])).length) Slot.unset).toArray = ls at hl ⊢
  have hl : lv_has ls 1 [(0, .ref h0)] := hl
  refine lv_aload_n hx hb dX0_rightPlace_0 rfl (lv_at hl 0 rfl) ?_
  refine va_get (D := D) (ci := 0) (v := .ref he) (C := RX0) (T := TX0) (N := 7) hx hb hts (by decide +kernel) hown hK hP 0 rfl rfl 2 (by decide) (hts (.fieldLink RX0 21 "JoinDesk$Cursor" "here" "LJoinDesk$Position;") (by decide +kernel)) (fun _ h9 => h9) rfl dX0_rightPlace_1 ?_
  refine va_getN (D := D) (ci := 2) (v := .int p5) (C := RX2) (T := TX2) (N := 7) hx hb hts (by decide +kernel) hown hK hP 1 rfl rfl 5 (by decide) (va_Nw.use rfl (hN.1 (RX0, 43, "JoinDesk$Position", "rightAt", "I", "JoinDesk") (by decide +kernel))) (fun _ h9 => h9) rfl dX0_rightPlace_4 ?_
  exact W.iret (v := p5) hx hb hr (fun t ht hW => ⟨p5, rfl, (by exact rfl), ht⟩) (fun _ h => nomatch h) dX0_rightPlace_7
set_option maxHeartbeats 1000000 in
set_option maxRecDepth 100000 in
theorem gC_useKind (l : Launch) (D : va_G) (cI cL cQ : ClassId) (h0 : Nat) (tl : Nat) (tr : Nat) (he : Nat) (ma : Nat) (hm : Int32) (kd : Int32) (cc0 : Int64) (x : Int32) (sz : Nat) : Met l yX0_useKind wsX0_useKind ({ frames := 0, cells := 0, slots := 0, locals := 0 }) (jw_P D vwCl (jT cI cL cQ) cL cQ [.ref h0, .int x] [(h0, .inr (0, [.ref tl, .ref tr, .ref he, .ref ma, .int hm, .int kd, .long cc0]))] sz) (va_Qv (fun u : va_W => u = [(h0, .inr (0, [.ref tl, .ref tr, .ref he, .ref ma, .int hm, .int x, .long cc0]))]) (jw_B D vwCl (va_A [(h0, .inr (0, [.ref tl, .ref tr, .ref he, .ref ma, .int hm, .int kd, .long cc0]))] sz) (fun u : va_W => u)) (va_A [(h0, .inr (0, [.ref tl, .ref tr, .ref he, .ref ma, .int hm, .int kd, .long cc0]))] sz)) 0 0 (va_A [(h0, .inr (0, [.ref tl, .ref tr, .ref he, .ref ma, .int hm, .int kd, .long cc0]))] sz) := by
  refine Met.ofW (cc := cX0_useKind) (maxL := 2) (ret := none) (by decide) rfl ?_
  intro p e s m args below meth c s₁ B hml hv
  obtain ⟨rfl, hsz, hP, hK, hN, hD0⟩ := hv
  have hx := B.exec
  have hb := B.bytes
  have hr := B.returns
  have hts := atoms_spec (ws := wsX0_useKind) B.pre
  have hown : s.vm.findClass RX0 = some m.cls := findClass_of_methodNamed B.named
  have hlocks := B.notSynchronized
  subst hsz
  have hD := hD0.self (sz := s.heap.size)
  generalize hAe : va_A [(h0, .inr (0, [.ref tl, .ref tr, .ref he, .ref ma, .int hm, .int kd, .long cc0]))] s.heap.size = A at hD ⊢
  have hA : ∀ q : Nat, s.heap.size ≤ q → A q := fun q h => by rw [← hAe]; exact Or.inr h
  have hS : va_S A s.heap s.heap [] := va_S.rf
  have hl := lv_entry ([.ref h0, .int x]) (n := 2) (Nat.le_of_ble_eq_true rfl)
  rw [lg_entry_eq]
  generalize (lg_sl ([.ref h0, .int x]) ++ List.replicate (2 - (lg_sl ([.ref h0, .int x])).length) Slot.unset).toArray = ls at hl ⊢
  have hl : lv_has ls 2 [(0, .ref h0), (1, .int x)] := hl
  refine lv_aload_n hx hb dX0_useKind_0 rfl (lv_at hl 0 rfl) ?_
  refine lv_iload_n hx hb dX0_useKind_1 rfl (lv_at hl 1 rfl) ?_
  refine va_put (D := D) (ci := 0) (v := .int x) (ty := .int) (C := RX0) (T := TX0) (N := 7) hx hb hts (by decide +kernel) tyX0 tyX0_ok nmX0 hown hK hP hD hS 0 rfl rfl 5 (by decide) (hts (.fieldLink RX0 32 "JoinDesk$Cursor" "kind" "I") (by decide +kernel)) (fun _ h9 => h9) rfl (by decide +kernel) rfl rfl (Nat.le_of_ble_eq_true rfl) dX0_useKind_2 (fun H locs hP hD hS => ?_)
  have hP : va_P D vwCl [(h0, .inr (0, [.ref tl, .ref tr, .ref he, .ref ma, .int hm, .int x, .long cc0]))] H := hP
  have hD : va_D A [(h0, .inr (0, [.ref tl, .ref tr, .ref he, .ref ma, .int hm, .int x, .long cc0]))] := hD
  refine W.widen (k := 0) (n := 0) (by omega) (by omega) ?_
  exact W.vret hx hb hr (fun t ht hW => ⟨⟨[(h0, .inr (0, [.ref tl, .ref tr, .ref he, .ref ma, .int hm, .int x, .long cc0]))], rfl, (by exact rfl), by rw [ht]; exact hP, hD⟩, hS.F ht⟩) hS.2.2 dX0_useKind_5
set_option maxHeartbeats 1000000 in
set_option maxRecDepth 100000 in
theorem gC_forgetMark (l : Launch) (D : va_G) (cI cL cQ : ClassId) (h0 : Nat) (tl : Nat) (tr : Nat) (he : Nat) (ma : Nat) (hm : Int32) (kd : Int32) (cc0 : Int64) (sz : Nat) : Met l yX0_forgetMark wsX0_forgetMark ({ frames := 0, cells := 0, slots := 0, locals := 0 }) (jw_P D vwCl (jT cI cL cQ) cL cQ [.ref h0] [(h0, .inr (0, [.ref tl, .ref tr, .ref he, .ref ma, .int hm, .int kd, .long cc0]))] sz) (va_Qv (fun u : va_W => u = [(h0, .inr (0, [.ref tl, .ref tr, .ref he, .ref ma, .int 0, .int kd, .long cc0]))]) (jw_B D vwCl (va_A [(h0, .inr (0, [.ref tl, .ref tr, .ref he, .ref ma, .int hm, .int kd, .long cc0]))] sz) (fun u : va_W => u)) (va_A [(h0, .inr (0, [.ref tl, .ref tr, .ref he, .ref ma, .int hm, .int kd, .long cc0]))] sz)) 0 0 (va_A [(h0, .inr (0, [.ref tl, .ref tr, .ref he, .ref ma, .int hm, .int kd, .long cc0]))] sz) := by
  refine Met.ofW (cc := cX0_forgetMark) (maxL := 1) (ret := none) (by decide) rfl ?_
  intro p e s m args below meth c s₁ B hml hv
  obtain ⟨rfl, hsz, hP, hK, hN, hD0⟩ := hv
  have hx := B.exec
  have hb := B.bytes
  have hr := B.returns
  have hts := atoms_spec (ws := wsX0_forgetMark) B.pre
  have hown : s.vm.findClass RX0 = some m.cls := findClass_of_methodNamed B.named
  have hlocks := B.notSynchronized
  subst hsz
  have hD := hD0.self (sz := s.heap.size)
  generalize hAe : va_A [(h0, .inr (0, [.ref tl, .ref tr, .ref he, .ref ma, .int hm, .int kd, .long cc0]))] s.heap.size = A at hD ⊢
  have hA : ∀ q : Nat, s.heap.size ≤ q → A q := fun q h => by rw [← hAe]; exact Or.inr h
  have hS : va_S A s.heap s.heap [] := va_S.rf
  have hl := lv_entry ([.ref h0]) (n := 1) (Nat.le_of_ble_eq_true rfl)
  rw [lg_entry_eq]
  generalize (lg_sl ([.ref h0]) ++ List.replicate (1 - (lg_sl ([.ref h0])).length) Slot.unset).toArray = ls at hl ⊢
  have hl : lv_has ls 1 [(0, .ref h0)] := hl
  refine lv_aload_n hx hb dX0_forgetMark_0 rfl (lv_at hl 0 rfl) ?_
  refine lv_iconst (v := 0) hx hb dX0_forgetMark_1 (by decide) ?_
  refine va_put (D := D) (ci := 0) (v := .int 0) (ty := .boolean) (C := RX0) (T := TX0) (N := 7) hx hb hts (by decide +kernel) tyX0 tyX0_ok nmX0 hown hK hP hD hS 0 rfl rfl 4 (by decide) (hts (.fieldLink RX0 28 "JoinDesk$Cursor" "hasMark" "Z") (by decide +kernel)) (fun _ h9 => h9) rfl (by decide +kernel) rfl rfl (Nat.le_of_ble_eq_true rfl) dX0_forgetMark_2 (fun H locs hP hD hS => ?_)
  have hP : va_P D vwCl [(h0, .inr (0, [.ref tl, .ref tr, .ref he, .ref ma, .int 0, .int kd, .long cc0]))] H := hP
  have hD : va_D A [(h0, .inr (0, [.ref tl, .ref tr, .ref he, .ref ma, .int 0, .int kd, .long cc0]))] := hD
  refine W.widen (k := 0) (n := 0) (by omega) (by omega) ?_
  exact W.vret hx hb hr (fun t ht hW => ⟨⟨[(h0, .inr (0, [.ref tl, .ref tr, .ref he, .ref ma, .int 0, .int kd, .long cc0]))], rfl, (by exact rfl), by rw [ht]; exact hP, hD⟩, hS.F ht⟩) hS.2.2 dX0_forgetMark_5
set_option maxHeartbeats 1000000 in
set_option maxRecDepth 100000 in
theorem gC_restart (l : Launch) (D : va_G) (cI cL cQ : ClassId) (h0 : Nat) (tl : Nat) (tr : Nat) (he : Nat) (ma : Nat) (hm : Int32) (kd : Int32) (cc0 : Int64) (p0 : Int32) (p1 : Int32) (p2 : Int32) (p3 : Int32) (p4 : Int32) (p5 : Int32) (p6 : Int32) (sz : Nat) : Met l yX0_restart wsX0_restart ({ frames := 1, cells := 0, slots := 0, locals := 23 }) (jw_P D vwCl (jT cI cL cQ) cL cQ [.ref h0] [(h0, .inr (0, [.ref tl, .ref tr, .ref he, .ref ma, .int hm, .int kd, .long cc0])), (he, .inr (2, [.int p0, .int p1, .int p2, .int p3, .int p4, .int p5, .int p6]))] sz) (va_Qv (fun u : va_W => u = [(h0, .inr (0, [.ref tl, .ref tr, .ref he, .ref ma, .int hm, .int kd, .long 0])), (he, .inr (2, [.int 0, .int 0, .int 0, .int 0, .int (-1), .int (-1), .int 0]))]) (jw_B D vwCl (va_A [(h0, .inr (0, [.ref tl, .ref tr, .ref he, .ref ma, .int hm, .int kd, .long cc0])), (he, .inr (2, [.int p0, .int p1, .int p2, .int p3, .int p4, .int p5, .int p6]))] sz) (fun u : va_W => u)) (va_A [(h0, .inr (0, [.ref tl, .ref tr, .ref he, .ref ma, .int hm, .int kd, .long cc0])), (he, .inr (2, [.int p0, .int p1, .int p2, .int p3, .int p4, .int p5, .int p6]))] sz)) 0 0 (va_A [(h0, .inr (0, [.ref tl, .ref tr, .ref he, .ref ma, .int hm, .int kd, .long cc0])), (he, .inr (2, [.int p0, .int p1, .int p2, .int p3, .int p4, .int p5, .int p6]))] sz) := by
  refine Met.ofW (cc := cX0_restart) (maxL := 1) (ret := none) (by decide) rfl ?_
  intro p e s m args below meth c s₁ B hml hv
  obtain ⟨rfl, hsz, hP, hK, hN, hD0⟩ := hv
  have hx := B.exec
  have hb := B.bytes
  have hr := B.returns
  have hts := atoms_spec (ws := wsX0_restart) B.pre
  have hown : s.vm.findClass RX0 = some m.cls := findClass_of_methodNamed B.named
  have hlocks := B.notSynchronized
  subst hsz
  have hD := hD0.self (sz := s.heap.size)
  generalize hAe : va_A [(h0, .inr (0, [.ref tl, .ref tr, .ref he, .ref ma, .int hm, .int kd, .long cc0])), (he, .inr (2, [.int p0, .int p1, .int p2, .int p3, .int p4, .int p5, .int p6]))] s.heap.size = A at hD ⊢
  have hA : ∀ q : Nat, s.heap.size ≤ q → A q := fun q h => by rw [← hAe]; exact Or.inr h
  have hS : va_S A s.heap s.heap [] := va_S.rf
  have hl := lv_entry ([.ref h0]) (n := 1) (Nat.le_of_ble_eq_true rfl)
  rw [lg_entry_eq]
  generalize (lg_sl ([.ref h0]) ++ List.replicate (1 - (lg_sl ([.ref h0])).length) Slot.unset).toArray = ls at hl ⊢
  have hl : lv_has ls 1 [(0, .ref h0)] := hl
  refine lv_aload_n hx hb dX0_restart_0 rfl (lv_at hl 0 rfl) ?_
  refine va_get (D := D) (ci := 0) (v := .ref he) (C := RX0) (T := TX0) (N := 7) hx hb hts (by decide +kernel) hown hK hP 0 rfl rfl 2 (by decide) (hts (.fieldLink RX0 21 "JoinDesk$Cursor" "here" "LJoinDesk$Position;") (by decide +kernel)) (fun _ h9 => h9) rfl dX0_restart_1 ?_
  refine lv_iconst (v := 0) hx hb dX0_restart_4 (by decide) ?_
  refine lv_iconst (v := 0) hx hb dX0_restart_5 (by decide) ?_
  refine lv_iconst (v := 0) hx hb dX0_restart_6 (by decide) ?_
  refine jw_v (wr := [(h0, .inr (0, [.ref tl, .ref tr, .ref he, .ref ma, .int hm, .int kd, .long cc0]))]) (va_runV (As := [.int 0, .int 0, .int 0]) (rest := []) ⟨hx, hb, hml, hown, hts⟩ (gP_stand l D cI cL cQ he p0 p1 p2 p3 p4 p5 p6 0 0 0 _) (cwV 3 hts gX0_restart_X2_stand rfl rfl rfl (by decide +kernel) ⟨Nat.le_of_ble_eq_true rfl, Nat.le_of_ble_eq_true rfl⟩) (jw_V hK hN hP hD [1] (by decide) rfl 2 1 rfl rfl rfl) rfl rfl hl.1 rfl (lv_room (Nat.le_of_ble_eq_true rfl)) dX0_restart_7 ⟨Nat.le_of_ble_eq_true rfl, Nat.le_of_ble_eq_true rfl⟩) hP hD hS hA [1] [0] rfl rfl (by decide) (by decide) (fun u H locs f_1 hP hD hS => ?_)
  obtain rfl := f_1
  have hP : va_P D vwCl [(h0, .inr (0, [.ref tl, .ref tr, .ref he, .ref ma, .int hm, .int kd, .long cc0])), (he, .inr (2, [.int 0, .int 0, .int 0, .int 0, .int (-1), .int (-1), .int 0]))] H := hP
  have hD : va_D A [(h0, .inr (0, [.ref tl, .ref tr, .ref he, .ref ma, .int hm, .int kd, .long cc0])), (he, .inr (2, [.int 0, .int 0, .int 0, .int 0, .int (-1), .int (-1), .int 0]))] := hD
  refine lv_aload_n hx hb dX0_restart_10 rfl (lv_at hl 0 rfl) ?_
  refine lv_lconst (v := 0) hx hb dX0_restart_11 (by decide) ?_
  refine va_put (D := D) (ci := 0) (v := .long 0) (ty := .long) (C := RX0) (T := TX0) (N := 7) hx hb hts (by decide +kernel) tyX0 tyX0_ok nmX0 hown hK hP hD hS 0 rfl rfl 6 (by decide) (hts (.fieldLink RX0 36 "JoinDesk$Cursor" "cells" "J") (by decide +kernel)) (fun _ h9 => h9) rfl (by decide +kernel) rfl rfl (Nat.le_of_ble_eq_true rfl) dX0_restart_12 (fun H locs hP hD hS => ?_)
  have hP : va_P D vwCl [(h0, .inr (0, [.ref tl, .ref tr, .ref he, .ref ma, .int hm, .int kd, .long 0])), (he, .inr (2, [.int 0, .int 0, .int 0, .int 0, .int (-1), .int (-1), .int 0]))] H := hP
  have hD : va_D A [(h0, .inr (0, [.ref tl, .ref tr, .ref he, .ref ma, .int hm, .int kd, .long 0])), (he, .inr (2, [.int 0, .int 0, .int 0, .int 0, .int (-1), .int (-1), .int 0]))] := hD
  refine W.widen (k := 0) (n := 0) (by omega) (by omega) ?_
  exact W.vret hx hb hr (fun t ht hW => ⟨⟨[(h0, .inr (0, [.ref tl, .ref tr, .ref he, .ref ma, .int hm, .int kd, .long 0])), (he, .inr (2, [.int 0, .int 0, .int 0, .int 0, .int (-1), .int (-1), .int 0]))], rfl, (by exact rfl), by rw [ht]; exact hP, hD⟩, hS.F ht⟩) hS.2.2 dX0_restart_15
set_option maxHeartbeats 1000000 in
set_option maxRecDepth 100000 in
theorem gC_setMark (l : Launch) (D : va_G) (cI cL cQ : ClassId) (h0 : Nat) (tl : Nat) (tr : Nat) (he : Nat) (ma : Nat) (hm : Int32) (kd : Int32) (cc0 : Int64) (p0 : Int32) (p1 : Int32) (p2 : Int32) (p3 : Int32) (p4 : Int32) (p5 : Int32) (p6 : Int32) (q0 : Int32) (q1 : Int32) (q2 : Int32) (q3 : Int32) (q4 : Int32) (q5 : Int32) (q6 : Int32) (sz : Nat) : Met l yX0_setMark wsX0_setMark ({ frames := 1, cells := 0, slots := 0, locals := 21 }) (jw_P D vwCl (jT cI cL cQ) cL cQ [.ref h0] [(h0, .inr (0, [.ref tl, .ref tr, .ref he, .ref ma, .int hm, .int kd, .long cc0])), (he, .inr (2, [.int p0, .int p1, .int p2, .int p3, .int p4, .int p5, .int p6])), (ma, .inr (2, [.int q0, .int q1, .int q2, .int q3, .int q4, .int q5, .int q6]))] sz) (va_Qi (fun (r : Int32) (u : va_W) => r = p6 ∧ u = [(h0, .inr (0, [.ref tl, .ref tr, .ref he, .ref ma, .int 1, .int kd, .long cc0])), (he, .inr (2, [.int p0, .int p1, .int p2, .int p3, .int p4, .int p5, .int p6])), (ma, .inr (2, [.int p0, .int p1, .int p2, .int p3, .int p4, .int p5, .int p6]))]) (jw_B D vwCl (va_A [(h0, .inr (0, [.ref tl, .ref tr, .ref he, .ref ma, .int hm, .int kd, .long cc0])), (he, .inr (2, [.int p0, .int p1, .int p2, .int p3, .int p4, .int p5, .int p6])), (ma, .inr (2, [.int q0, .int q1, .int q2, .int q3, .int q4, .int q5, .int q6]))] sz) (fun u : va_W => u)) (va_A [(h0, .inr (0, [.ref tl, .ref tr, .ref he, .ref ma, .int hm, .int kd, .long cc0])), (he, .inr (2, [.int p0, .int p1, .int p2, .int p3, .int p4, .int p5, .int p6])), (ma, .inr (2, [.int q0, .int q1, .int q2, .int q3, .int q4, .int q5, .int q6]))] sz)) 0 0 (va_A [(h0, .inr (0, [.ref tl, .ref tr, .ref he, .ref ma, .int hm, .int kd, .long cc0])), (he, .inr (2, [.int p0, .int p1, .int p2, .int p3, .int p4, .int p5, .int p6])), (ma, .inr (2, [.int q0, .int q1, .int q2, .int q3, .int q4, .int q5, .int q6]))] sz) := by
  refine Met.ofW (cc := cX0_setMark) (maxL := 1) (ret := (some .int)) (by decide) rfl ?_
  intro p e s m args below meth c s₁ B hml hv
  obtain ⟨rfl, hsz, hP, hK, hN, hD0⟩ := hv
  have hx := B.exec
  have hb := B.bytes
  have hr := B.returns
  have hts := atoms_spec (ws := wsX0_setMark) B.pre
  have hown : s.vm.findClass RX0 = some m.cls := findClass_of_methodNamed B.named
  have hlocks := B.notSynchronized
  subst hsz
  have hD := hD0.self (sz := s.heap.size)
  generalize hAe : va_A [(h0, .inr (0, [.ref tl, .ref tr, .ref he, .ref ma, .int hm, .int kd, .long cc0])), (he, .inr (2, [.int p0, .int p1, .int p2, .int p3, .int p4, .int p5, .int p6])), (ma, .inr (2, [.int q0, .int q1, .int q2, .int q3, .int q4, .int q5, .int q6]))] s.heap.size = A at hD ⊢
  have hA : ∀ q : Nat, s.heap.size ≤ q → A q := fun q h => by rw [← hAe]; exact Or.inr h
  have hS : va_S A s.heap s.heap [] := va_S.rf
  have hl := lv_entry ([.ref h0]) (n := 1) (Nat.le_of_ble_eq_true rfl)
  rw [lg_entry_eq]
  generalize (lg_sl ([.ref h0]) ++ List.replicate (1 - (lg_sl ([.ref h0])).length) Slot.unset).toArray = ls at hl ⊢
  have hl : lv_has ls 1 [(0, .ref h0)] := hl
  refine lv_aload_n hx hb dX0_setMark_0 rfl (lv_at hl 0 rfl) ?_
  refine va_get (D := D) (ci := 0) (v := .ref ma) (C := RX0) (T := TX0) (N := 7) hx hb hts (by decide +kernel) hown hK hP 0 rfl rfl 3 (by decide) (hts (.fieldLink RX0 25 "JoinDesk$Cursor" "marked" "LJoinDesk$Position;") (by decide +kernel)) (fun _ h9 => h9) rfl dX0_setMark_1 ?_
  refine lv_aload_n hx hb dX0_setMark_4 rfl (lv_at hl 0 rfl) ?_
  refine va_get (D := D) (ci := 0) (v := .ref he) (C := RX0) (T := TX0) (N := 7) hx hb hts (by decide +kernel) hown hK hP 0 rfl rfl 2 (by decide) (hts (.fieldLink RX0 21 "JoinDesk$Cursor" "here" "LJoinDesk$Position;") (by decide +kernel)) (fun _ h9 => h9) rfl dX0_setMark_5 ?_
  refine jw_v (wr := [(h0, .inr (0, [.ref tl, .ref tr, .ref he, .ref ma, .int hm, .int kd, .long cc0]))]) (va_runV (As := [.ref he]) (rest := []) ⟨hx, hb, hml, hown, hts⟩ (gP_copy l D cI cL cQ ma he q0 q1 q2 q3 q4 q5 q6 p0 p1 p2 p3 p4 p5 p6 _) (cwV 1 hts gX0_setMark_X2_copy rfl rfl rfl (by decide +kernel) ⟨Nat.le_of_ble_eq_true rfl, Nat.le_of_ble_eq_true rfl⟩) (jw_V hK hN hP hD [2, 1] (by decide) rfl 2 2 rfl rfl rfl) rfl rfl hl.1 rfl (lv_room (Nat.le_of_ble_eq_true rfl)) dX0_setMark_8 ⟨Nat.le_of_ble_eq_true rfl, Nat.le_of_ble_eq_true rfl⟩) hP hD hS hA [2, 1] [0] rfl rfl (by decide) (by decide) (fun u H locs f_1 hP hD hS => ?_)
  obtain rfl := f_1
  have hP : va_P D vwCl [(h0, .inr (0, [.ref tl, .ref tr, .ref he, .ref ma, .int hm, .int kd, .long cc0])), (ma, .inr (2, [.int p0, .int p1, .int p2, .int p3, .int p4, .int p5, .int p6])), (he, .inr (2, [.int p0, .int p1, .int p2, .int p3, .int p4, .int p5, .int p6]))] H := hP
  have hD : va_D A [(h0, .inr (0, [.ref tl, .ref tr, .ref he, .ref ma, .int hm, .int kd, .long cc0])), (ma, .inr (2, [.int p0, .int p1, .int p2, .int p3, .int p4, .int p5, .int p6])), (he, .inr (2, [.int p0, .int p1, .int p2, .int p3, .int p4, .int p5, .int p6]))] := hD
  refine lv_aload_n hx hb dX0_setMark_11 rfl (lv_at hl 0 rfl) ?_
  refine lv_iconst (v := 1) hx hb dX0_setMark_12 (by decide) ?_
  refine va_put (D := D) (ci := 0) (v := .int 1) (ty := .boolean) (C := RX0) (T := TX0) (N := 7) hx hb hts (by decide +kernel) tyX0 tyX0_ok nmX0 hown hK hP hD hS 0 rfl rfl 4 (by decide) (hts (.fieldLink RX0 28 "JoinDesk$Cursor" "hasMark" "Z") (by decide +kernel)) (fun _ h9 => h9) rfl (by decide +kernel) rfl rfl (Nat.le_of_ble_eq_true rfl) dX0_setMark_13 (fun H locs hP hD hS => ?_)
  have hP : va_P D vwCl [(h0, .inr (0, [.ref tl, .ref tr, .ref he, .ref ma, .int 1, .int kd, .long cc0])), (ma, .inr (2, [.int p0, .int p1, .int p2, .int p3, .int p4, .int p5, .int p6])), (he, .inr (2, [.int p0, .int p1, .int p2, .int p3, .int p4, .int p5, .int p6]))] H := hP
  have hD : va_D A [(h0, .inr (0, [.ref tl, .ref tr, .ref he, .ref ma, .int 1, .int kd, .long cc0])), (ma, .inr (2, [.int p0, .int p1, .int p2, .int p3, .int p4, .int p5, .int p6])), (he, .inr (2, [.int p0, .int p1, .int p2, .int p3, .int p4, .int p5, .int p6]))] := hD
  refine lv_aload_n hx hb dX0_setMark_16 rfl (lv_at hl 0 rfl) ?_
  refine va_get (D := D) (ci := 0) (v := .ref ma) (C := RX0) (T := TX0) (N := 7) hx hb hts (by decide +kernel) hown hK hP 0 rfl rfl 3 (by decide) (hts (.fieldLink RX0 25 "JoinDesk$Cursor" "marked" "LJoinDesk$Position;") (by decide +kernel)) (fun _ h9 => h9) rfl dX0_setMark_17 ?_
  refine va_getN (D := D) (ci := 2) (v := .int p6) (C := RX2) (T := TX2) (N := 7) hx hb hts (by decide +kernel) hown hK hP 1 rfl rfl 6 (by decide) (va_Nw.use rfl (hN.1 (RX0, 54, "JoinDesk$Position", "passed", "I", "JoinDesk") (by decide +kernel))) (fun _ h9 => h9) rfl dX0_setMark_20 ?_
  have hP := hP.sub (ws' := [(h0, .inr (0, [.ref tl, .ref tr, .ref he, .ref ma, .int 1, .int kd, .long cc0])), (he, .inr (2, [.int p0, .int p1, .int p2, .int p3, .int p4, .int p5, .int p6])), (ma, .inr (2, [.int p0, .int p1, .int p2, .int p3, .int p4, .int p5, .int p6]))]) [0, 2, 1] rfl
  have hD := hD.sub (ws' := [(h0, .inr (0, [.ref tl, .ref tr, .ref he, .ref ma, .int 1, .int kd, .long cc0])), (he, .inr (2, [.int p0, .int p1, .int p2, .int p3, .int p4, .int p5, .int p6])), (ma, .inr (2, [.int p0, .int p1, .int p2, .int p3, .int p4, .int p5, .int p6]))]) [0, 2, 1] (by decide) rfl
  refine W.widen (k := 0) (n := 0) (by omega) (by omega) ?_
  exact W.iret (v := p6) hx hb hr (fun t ht hW => ⟨⟨p6, [(h0, .inr (0, [.ref tl, .ref tr, .ref he, .ref ma, .int 1, .int kd, .long cc0])), (he, .inr (2, [.int p0, .int p1, .int p2, .int p3, .int p4, .int p5, .int p6])), (ma, .inr (2, [.int p0, .int p1, .int p2, .int p3, .int p4, .int p5, .int p6]))], rfl, (by exact ⟨rfl, rfl⟩), by rw [ht]; exact hP, hD⟩, hS.F ht⟩) hS.2.2 dX0_setMark_23
set_option maxHeartbeats 1000000 in
set_option maxRecDepth 100000 in
theorem gC_goToMark (l : Launch) (D : va_G) (cI cL cQ : ClassId) (h0 : Nat) (tl : Nat) (tr : Nat) (he : Nat) (ma : Nat) (hm : Int32) (kd : Int32) (cc0 : Int64) (p0 : Int32) (p1 : Int32) (p2 : Int32) (p3 : Int32) (p4 : Int32) (p5 : Int32) (p6 : Int32) (q0 : Int32) (q1 : Int32) (q2 : Int32) (q3 : Int32) (q4 : Int32) (q5 : Int32) (q6 : Int32) (sz : Nat) : Met l yX0_goToMark wsX0_goToMark ({ frames := 1, cells := 0, slots := 0, locals := 21 }) (jw_P D vwCl (jT cI cL cQ) cL cQ [.ref h0] [(h0, .inr (0, [.ref tl, .ref tr, .ref he, .ref ma, .int hm, .int kd, .long cc0])), (he, .inr (2, [.int p0, .int p1, .int p2, .int p3, .int p4, .int p5, .int p6])), (ma, .inr (2, [.int q0, .int q1, .int q2, .int q3, .int q4, .int q5, .int q6]))] sz) (va_Qi (fun (r : Int32) (u : va_W) => r = q6 ∧ u = [(h0, .inr (0, [.ref tl, .ref tr, .ref he, .ref ma, .int hm, .int kd, .long cc0])), (he, .inr (2, [.int q0, .int q1, .int q2, .int q3, .int q4, .int q5, .int q6])), (ma, .inr (2, [.int q0, .int q1, .int q2, .int q3, .int q4, .int q5, .int q6]))]) (jw_B D vwCl (va_A [(h0, .inr (0, [.ref tl, .ref tr, .ref he, .ref ma, .int hm, .int kd, .long cc0])), (he, .inr (2, [.int p0, .int p1, .int p2, .int p3, .int p4, .int p5, .int p6])), (ma, .inr (2, [.int q0, .int q1, .int q2, .int q3, .int q4, .int q5, .int q6]))] sz) (fun u : va_W => u)) (va_A [(h0, .inr (0, [.ref tl, .ref tr, .ref he, .ref ma, .int hm, .int kd, .long cc0])), (he, .inr (2, [.int p0, .int p1, .int p2, .int p3, .int p4, .int p5, .int p6])), (ma, .inr (2, [.int q0, .int q1, .int q2, .int q3, .int q4, .int q5, .int q6]))] sz)) 0 0 (va_A [(h0, .inr (0, [.ref tl, .ref tr, .ref he, .ref ma, .int hm, .int kd, .long cc0])), (he, .inr (2, [.int p0, .int p1, .int p2, .int p3, .int p4, .int p5, .int p6])), (ma, .inr (2, [.int q0, .int q1, .int q2, .int q3, .int q4, .int q5, .int q6]))] sz) := by
  refine Met.ofW (cc := cX0_goToMark) (maxL := 1) (ret := (some .int)) (by decide) rfl ?_
  intro p e s m args below meth c s₁ B hml hv
  obtain ⟨rfl, hsz, hP, hK, hN, hD0⟩ := hv
  have hx := B.exec
  have hb := B.bytes
  have hr := B.returns
  have hts := atoms_spec (ws := wsX0_goToMark) B.pre
  have hown : s.vm.findClass RX0 = some m.cls := findClass_of_methodNamed B.named
  have hlocks := B.notSynchronized
  subst hsz
  have hD := hD0.self (sz := s.heap.size)
  generalize hAe : va_A [(h0, .inr (0, [.ref tl, .ref tr, .ref he, .ref ma, .int hm, .int kd, .long cc0])), (he, .inr (2, [.int p0, .int p1, .int p2, .int p3, .int p4, .int p5, .int p6])), (ma, .inr (2, [.int q0, .int q1, .int q2, .int q3, .int q4, .int q5, .int q6]))] s.heap.size = A at hD ⊢
  have hA : ∀ q : Nat, s.heap.size ≤ q → A q := fun q h => by rw [← hAe]; exact Or.inr h
  have hS : va_S A s.heap s.heap [] := va_S.rf
  have hl := lv_entry ([.ref h0]) (n := 1) (Nat.le_of_ble_eq_true rfl)
  rw [lg_entry_eq]
  generalize (lg_sl ([.ref h0]) ++ List.replicate (1 - (lg_sl ([.ref h0])).length) Slot.unset).toArray = ls at hl ⊢
  have hl : lv_has ls 1 [(0, .ref h0)] := hl
  refine lv_aload_n hx hb dX0_goToMark_0 rfl (lv_at hl 0 rfl) ?_
  refine va_get (D := D) (ci := 0) (v := .ref he) (C := RX0) (T := TX0) (N := 7) hx hb hts (by decide +kernel) hown hK hP 0 rfl rfl 2 (by decide) (hts (.fieldLink RX0 21 "JoinDesk$Cursor" "here" "LJoinDesk$Position;") (by decide +kernel)) (fun _ h9 => h9) rfl dX0_goToMark_1 ?_
  refine lv_aload_n hx hb dX0_goToMark_4 rfl (lv_at hl 0 rfl) ?_
  refine va_get (D := D) (ci := 0) (v := .ref ma) (C := RX0) (T := TX0) (N := 7) hx hb hts (by decide +kernel) hown hK hP 0 rfl rfl 3 (by decide) (hts (.fieldLink RX0 25 "JoinDesk$Cursor" "marked" "LJoinDesk$Position;") (by decide +kernel)) (fun _ h9 => h9) rfl dX0_goToMark_5 ?_
  refine jw_v (wr := [(h0, .inr (0, [.ref tl, .ref tr, .ref he, .ref ma, .int hm, .int kd, .long cc0]))]) (va_runV (As := [.ref ma]) (rest := []) ⟨hx, hb, hml, hown, hts⟩ (gP_copy l D cI cL cQ he ma p0 p1 p2 p3 p4 p5 p6 q0 q1 q2 q3 q4 q5 q6 _) (cwV 1 hts gX0_goToMark_X2_copy rfl rfl rfl (by decide +kernel) ⟨Nat.le_of_ble_eq_true rfl, Nat.le_of_ble_eq_true rfl⟩) (jw_V hK hN hP hD [1, 2] (by decide) rfl 2 1 rfl rfl rfl) rfl rfl hl.1 rfl (lv_room (Nat.le_of_ble_eq_true rfl)) dX0_goToMark_8 ⟨Nat.le_of_ble_eq_true rfl, Nat.le_of_ble_eq_true rfl⟩) hP hD hS hA [1, 2] [0] rfl rfl (by decide) (by decide) (fun u H locs f_1 hP hD hS => ?_)
  obtain rfl := f_1
  have hP : va_P D vwCl [(h0, .inr (0, [.ref tl, .ref tr, .ref he, .ref ma, .int hm, .int kd, .long cc0])), (he, .inr (2, [.int q0, .int q1, .int q2, .int q3, .int q4, .int q5, .int q6])), (ma, .inr (2, [.int q0, .int q1, .int q2, .int q3, .int q4, .int q5, .int q6]))] H := hP
  have hD : va_D A [(h0, .inr (0, [.ref tl, .ref tr, .ref he, .ref ma, .int hm, .int kd, .long cc0])), (he, .inr (2, [.int q0, .int q1, .int q2, .int q3, .int q4, .int q5, .int q6])), (ma, .inr (2, [.int q0, .int q1, .int q2, .int q3, .int q4, .int q5, .int q6]))] := hD
  refine lv_aload_n hx hb dX0_goToMark_11 rfl (lv_at hl 0 rfl) ?_
  refine va_get (D := D) (ci := 0) (v := .ref he) (C := RX0) (T := TX0) (N := 7) hx hb hts (by decide +kernel) hown hK hP 0 rfl rfl 2 (by decide) (hts (.fieldLink RX0 21 "JoinDesk$Cursor" "here" "LJoinDesk$Position;") (by decide +kernel)) (fun _ h9 => h9) rfl dX0_goToMark_12 ?_
  refine va_getN (D := D) (ci := 2) (v := .int q6) (C := RX2) (T := TX2) (N := 7) hx hb hts (by decide +kernel) hown hK hP 1 rfl rfl 6 (by decide) (va_Nw.use rfl (hN.1 (RX0, 54, "JoinDesk$Position", "passed", "I", "JoinDesk") (by decide +kernel))) (fun _ h9 => h9) rfl dX0_goToMark_15 ?_
  refine W.widen (k := 0) (n := 0) (by omega) (by omega) ?_
  exact W.iret (v := q6) hx hb hr (fun t ht hW => ⟨⟨q6, [(h0, .inr (0, [.ref tl, .ref tr, .ref he, .ref ma, .int hm, .int kd, .long cc0])), (he, .inr (2, [.int q0, .int q1, .int q2, .int q3, .int q4, .int q5, .int q6])), (ma, .inr (2, [.int q0, .int q1, .int q2, .int q3, .int q4, .int q5, .int q6]))], rfl, (by exact ⟨rfl, rfl⟩), by rw [ht]; exact hP, hD⟩, hS.F ht⟩) hS.2.2 dX0_goToMark_18
set_option maxHeartbeats 1000000 in
set_option maxRecDepth 100000 in
theorem gC_readKey (l : Launch) (D : va_G) (cI cL cQ : ClassId) (h0 : Nat) (tl : Nat) (tr : Nat) (he : Nat) (ma : Nat) (hm : Int32) (kd : Int32) (cc0 : Int64) (o0 : Nat) (a : Nat) (n : Nat) (pl : Nat) (ak : Nat) (av : Nat) (ao : Nat) (ap : Nat) (al : Nat) (af : Nat) (fk : Nat → Int32) (fo : Nat → Int32) (x : Int32) (sz : Nat) (ha : a ≤ 400) (hn : n ≤ a) (ho : jord a fo) : Met l yX0_readKey wsX0_readKey ({ frames := 2, cells := 0, slots := 0, locals := 42 }) (jw_P D vwCl (jT cI cL cQ) cL cQ [.ref h0, .ref o0, .int x] [(h0, .inr (0, [.ref tl, .ref tr, .ref he, .ref ma, .int hm, .int kd, .long cc0])), (o0, .inr (4, [.int (nI a), .ref ak, .ref av, .ref ao, .ref ap, .ref al, .ref af, .int (nI n), .int (nI pl)])), (ak, .inl (cI, a, .inl fk)), (ao, .inl (cI, a, .inl fo))] sz) (va_Qi (fun (r : Int32) (u : va_W) => r = jat n fk fo x ∧ u = [(h0, .inr (0, [.ref tl, .ref tr, .ref he, .ref ma, .int hm, .int kd, .long (cc0 + 1)])), (o0, .inr (4, [.int (nI a), .ref ak, .ref av, .ref ao, .ref ap, .ref al, .ref af, .int (nI n), .int (nI pl)])), (ak, .inl (cI, a, .inl fk)), (ao, .inl (cI, a, .inl fo))]) (jw_B D vwCl (va_A [(h0, .inr (0, [.ref tl, .ref tr, .ref he, .ref ma, .int hm, .int kd, .long cc0])), (o0, .inr (4, [.int (nI a), .ref ak, .ref av, .ref ao, .ref ap, .ref al, .ref af, .int (nI n), .int (nI pl)])), (ak, .inl (cI, a, .inl fk)), (ao, .inl (cI, a, .inl fo))] sz) (fun u : va_W => u)) (va_A [(h0, .inr (0, [.ref tl, .ref tr, .ref he, .ref ma, .int hm, .int kd, .long cc0])), (o0, .inr (4, [.int (nI a), .ref ak, .ref av, .ref ao, .ref ap, .ref al, .ref af, .int (nI n), .int (nI pl)])), (ak, .inl (cI, a, .inl fk)), (ao, .inl (cI, a, .inl fo))] sz)) 0 0 (va_A [(h0, .inr (0, [.ref tl, .ref tr, .ref he, .ref ma, .int hm, .int kd, .long cc0])), (o0, .inr (4, [.int (nI a), .ref ak, .ref av, .ref ao, .ref ap, .ref al, .ref af, .int (nI n), .int (nI pl)])), (ak, .inl (cI, a, .inl fk)), (ao, .inl (cI, a, .inl fo))] sz) := by
  refine Met.ofW (cc := cX0_readKey) (maxL := 3) (ret := (some .int)) (by decide) rfl ?_
  intro p e s m args below meth c s₁ B hml hv
  obtain ⟨rfl, hsz, hP, hK, hN, hD0⟩ := hv
  have hx := B.exec
  have hb := B.bytes
  have hr := B.returns
  have hts := atoms_spec (ws := wsX0_readKey) B.pre
  have hown : s.vm.findClass RX0 = some m.cls := findClass_of_methodNamed B.named
  have hlocks := B.notSynchronized
  subst hsz
  have hD := hD0.self (sz := s.heap.size)
  generalize hAe : va_A [(h0, .inr (0, [.ref tl, .ref tr, .ref he, .ref ma, .int hm, .int kd, .long cc0])), (o0, .inr (4, [.int (nI a), .ref ak, .ref av, .ref ao, .ref ap, .ref al, .ref af, .int (nI n), .int (nI pl)])), (ak, .inl (cI, a, .inl fk)), (ao, .inl (cI, a, .inl fo))] s.heap.size = A at hD ⊢
  have hA : ∀ q : Nat, s.heap.size ≤ q → A q := fun q h => by rw [← hAe]; exact Or.inr h
  have hS : va_S A s.heap s.heap [] := va_S.rf
  have hl := lv_entry ([.ref h0, .ref o0, .int x]) (n := 3) (Nat.le_of_ble_eq_true rfl)
  rw [lg_entry_eq]
  generalize (lg_sl ([.ref h0, .ref o0, .int x]) ++ List.replicate (3 - (lg_sl ([.ref h0, .ref o0, .int x])).length) Slot.unset).toArray = ls at hl ⊢
  have hl : lv_has ls 3 [(0, .ref h0), (1, .ref o0), (2, .int x)] := hl
  refine lv_aload_n hx hb dX0_readKey_0 rfl (lv_at hl 0 rfl) ?_
  refine lv_dup hx hb dX0_readKey_1 rfl ?_
  refine va_get (D := D) (ci := 0) (v := .long cc0) (C := RX0) (T := TX0) (N := 7) hx hb hts (by decide +kernel) hown hK hP 0 rfl rfl 6 (by decide) (hts (.fieldLink RX0 36 "JoinDesk$Cursor" "cells" "J") (by decide +kernel)) (fun _ h9 => h9) rfl dX0_readKey_2 ?_
  refine lv_lconst (v := 1) hx hb dX0_readKey_5 (by decide) ?_
  refine lv_ladd hx hb dX0_readKey_6 ?_
  refine va_put (D := D) (ci := 0) (v := .long (cc0 + 1)) (ty := .long) (C := RX0) (T := TX0) (N := 7) hx hb hts (by decide +kernel) tyX0 tyX0_ok nmX0 hown hK hP hD hS 0 rfl rfl 6 (by decide) (hts (.fieldLink RX0 36 "JoinDesk$Cursor" "cells" "J") (by decide +kernel)) (fun _ h9 => h9) rfl (by decide +kernel) rfl rfl (Nat.le_of_ble_eq_true rfl) dX0_readKey_7 (fun H locs hP hD hS => ?_)
  have hP : va_P D vwCl [(h0, .inr (0, [.ref tl, .ref tr, .ref he, .ref ma, .int hm, .int kd, .long (cc0 + 1)])), (o0, .inr (4, [.int (nI a), .ref ak, .ref av, .ref ao, .ref ap, .ref al, .ref af, .int (nI n), .int (nI pl)])), (ak, .inl (cI, a, .inl fk)), (ao, .inl (cI, a, .inl fo))] H := hP
  have hD : va_D A [(h0, .inr (0, [.ref tl, .ref tr, .ref he, .ref ma, .int hm, .int kd, .long (cc0 + 1)])), (o0, .inr (4, [.int (nI a), .ref ak, .ref av, .ref ao, .ref ap, .ref al, .ref af, .int (nI n), .int (nI pl)])), (ak, .inl (cI, a, .inl fk)), (ao, .inl (cI, a, .inl fo))] := hD
  refine lv_aload_n hx hb dX0_readKey_10 rfl (lv_at hl 1 rfl) ?_
  refine lv_iload_n hx hb dX0_readKey_11 rfl (lv_at hl 2 rfl) ?_
  refine vp_callSi (va_Run.run (va_runV (As := [.int x]) (rest := []) ⟨hx, hb, hml, hown, hts⟩ (gT_keyAt l D cI cL cQ o0 a n pl ak av ao ap al af fk fo x (by first | assumption | decide | omega) (by first | assumption | decide | omega) (by first | assumption | decide | omega)) (cwV 1 hts gX0_readKey_X4_keyAt rfl rfl rfl (by decide +kernel) ⟨Nat.le_of_ble_eq_true rfl, Nat.le_of_ble_eq_true rfl⟩) (jr_V hK hN hP [1, 2, 3] rfl 4 1 rfl rfl rfl) rfl rfl hl.1 rfl (lv_room (Nat.le_of_ble_eq_true rfl)) dX0_readKey_12 ⟨Nat.le_of_ble_eq_true rfl, Nat.le_of_ble_eq_true rfl⟩)) (fun r f_1 => ?_)
  obtain rfl := f_1
  refine W.widen (k := 0) (n := 0) (by omega) (by omega) ?_
  exact W.iret (v := jat n fk fo x) hx hb hr (fun t ht hW => ⟨⟨(jat n fk fo x), [(h0, .inr (0, [.ref tl, .ref tr, .ref he, .ref ma, .int hm, .int kd, .long (cc0 + 1)])), (o0, .inr (4, [.int (nI a), .ref ak, .ref av, .ref ao, .ref ap, .ref al, .ref af, .int (nI n), .int (nI pl)])), (ak, .inl (cI, a, .inl fk)), (ao, .inl (cI, a, .inl fo))], rfl, (by exact ⟨rfl, rfl⟩), by rw [ht]; exact hP, hD⟩, hS.F ht⟩) hS.2.2 dX0_readKey_15
set_option maxHeartbeats 1000000 in
set_option maxRecDepth 100000 in
theorem gC_rowsAhead (l : Launch) (D : va_G) (cI cL cQ : ClassId) (h0 : Nat) (tl : Nat) (tr : Nat) (he : Nat) (ma : Nat) (hm : Int32) (kd : Int32) (cc0 : Int64) (p0 : Int32) (p1 : Int32) (p2 : Int32) (p3 : Int32) (p4 : Int32) (p5 : Int32) (p6 : Int32) (a : Nat) (n : Nat) (pl : Nat) (a2 : Nat) (n2 : Nat) (pl2 : Nat) (lk : Nat) (lv : Nat) (lo : Nat) (lp : Nat) (ll : Nat) (lf : Nat) (rk : Nat) (rv : Nat) (ro : Nat) (rp : Nat) (rl : Nat) (rf : Nat) : Met l yX0_rowsAhead wsX0_rowsAhead ({ frames := 1, cells := 0, slots := 0, locals := 20 }) (jr_P D vwCl (jT cI cL cQ) cL cQ [.ref h0] [(h0, .inr (0, [.ref tl, .ref tr, .ref he, .ref ma, .int hm, .int kd, .long cc0])), (he, .inr (2, [.int p0, .int p1, .int p2, .int p3, .int p4, .int p5, .int p6])), (tl, .inr (4, [.int (nI a), .ref lk, .ref lv, .ref lo, .ref lp, .ref ll, .ref lf, .int (nI n), .int (nI pl)])), (tr, .inr (4, [.int (nI a2), .ref rk, .ref rv, .ref ro, .ref rp, .ref rl, .ref rf, .int (nI n2), .int (nI pl2)]))]) (vp_Si (fun r : Int32 => r = nI n - p1 + nI n2 - p3)) 0 0 (fun _ => False) := by
  refine Met.ofW (cc := cX0_rowsAhead) (maxL := 1) (ret := (some .int)) (by decide) rfl ?_
  intro p e s m args below meth c s₁ B hml hv
  obtain ⟨rfl, hP, hK, hN⟩ := hv
  have hx := B.exec
  have hb := B.bytes
  have hr := B.returns
  have hts := atoms_spec (ws := wsX0_rowsAhead) B.pre
  have hown : s.vm.findClass RX0 = some m.cls := findClass_of_methodNamed B.named
  have hlocks := B.notSynchronized
  have hl := lv_entry ([.ref h0]) (n := 1) (Nat.le_of_ble_eq_true rfl)
  rw [lg_entry_eq]
  generalize (lg_sl ([.ref h0]) ++ List.replicate (1 - (lg_sl ([.ref h0])).length) Slot.unset).toArray = ls at hl ⊢
  have hl : lv_has ls 1 [(0, .ref h0)] := hl
  refine lv_aload_n hx hb dX0_rowsAhead_0 rfl (lv_at hl 0 rfl) ?_
  refine va_get (D := D) (ci := 0) (v := .ref tl) (C := RX0) (T := TX0) (N := 7) hx hb hts (by decide +kernel) hown hK hP 0 rfl rfl 0 (by decide) (hts (.fieldLink RX0 9 "JoinDesk$Cursor" "left" "LJoinDesk$Table;") (by decide +kernel)) (fun _ h9 => h9) rfl dX0_rowsAhead_1 ?_
  refine vp_callSi (va_Run.run (va_runV (As := []) (rest := []) ⟨hx, hb, hml, hown, hts⟩ (gT_size l D cI cL cQ tl a n pl lk lv lo lp ll lf) (cwV 0 hts gX0_rowsAhead_X4_size rfl rfl rfl (by decide +kernel) ⟨Nat.le_of_ble_eq_true rfl, Nat.le_of_ble_eq_true rfl⟩) (jr_V hK hN hP [2] rfl 4 2 rfl rfl rfl) rfl rfl hl.1 rfl (lv_room (Nat.le_of_ble_eq_true rfl)) dX0_rowsAhead_4 ⟨Nat.le_of_ble_eq_true rfl, Nat.le_of_ble_eq_true rfl⟩)) (fun r f_1 => ?_)
  obtain rfl := f_1
  refine lv_aload_n hx hb dX0_rowsAhead_7 rfl (lv_at hl 0 rfl) ?_
  refine va_get (D := D) (ci := 0) (v := .ref he) (C := RX0) (T := TX0) (N := 7) hx hb hts (by decide +kernel) hown hK hP 0 rfl rfl 2 (by decide) (hts (.fieldLink RX0 21 "JoinDesk$Cursor" "here" "LJoinDesk$Position;") (by decide +kernel)) (fun _ h9 => h9) rfl dX0_rowsAhead_8 ?_
  refine va_getN (D := D) (ci := 2) (v := .int p1) (C := RX2) (T := TX2) (N := 7) hx hb hts (by decide +kernel) hown hK hP 1 rfl rfl 1 (by decide) (va_Nw.use rfl (hN.1 (RX0, 75, "JoinDesk$Position", "leftTo", "I", "JoinDesk") (by decide +kernel))) (fun _ h9 => h9) rfl dX0_rowsAhead_11 ?_
  refine lv_isub hx hb dX0_rowsAhead_14 ?_
  refine lv_aload_n hx hb dX0_rowsAhead_15 rfl (lv_at hl 0 rfl) ?_
  refine va_get (D := D) (ci := 0) (v := .ref tr) (C := RX0) (T := TX0) (N := 7) hx hb hts (by decide +kernel) hown hK hP 0 rfl rfl 1 (by decide) (hts (.fieldLink RX0 15 "JoinDesk$Cursor" "right" "LJoinDesk$Table;") (by decide +kernel)) (fun _ h9 => h9) rfl dX0_rowsAhead_16 ?_
  refine vp_callSi (va_Run.run (va_runV (As := []) (rest := [.int ((nI n) - p1)]) ⟨hx, hb, hml, hown, hts⟩ (gT_size l D cI cL cQ tr a2 n2 pl2 rk rv ro rp rl rf) (cwV 0 hts gX0_rowsAhead_X4_size rfl rfl rfl (by decide +kernel) ⟨Nat.le_of_ble_eq_true rfl, Nat.le_of_ble_eq_true rfl⟩) (jr_V hK hN hP [3] rfl 4 3 rfl rfl rfl) rfl rfl hl.1 rfl (lv_room (Nat.le_of_ble_eq_true rfl)) dX0_rowsAhead_19 ⟨Nat.le_of_ble_eq_true rfl, Nat.le_of_ble_eq_true rfl⟩)) (fun r f_2 => ?_)
  obtain rfl := f_2
  refine lv_iadd hx hb dX0_rowsAhead_22 ?_
  refine lv_aload_n hx hb dX0_rowsAhead_23 rfl (lv_at hl 0 rfl) ?_
  refine va_get (D := D) (ci := 0) (v := .ref he) (C := RX0) (T := TX0) (N := 7) hx hb hts (by decide +kernel) hown hK hP 0 rfl rfl 2 (by decide) (hts (.fieldLink RX0 21 "JoinDesk$Cursor" "here" "LJoinDesk$Position;") (by decide +kernel)) (fun _ h9 => h9) rfl dX0_rowsAhead_24 ?_
  refine va_getN (D := D) (ci := 2) (v := .int p3) (C := RX2) (T := TX2) (N := 7) hx hb hts (by decide +kernel) hown hK hP 1 rfl rfl 3 (by decide) (va_Nw.use rfl (hN.1 (RX0, 78, "JoinDesk$Position", "rightTo", "I", "JoinDesk") (by decide +kernel))) (fun _ h9 => h9) rfl dX0_rowsAhead_27 ?_
  refine lv_isub hx hb dX0_rowsAhead_30 ?_
  exact W.iret (v := (((nI n) - p1) + (nI n2)) - p3) hx hb hr (fun t ht hW => ⟨((((nI n) - p1) + (nI n2)) - p3), rfl, (by exact rfl), ht⟩) (fun _ h => nomatch h) dX0_rowsAhead_31
set_option maxHeartbeats 1000000 in
set_option maxRecDepth 100000 in
theorem gC_firstOtherKey_n (l : Launch) (D : va_G) (cI cL cQ : ClassId) (h0 : Nat) (tl : Nat) (tr : Nat) (he : Nat) (ma : Nat) (hm : Int32) (kd : Int32) (cc0 : Int64) (o0 : Nat) (a : Nat) (n : Nat) (pl : Nat) (ak : Nat) (av : Nat) (ao : Nat) (ap : Nat) (al : Nat) (af : Nat) (fk : Nat → Int32) (fo : Nat → Int32) (fr : Nat) (sz : Nat) (ha : a ≤ 400) (hn : n ≤ a) (ho : jord a fo) (hfr : fr < n) : Met l yX0_firstOtherKey wsX0_firstOtherKey ({ frames := 3, cells := 0, slots := 0, locals := 64 }) (jw_P D vwCl (jT cI cL cQ) cL cQ [.ref h0, .ref o0, .int (nI fr)] [(h0, .inr (0, [.ref tl, .ref tr, .ref he, .ref ma, .int hm, .int kd, .long cc0])), (o0, .inr (4, [.int (nI a), .ref ak, .ref av, .ref ao, .ref ap, .ref al, .ref af, .int (nI n), .int (nI pl)])), (ak, .inl (cI, a, .inl fk)), (ao, .inl (cI, a, .inl fo))] sz) (va_Qi (fun (r : Int32) (u : va_W) => ∃ (to9 : Nat) (cc9 : Int64), r = nI to9 ∧ u = [(h0, .inr (0, [.ref tl, .ref tr, .ref he, .ref ma, .int hm, .int kd, .long cc9])), (o0, .inr (4, [.int (nI a), .ref ak, .ref av, .ref ao, .ref ap, .ref al, .ref af, .int (nI n), .int (nI pl)])), (ak, .inl (cI, a, .inl fk)), (ao, .inl (cI, a, .inl fo))] ∧ (nI fr < nI to9) ∧ (to9 ≤ n)) (jw_B D vwCl (va_A [(h0, .inr (0, [.ref tl, .ref tr, .ref he, .ref ma, .int hm, .int kd, .long cc0])), (o0, .inr (4, [.int (nI a), .ref ak, .ref av, .ref ao, .ref ap, .ref al, .ref af, .int (nI n), .int (nI pl)])), (ak, .inl (cI, a, .inl fk)), (ao, .inl (cI, a, .inl fo))] sz) (fun u : va_W => u)) (va_A [(h0, .inr (0, [.ref tl, .ref tr, .ref he, .ref ma, .int hm, .int kd, .long cc0])), (o0, .inr (4, [.int (nI a), .ref ak, .ref av, .ref ao, .ref ap, .ref al, .ref af, .int (nI n), .int (nI pl)])), (ak, .inl (cI, a, .inl fk)), (ao, .inl (cI, a, .inl fo))] sz)) 0 0 (va_A [(h0, .inr (0, [.ref tl, .ref tr, .ref he, .ref ma, .int hm, .int kd, .long cc0])), (o0, .inr (4, [.int (nI a), .ref ak, .ref av, .ref ao, .ref ap, .ref al, .ref af, .int (nI n), .int (nI pl)])), (ak, .inl (cI, a, .inl fk)), (ao, .inl (cI, a, .inl fo))] sz) := by
  refine Met.ofW (cc := cX0_firstOtherKey) (maxL := 5) (ret := (some .int)) (by decide) rfl ?_
  intro p e s m args below meth c s₁ B hml hv
  obtain ⟨rfl, hsz, hP, hK, hN, hD0⟩ := hv
  have hx := B.exec
  have hb := B.bytes
  have hr := B.returns
  have hts := atoms_spec (ws := wsX0_firstOtherKey) B.pre
  have hown : s.vm.findClass RX0 = some m.cls := findClass_of_methodNamed B.named
  have hlocks := B.notSynchronized
  subst hsz
  have hD := hD0.self (sz := s.heap.size)
  generalize hAe : va_A [(h0, .inr (0, [.ref tl, .ref tr, .ref he, .ref ma, .int hm, .int kd, .long cc0])), (o0, .inr (4, [.int (nI a), .ref ak, .ref av, .ref ao, .ref ap, .ref al, .ref af, .int (nI n), .int (nI pl)])), (ak, .inl (cI, a, .inl fk)), (ao, .inl (cI, a, .inl fo))] s.heap.size = A at hD ⊢
  have hA : ∀ q : Nat, s.heap.size ≤ q → A q := fun q h => by rw [← hAe]; exact Or.inr h
  have hS : va_S A s.heap s.heap [] := va_S.rf
  have hl := lv_entry ([.ref h0, .ref o0, .int (nI fr)]) (n := 5) (Nat.le_of_ble_eq_true rfl)
  rw [lg_entry_eq]
  generalize (lg_sl ([.ref h0, .ref o0, .int (nI fr)]) ++ List.replicate (5 - (lg_sl ([.ref h0, .ref o0, .int (nI fr)])).length) Slot.unset).toArray = ls at hl ⊢
  have hl : lv_has ls 5 [(0, .ref h0), (1, .ref o0), (2, .int (nI fr))] := hl
  refine lv_aload_n hx hb dX0_firstOtherKey_0 rfl (lv_at hl 0 rfl) ?_
  refine lv_aload_n hx hb dX0_firstOtherKey_1 rfl (lv_at hl 1 rfl) ?_
  refine lv_iload_n hx hb dX0_firstOtherKey_2 rfl (lv_at hl 2 rfl) ?_
  refine jw_i (wr := []) (va_runV (As := [.ref o0, .int (nI fr)]) (rest := []) ⟨hx, hb, hml, hown, hts⟩ (gC_readKey l D cI cL cQ h0 tl tr he ma hm kd cc0 o0 a n pl ak av ao ap al af fk fo (nI fr) _ (by first | assumption | decide | omega) (by first | assumption | decide | omega) (by first | assumption | decide | omega)) (cwV 2 hts gX0_firstOtherKey_X0_readKey rfl rfl rfl (by decide +kernel) ⟨Nat.le_of_ble_eq_true rfl, Nat.le_of_ble_eq_true rfl⟩) (jw_V hK hN hP hD [0, 1, 2, 3] (by decide) rfl 0 0 rfl rfl rfl) rfl rfl hl.1 rfl (lv_room (Nat.le_of_ble_eq_true rfl)) dX0_firstOtherKey_3 ⟨Nat.le_of_ble_eq_true rfl, Nat.le_of_ble_eq_true rfl⟩) hP hD hS hA [0, 1, 2, 3] [] rfl rfl (by decide) (by decide) (fun r u H locs f_1 hP hD hS => ?_)
  obtain ⟨rfl, rfl⟩ := f_1
  have hP : va_P D vwCl [(h0, .inr (0, [.ref tl, .ref tr, .ref he, .ref ma, .int hm, .int kd, .long (cc0 + 1)])), (o0, .inr (4, [.int (nI a), .ref ak, .ref av, .ref ao, .ref ap, .ref al, .ref af, .int (nI n), .int (nI pl)])), (ak, .inl (cI, a, .inl fk)), (ao, .inl (cI, a, .inl fo))] H := hP
  have hD : va_D A [(h0, .inr (0, [.ref tl, .ref tr, .ref he, .ref ma, .int hm, .int kd, .long (cc0 + 1)])), (o0, .inr (4, [.int (nI a), .ref ak, .ref av, .ref ao, .ref ap, .ref al, .ref af, .int (nI n), .int (nI pl)])), (ak, .inl (cI, a, .inl fk)), (ao, .inl (cI, a, .inl fo))] := hD
  refine lv_istore_n (lv' := [(3, .int (jat n fk fo (nI fr))), (0, .ref h0), (1, .ref o0), (2, .int (nI fr))]) hx hb dX0_firstOtherKey_6 rfl hl (by decide) rfl (fun ls hl => ?_)
  refine lv_iload_n hx hb dX0_firstOtherKey_7 rfl (lv_at hl 3 rfl) ?_
  refine lv_iconst (v := 1) hx hb dX0_firstOtherKey_8 (by decide) ?_
  refine lv_iadd hx hb dX0_firstOtherKey_9 ?_
  refine lv_topi (fun z_2 e_z_2 => ?_)
  obtain rfl : z_2 = nI (fr + 1) := e_z_2.trans (nI_add fr 1)
  refine lv_istore (lv' := [(4, .int (nI (fr + 1))), (3, .int (jat n fk fo (nI fr))), (0, .ref h0), (1, .ref o0), (2, .int (nI fr))]) hx hb dX0_firstOtherKey_10 hl (by decide) rfl (fun ls hl => ?_)
  have hloop_1 : ∀ (k_1 : Nat) (i : Nat) (cc1 : Int64), n - i < k_1 → (i ≤ n) → (fr < i) → ∀ (H : Heap) (locs : List Loc), va_P D vwCl [(h0, .inr (0, [.ref tl, .ref tr, .ref he, .ref ma, .int hm, .int kd, .long cc1])), (o0, .inr (4, [.int (nI a), .ref ak, .ref av, .ref ao, .ref ap, .ref al, .ref af, .int (nI n), .int (nI pl)])), (ak, .inl (cI, a, .inl fk)), (ao, .inl (cI, a, .inl fo))] H → va_D A [(h0, .inr (0, [.ref tl, .ref tr, .ref he, .ref ma, .int hm, .int kd, .long cc1])), (o0, .inr (4, [.int (nI a), .ref ak, .ref av, .ref ao, .ref ap, .ref al, .ref af, .int (nI n), .int (nI pl)])), (ak, .inl (cI, a, .inl fk)), (ao, .inl (cI, a, .inl fo))] → va_S A s.heap H locs → ∀ ls : Array Slot, lv_has ls 5 [(0, .ref h0), (1, .ref o0), (2, .int (nI fr)), (3, .int (jat n fk fo (nI fr))), (4, .int (nI i))] → W p l e (headSpec wsX0_firstOtherKey ({ frames := 3, cells := 0, slots := 0, locals := 64 })).room s m #[.ref h0, .ref o0, .int (nI fr)] below meth c H locs 0 0 (MQ below (va_Qi (fun (r : Int32) (u : va_W) => ∃ (to9 : Nat) (cc9 : Int64), r = nI to9 ∧ u = [(h0, .inr (0, [.ref tl, .ref tr, .ref he, .ref ma, .int hm, .int kd, .long cc9])), (o0, .inr (4, [.int (nI a), .ref ak, .ref av, .ref ao, .ref ap, .ref al, .ref af, .int (nI n), .int (nI pl)])), (ak, .inl (cI, a, .inl fk)), (ao, .inl (cI, a, .inl fo))] ∧ (nI fr < nI to9) ∧ (to9 ≤ n)) (jw_B D vwCl A (fun u : va_W => u)) A) #[.ref h0, .ref o0, .int (nI fr)] s 0 0 A) (F0 m 12 ls []) := by
    intro k_1
    induction k_1 with
    | zero => exact fun _ _ hm => absurd hm (Nat.not_lt_zero _)
    | succ k_1 ih_1 =>
      intro i cc1 hm1 hi hi2 H locs hP hD hS ls hl
      refine lv_iload hx hb dX0_firstOtherKey_12 (lv_at hl 4 rfl) ?_
      refine lv_aload_n hx hb dX0_firstOtherKey_14 rfl (lv_at hl 1 rfl) ?_
      refine vp_callSi (va_Run.run (va_runV (As := []) (rest := [.int (nI i)]) ⟨hx, hb, hml, hown, hts⟩ (gT_size l D cI cL cQ o0 a n pl ak av ao ap al af) (cwV 0 hts gX0_firstOtherKey_X4_size rfl rfl rfl (by decide +kernel) ⟨Nat.le_of_ble_eq_true rfl, Nat.le_of_ble_eq_true rfl⟩) (jr_V hK hN hP [1] rfl 4 1 rfl rfl rfl) rfl rfl hl.1 rfl (lv_room (Nat.le_of_ble_eq_true rfl)) dX0_firstOtherKey_15 ⟨Nat.le_of_ble_eq_true rfl, Nat.le_of_ble_eq_true rfl⟩)) (fun r f_3 => ?_)
      obtain rfl := f_3
      refine lv_icmp_ge (tgt := 38) hx hb dX0_firstOtherKey_18 (by decide) (fun cge => ?_) (fun cge => ?_)
      · refine lv_iload hx hb dX0_firstOtherKey_38 (lv_at hl 4 rfl) ?_
        refine W.widen (k := 0) (n := 0) (by omega) (by omega) ?_
        exact W.iret (v := nI i) hx hb hr (fun t ht hW => ⟨⟨(nI i), [(h0, .inr (0, [.ref tl, .ref tr, .ref he, .ref ma, .int hm, .int kd, .long cc1])), (o0, .inr (4, [.int (nI a), .ref ak, .ref av, .ref ao, .ref ap, .ref al, .ref af, .int (nI n), .int (nI pl)])), (ak, .inl (cI, a, .inl fk)), (ao, .inl (cI, a, .inl fo))], rfl, (⟨_, _, rfl, rfl, nI_lt hi2 (by omega), hi⟩), by rw [ht]; exact hP, hD⟩, hS.F ht⟩) hS.2.2 dX0_firstOtherKey_40
      · refine lv_aload_n hx hb dX0_firstOtherKey_21 rfl (lv_at hl 0 rfl) ?_
        refine lv_aload_n hx hb dX0_firstOtherKey_22 rfl (lv_at hl 1 rfl) ?_
        refine lv_iload hx hb dX0_firstOtherKey_23 (lv_at hl 4 rfl) ?_
        refine jw_i (wr := []) (va_runV (As := [.ref o0, .int (nI i)]) (rest := []) ⟨hx, hb, hml, hown, hts⟩ (gC_readKey l D cI cL cQ h0 tl tr he ma hm kd cc1 o0 a n pl ak av ao ap al af fk fo (nI i) _ (by first | assumption | decide | omega) (by first | assumption | decide | omega) (by first | assumption | decide | omega)) (cwV 2 hts gX0_firstOtherKey_X0_readKey rfl rfl rfl (by decide +kernel) ⟨Nat.le_of_ble_eq_true rfl, Nat.le_of_ble_eq_true rfl⟩) (jw_V hK hN hP hD [0, 1, 2, 3] (by decide) rfl 0 0 rfl rfl rfl) rfl rfl hl.1 rfl (lv_room (Nat.le_of_ble_eq_true rfl)) dX0_firstOtherKey_25 ⟨Nat.le_of_ble_eq_true rfl, Nat.le_of_ble_eq_true rfl⟩) hP hD hS hA [0, 1, 2, 3] [] rfl rfl (by decide) (by decide) (fun r u H locs f_4 hP hD hS => ?_)
        obtain ⟨rfl, rfl⟩ := f_4
        have hP : va_P D vwCl [(h0, .inr (0, [.ref tl, .ref tr, .ref he, .ref ma, .int hm, .int kd, .long (cc1 + 1)])), (o0, .inr (4, [.int (nI a), .ref ak, .ref av, .ref ao, .ref ap, .ref al, .ref af, .int (nI n), .int (nI pl)])), (ak, .inl (cI, a, .inl fk)), (ao, .inl (cI, a, .inl fo))] H := hP
        have hD : va_D A [(h0, .inr (0, [.ref tl, .ref tr, .ref he, .ref ma, .int hm, .int kd, .long (cc1 + 1)])), (o0, .inr (4, [.int (nI a), .ref ak, .ref av, .ref ao, .ref ap, .ref al, .ref af, .int (nI n), .int (nI pl)])), (ak, .inl (cI, a, .inl fk)), (ao, .inl (cI, a, .inl fo))] := hD
        refine lv_iload_n hx hb dX0_firstOtherKey_28 rfl (lv_at hl 3 rfl) ?_
        refine lv_icmp_ne (tgt := 38) hx hb dX0_firstOtherKey_29 (by decide) (fun c_5 => ?_) (fun c_5 => ?_)
        · refine lv_iload hx hb dX0_firstOtherKey_38 (lv_at hl 4 rfl) ?_
          refine W.widen (k := 0) (n := 0) (by omega) (by omega) ?_
          exact W.iret (v := nI i) hx hb hr (fun t ht hW => ⟨⟨(nI i), [(h0, .inr (0, [.ref tl, .ref tr, .ref he, .ref ma, .int hm, .int kd, .long (cc1 + 1)])), (o0, .inr (4, [.int (nI a), .ref ak, .ref av, .ref ao, .ref ap, .ref al, .ref af, .int (nI n), .int (nI pl)])), (ak, .inl (cI, a, .inl fk)), (ao, .inl (cI, a, .inl fo))], rfl, (⟨_, _, rfl, rfl, nI_lt hi2 (by omega), hi⟩), by rw [ht]; exact hP, hD⟩, hS.F ht⟩) hS.2.2 dX0_firstOtherKey_40
        · refine lv_iinc (v := nI (i + 1)) (lv' := [(4, .int (nI (i + 1))), (0, .ref h0), (1, .ref o0), (2, .int (nI fr)), (3, .int (jat n fk fo (nI fr)))]) hx hb dX0_firstOtherKey_32 hl (k := 4) rfl (nI_1 _) (by decide) rfl (fun ls hl => ?_)
          refine lv_goto (tgt := 12) hx hb dX0_firstOtherKey_35 (by decide) ?_
          exact ih_1 (i + 1) (cc1 + 1) (by rw [nI_leI (by omega) (by omega)] at cge; omega) (by rw [nI_leI (by omega) (by omega)] at cge; omega) (by omega) _ _ hP hD hS ls (lv_sub hl [1, 2, 3, 4, 0] rfl)
  exact hloop_1 (n - (fr + 1) + 1) (fr + 1) (cc0 + 1) (Nat.lt_succ_self _) (by omega) (by omega) _ _ hP hD hS ls (lv_sub hl [2, 3, 4, 1, 0] rfl)
theorem gC_firstOtherKey (l : Launch) (D : va_G) (cI cL cQ : ClassId) (h0 : Nat) (tl : Nat) (tr : Nat) (he : Nat) (ma : Nat) (hm : Int32) (kd : Int32) (cc0 : Int64) (o0 : Nat) (a : Nat) (n : Nat) (pl : Nat) (ak : Nat) (av : Nat) (ao : Nat) (ap : Nat) (al : Nat) (af : Nat) (fk : Nat → Int32) (fo : Nat → Int32) (x : Int32) (sz : Nat) (ha : a ≤ 400) (hn : n ≤ a) (ho : jord a fo) (h1 : ¬ x < 0) (h2 : ¬ nI n ≤ x) : Met l yX0_firstOtherKey wsX0_firstOtherKey ({ frames := 3, cells := 0, slots := 0, locals := 64 }) (jw_P D vwCl (jT cI cL cQ) cL cQ [.ref h0, .ref o0, .int x] [(h0, .inr (0, [.ref tl, .ref tr, .ref he, .ref ma, .int hm, .int kd, .long cc0])), (o0, .inr (4, [.int (nI a), .ref ak, .ref av, .ref ao, .ref ap, .ref al, .ref af, .int (nI n), .int (nI pl)])), (ak, .inl (cI, a, .inl fk)), (ao, .inl (cI, a, .inl fo))] sz) (va_Qi (fun (r : Int32) (u : va_W) => ∃ (to9 : Nat) (cc9 : Int64), r = nI to9 ∧ u = [(h0, .inr (0, [.ref tl, .ref tr, .ref he, .ref ma, .int hm, .int kd, .long cc9])), (o0, .inr (4, [.int (nI a), .ref ak, .ref av, .ref ao, .ref ap, .ref al, .ref af, .int (nI n), .int (nI pl)])), (ak, .inl (cI, a, .inl fk)), (ao, .inl (cI, a, .inl fo))] ∧ (x < nI to9) ∧ (to9 ≤ n)) (jw_B D vwCl (va_A [(h0, .inr (0, [.ref tl, .ref tr, .ref he, .ref ma, .int hm, .int kd, .long cc0])), (o0, .inr (4, [.int (nI a), .ref ak, .ref av, .ref ao, .ref ap, .ref al, .ref af, .int (nI n), .int (nI pl)])), (ak, .inl (cI, a, .inl fk)), (ao, .inl (cI, a, .inl fo))] sz) (fun u : va_W => u)) (va_A [(h0, .inr (0, [.ref tl, .ref tr, .ref he, .ref ma, .int hm, .int kd, .long cc0])), (o0, .inr (4, [.int (nI a), .ref ak, .ref av, .ref ao, .ref ap, .ref al, .ref af, .int (nI n), .int (nI pl)])), (ak, .inl (cI, a, .inl fk)), (ao, .inl (cI, a, .inl fo))] sz)) 0 0 (va_A [(h0, .inr (0, [.ref tl, .ref tr, .ref he, .ref ma, .int hm, .int kd, .long cc0])), (o0, .inr (4, [.int (nI a), .ref ak, .ref av, .ref ao, .ref ap, .ref al, .ref af, .int (nI n), .int (nI pl)])), (ak, .inl (cI, a, .inl fk)), (ao, .inl (cI, a, .inl fo))] sz) := by
  obtain ⟨j, hj, rfl⟩ := nI_of h1
  exact gC_firstOtherKey_n l D cI cL cQ h0 tl tr he ma hm kd cc0 o0 a n pl ak av ao ap al af fk fo j sz ha hn ho (by rw [nI_leI (by omega) hj] at h2; omega)
