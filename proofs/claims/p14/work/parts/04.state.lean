/-! what a throw rests on, and the two methods that throw -/
section JZ
def jE : List String := ["java/lang/IllegalArgumentException", "java/lang/IllegalStateException", "java/lang/UnsupportedOperationException"]
def jY : List String := ["java/lang/RuntimeException", "java/lang/Exception", "java/lang/Throwable"]
/-- statics of Throwable that hold a reference or null; the three texts; the exceptions' classes among each other -/
def jZ (A : Nat → Prop) (U : State) (H : Heap) : Prop := vx_Zq Bundle.tN "UNASSIGNED_STACK" Bundle.steD A U H ∧ vx_Zq Bundle.tN "SUPPRESSED_SENTINEL" Bundle.listD A U H ∧ (∃ a, vk_R "JoinDesk" 177 "a number is not as it may be" a U) ∧ (∃ a, vk_R "JoinDesk" 182 "not in this state" a U) ∧ (∃ a, vk_R "JoinDesk" 140 "more groups than there is room for" a U) ∧ (∀ E ∈ jE, va_Nw (.castable E E) U) ∧ (∀ E ∈ jE, ∀ F ∈ jE, E ≠ F → va_Nc E F U) ∧ (∀ Y ∈ jY, va_Nw (.declares ⟨Y, "<init>", "(Ljava/lang/String;)V"⟩) U)
theorem jZ.warm {A : Nat → Prop} {s U : State} {H : Heap} (hW : s.WarmedH U.vm) (h : jZ A s H) : jZ A U H := by
  obtain ⟨h1, h2, ⟨a3, h3⟩, ⟨a4, h4⟩, ⟨a5, h5⟩, h6, h7, h8⟩ := h
  exact ⟨h1.moved hW.alike, h2.moved hW.alike, ⟨a3, vk_R.warm hW h3⟩, ⟨a4, vk_R.warm hW h4⟩, ⟨a5, vk_R.warm hW h5⟩, fun E hE => va_Nw.warmC hW (h6 E hE), fun E hE F hF hn => (h7 E hE F hF hn).moved hW.alike, fun Y hY => va_Nw.warmD hW (h8 Y hY)⟩
theorem jZ.same {A : Nat → Prop} {s U : State} {H : Heap} (hv : s.vm = U.vm) (h : jZ A s H) : jZ A U H := by
  obtain ⟨h1, h2, ⟨a3, h3⟩, ⟨a4, h4⟩, ⟨a5, h5⟩, h6, h7, h8⟩ := h
  have al : s.vm.Alike U.vm := by rw [hv]; exact Vm.Alike.refl _
  exact ⟨h1.moved al, h2.moved al, ⟨a3, vk_R.same hv.symm h3⟩, ⟨a4, vk_R.same hv.symm h4⟩, ⟨a5, vk_R.same hv.symm h5⟩, fun E hE => va_Nw.same rfl hv (h6 E hE), fun E hE F hF hn => (h7 E hE F hF hn).moved al, fun Y hY => va_Nw.same rfl hv (h8 Y hY)⟩
/-- behind other steps: the cells outside A are as they were -/
theorem jZ.kept {A : Nat → Prop} {s : State} {H0 H : Heap} {locs : List Loc} (hS : va_S A H0 H locs) (h : jZ A s H0) : jZ (fun _ => False) s H := by
  obtain ⟨h1, h2, h3⟩ := h
  exact ⟨(h1.kept hS.2.1).narrow (fun _ h => h.elim), (h2.kept hS.2.1).narrow (fun _ h => h.elim), h3⟩
variable {p : Program} {l : Launch} {e : Env} {R : Room} {s : State} {m : MethodId} {args : Array Value} {below : List Frame} {meth : Method} {c : Code} {H : Heap} {locs : List Loc} {cells slots : Nat} {Q : State → Prop}
variable {D : va_G} {cl : List vw_C} {tys : List (ClassId × FieldType)} {cL cQ : ClassId} {w wc : va_W} {As : List Value} {C : String} {b : Addr}
/-- the start of a method that throws -/
def jt_P (D : va_G) (cl : List vw_C) (tys : List (ClassId × FieldType)) (cL cQ : ClassId) (av : List Value) (wc : va_W) : Array Value → State → Prop := va_Pc av (fun U => va_P D cl wc U.heap ∧ va_K D cl tys U ∧ jN cL cQ U ∧ jZ (fun _ => False) U U.heap)
theorem jt_blind {av : List Value} : FrameBlind (jt_P D cl tys cL cQ av wc) := fun a U g mk q => by
  obtain ⟨q0, qP, qK, qN, qZ⟩ := q
  exact ⟨q0, qP, va_K.moved (u := U) (U := U.calling g mk a) (Vm.Alike.refl U.vm) qK, jN.same (s := U) rfl qN, jZ.same (s := U) rfl qZ⟩
theorem jt_S (hK : va_K D cl tys s) (hN : jN cL cQ s) (hZ : jZ (fun _ => False) s H) (hP : va_P D cl w H) (is : List Nat) (hs : is.filterMap (fun i => w[i]?) = wc) : PreS s H (jt_P D cl tys cL cQ As wc) As :=
  ⟨jt_blind, fun U hU hW => ⟨rfl, by rw [hU]; exact hP.sub is hs, va_K.moved hW.alike hK, hN.warm hW, by rw [hU]; exact hZ.warm hW⟩⟩
theorem jt_V (hK : va_K D cl tys s) (hN : jN cL cQ s) (hZ : jZ (fun _ => False) s H) (hP : va_P D cl w H) (is : List Nat) (hs : is.filterMap (fun i => w[i]?) = wc) (ci q0 : Nat) {q : vw_C} {fs : List Value} (hc : cl[ci]? = some q) (hq : q.1 = C) (he : w[q0]? = some (b, .inr (ci, fs))) : PreV s H C b (jt_P D cl tys cL cQ (.ref b :: As) wc) As :=
  ⟨jt_blind, by rw [← hq]; exact va_recv hK hP hc he, fun U hU hW => ⟨rfl, by rw [hU]; exact hP.sub is hs, va_K.moved hW.alike hK, hN.warm hW, by rw [hU]; exact hZ.warm hW⟩⟩
end JZ
set_option maxHeartbeats 4000000 in
set_option maxRecDepth 100000 in
/-- requireState(false): it throws, no cell changes -/
theorem cJ_requireState_t (l : Launch) (hnt : l.stackTraces = false) (D : va_G) (cI cL cQ : ClassId) : vx_Met l yX5_requireState wsX5_requireState ({ frames := 6, cells := 1, slots := 6, locals := 82 }) (jt_P D vwCl (jT cI cL cQ) cL cQ [.int 0] []) (fun _ _ _ _ => False) (jx_X "java/lang/IllegalStateException") 1 6 (fun _ => False) := by
  refine vx_ofW (cc := cX5_requireState) (maxL := 1) (ret := none) (by decide) rfl ?_
  intro p e s m args below meth c s₁ B hml hxt hv
  obtain ⟨rfl, hP, hK, hN, hZ⟩ := hv
  have hx := B.exec
  have hb := B.bytes
  have hts := atoms_spec (ws := wsX5_requireState) B.pre
  have hown : s.vm.findClass RX5 = some m.cls := findClass_of_methodNamed B.named
  have hlocks := B.notSynchronized
  have hl := lv_entry ([.int 0]) (n := 1) (Nat.le_of_ble_eq_true rfl)
  rw [lg_entry_eq]
  generalize (lg_sl ([.int 0]) ++ List.replicate (1 - (lg_sl ([.int 0])).length) Slot.unset).toArray = ls at hl ⊢
  have hl : lv_has ls 1 [(0, .int 0)] := hl
  refine lv_iload_n hx hb dX5_requireState_0 rfl (lv_at hl 0 rfl) ?_
  refine lv_if_ne (tgt := 14) hx hb dX5_requireState_1 (by decide) (fun c_1 => absurd rfl c_1) (fun c_1 => ?_)
  obtain ⟨hU, hV, -, ⟨sa, hstr⟩, -, hE, -, hY⟩ := hZ
  exact vx_throwS (A := fun _ => False) (names := ["java/lang/RuntimeException", "java/lang/Exception"]) hx hb hnt hown (by decide +kernel) (by decide +kernel) (hts (.classLink RX5 180 "java/lang/IllegalStateException") (by decide +kernel)) (hts (.initialized "java/lang/IllegalStateException") (by decide +kernel)) hstr
    (vx_hat (B := [.castable "java/lang/IllegalStateException" "java/lang/IllegalStateException", .declares ⟨"java/lang/RuntimeException", "<init>", "(Ljava/lang/String;)V"⟩, .declares ⟨"java/lang/Exception", "<init>", "(Ljava/lang/String;)V"⟩, .declares ⟨"java/lang/Throwable", "<init>", "(Ljava/lang/String;)V"⟩]) (fun w hw => hts w (List.mem_cons_of_mem _ (List.mem_append_right _ hw))) (by decide +kernel) (vx_c (va_Nw.use rfl (hE _ (by decide +kernel))) (vx_c (va_Nw.use rfl (hY "java/lang/RuntimeException" (by decide +kernel))) (vx_c (va_Nw.use rfl (hY "java/lang/Exception" (by decide +kernel))) (vx_c (va_Nw.use rfl (hY "java/lang/Throwable" (by decide +kernel))) vx_n))))) (by decide +kernel) hU hV va_S.rf (hl.1.trans hml.symm)
    dX5_requireState_4 dX5_requireState_7 dX5_requireState_8 dX5_requireState_10 dX5_requireState_13 (fun x hx => (hxt x hx).elim) (Nat.le_of_ble_eq_true rfl) (Nat.le_of_ble_eq_true rfl) (Nat.le_of_ble_eq_true rfl) (Nat.le_of_ble_eq_true rfl) hlocks
    (fun t _ hz hk => ⟨rfl, hz, fun q h _ => hk q h⟩) (fun z hz => nomatch hz) (Nat.le_of_ble_eq_true rfl) (Nat.le_of_ble_eq_true rfl)
set_option maxHeartbeats 4000000 in
set_option maxRecDepth 100000 in
/-- requireArgument(false): it throws, no cell changes -/
theorem cJ_requireArgument_t (l : Launch) (hnt : l.stackTraces = false) (D : va_G) (cI cL cQ : ClassId) : vx_Met l yX5_requireArgument wsX5_requireArgument ({ frames := 6, cells := 1, slots := 6, locals := 82 }) (jt_P D vwCl (jT cI cL cQ) cL cQ [.int 0] []) (fun _ _ _ _ => False) (jx_X "java/lang/IllegalArgumentException") 1 6 (fun _ => False) := by
  refine vx_ofW (cc := cX5_requireArgument) (maxL := 1) (ret := none) (by decide) rfl ?_
  intro p e s m args below meth c s₁ B hml hxt hv
  obtain ⟨rfl, hP, hK, hN, hZ⟩ := hv
  have hx := B.exec
  have hb := B.bytes
  have hts := atoms_spec (ws := wsX5_requireArgument) B.pre
  have hown : s.vm.findClass RX5 = some m.cls := findClass_of_methodNamed B.named
  have hlocks := B.notSynchronized
  have hl := lv_entry ([.int 0]) (n := 1) (Nat.le_of_ble_eq_true rfl)
  rw [lg_entry_eq]
  generalize (lg_sl ([.int 0]) ++ List.replicate (1 - (lg_sl ([.int 0])).length) Slot.unset).toArray = ls at hl ⊢
  have hl : lv_has ls 1 [(0, .int 0)] := hl
  refine lv_iload_n hx hb dX5_requireArgument_0 rfl (lv_at hl 0 rfl) ?_
  refine lv_if_ne (tgt := 14) hx hb dX5_requireArgument_1 (by decide) (fun c_1 => absurd rfl c_1) (fun c_1 => ?_)
  obtain ⟨hU, hV, ⟨sa, hstr⟩, -, -, hE, -, hY⟩ := hZ
  exact vx_throwS (A := fun _ => False) (names := ["java/lang/RuntimeException", "java/lang/Exception"]) hx hb hnt hown (by decide +kernel) (by decide +kernel) (hts (.classLink RX5 175 "java/lang/IllegalArgumentException") (by decide +kernel)) (hts (.initialized "java/lang/IllegalArgumentException") (by decide +kernel)) hstr
    (vx_hat (B := [.castable "java/lang/IllegalArgumentException" "java/lang/IllegalArgumentException", .declares ⟨"java/lang/RuntimeException", "<init>", "(Ljava/lang/String;)V"⟩, .declares ⟨"java/lang/Exception", "<init>", "(Ljava/lang/String;)V"⟩, .declares ⟨"java/lang/Throwable", "<init>", "(Ljava/lang/String;)V"⟩]) (fun w hw => hts w (List.mem_cons_of_mem _ (List.mem_append_right _ hw))) (by decide +kernel) (vx_c (va_Nw.use rfl (hE _ (by decide +kernel))) (vx_c (va_Nw.use rfl (hY "java/lang/RuntimeException" (by decide +kernel))) (vx_c (va_Nw.use rfl (hY "java/lang/Exception" (by decide +kernel))) (vx_c (va_Nw.use rfl (hY "java/lang/Throwable" (by decide +kernel))) vx_n))))) (by decide +kernel) hU hV va_S.rf (hl.1.trans hml.symm)
    dX5_requireArgument_4 dX5_requireArgument_7 dX5_requireArgument_8 dX5_requireArgument_10 dX5_requireArgument_13 (fun x hx => (hxt x hx).elim) (Nat.le_of_ble_eq_true rfl) (Nat.le_of_ble_eq_true rfl) (Nat.le_of_ble_eq_true rfl) (Nat.le_of_ble_eq_true rfl) hlocks
    (fun t _ hz hk => ⟨rfl, hz, fun q h _ => hk q h⟩) (fun z hz => nomatch hz) (Nat.le_of_ble_eq_true rfl) (Nat.le_of_ble_eq_true rfl)
