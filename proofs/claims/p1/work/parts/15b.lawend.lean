theorem j_em (x z : Int32) : (x < 0 ∨ z ≤ x) ∨ (¬ x < 0 ∧ ¬ z ≤ x) := by
  by_cases h : x < 0 ∨ z ≤ x
  · exact Or.inl h
  · exact Or.inr ⟨fun q => h (Or.inl q), fun q => h (Or.inr q)⟩
theorem j_grp (x y : Int32) : (x < 0 ∨ (y < 0 ∨ 5 ≤ y)) ∨ (¬ x < 0 ∧ ¬ y < 0 ∧ ¬ 5 ≤ y) := by
  by_cases h : x < 0 ∨ (y < 0 ∨ 5 ≤ y)
  · exact Or.inl h
  · exact Or.inr ⟨fun q => h (Or.inl q), fun q => h (Or.inr (Or.inl q)), fun q => h (Or.inr (Or.inr q))⟩
theorem j_16 (x : Int32) : x &&& 15 = 0 ∨ x &&& 15 = 1 ∨ x &&& 15 = 2 ∨ x &&& 15 = 3 ∨ x &&& 15 = 4 ∨ x &&& 15 = 5 ∨ x &&& 15 = 6 ∨ x &&& 15 = 7 ∨ x &&& 15 = 8 ∨ x &&& 15 = 9 ∨ x &&& 15 = 10 ∨ x &&& 15 = 11 ∨ x &&& 15 = 12 ∨ x &&& 15 = 13 ∨ x &&& 15 = 14 ∨ x &&& 15 = 15 := by
  obtain ⟨j, hj, ej⟩ := pk_andE x (m := 15) 4 (by decide)
  rw [ej]
  rcases (show j = 0 ∨ j = 1 ∨ j = 2 ∨ j = 3 ∨ j = 4 ∨ j = 5 ∨ j = 6 ∨ j = 7 ∨ j = 8 ∨ j = 9 ∨ j = 10 ∨ j = 11 ∨ j = 12 ∨ j = 13 ∨ j = 14 ∨ j = 15 by omega) with rfl | rfl | rfl | rfl | rfl | rfl | rfl | rfl | rfl | rfl | rfl | rfl | rfl | rfl | rfl | rfl <;> decide
set_option maxHeartbeats 2000000 in
set_option maxRecDepth 100000 in
/-- behind the one call: the loop ends, the law answers true -/
theorem law_end {p : Program} {e : Env} {s : State} {m : MethodId} {below : List Frame} {meth : Method} {c : Code} (l : Launch) {b : Nat} {xs : Nat → Int32} (C0 : lw_At p s m meth c b 7 xs) {H : Heap} {locs : List Loc} {cells slots : Nat} (hc : cells ≤ 600002) (hs : slots ≤ 7302198) (hS : va_S (fun q : Nat => s.heap.size ≤ q) s.heap H locs) {ls : Array Slot} (hl : lv_has ls 8 [(4, .int 3), (0, .ref b)]) :
    W p l e room_1 s m #[Value.ref b] below meth c H locs cells slots (lw_Z below #[Value.ref b] s) (F0 m 1001 ls []) := by
  obtain ⟨hx, hb, hr, hml, hown, hts0, hX, hbl, hlocks, hgv⟩ := id C0
  have hbA : ¬ (fun q : Nat => s.heap.size ≤ q) b := Nat.not_le.mpr hbl
  refine lv_iinc (v := 7) (lv' := [(4, .int 7), (0, .ref b)]) hx hb dL_law_1001 hl (k := 0) rfl (by first | rfl | decide) (by decide) rfl (fun ls hl => ?_)
  refine lv_goto (tgt := 53) hx hb dL_law_1004 (by decide) ?_
  refine lv_iload hx hb dL_law_53 (lv_at hl 0 rfl) ?_
  refine lv_aload_n hx hb dL_law_55 rfl (lv_at hl 1 rfl) ?_
  refine va_slen hx hb hX hbl hbA hS dL_law_56 ?_
  refine lv_iconst (v := 4) hx hb dL_law_57 (by decide) ?_
  refine lv_isub hx hb dL_law_58 ?_
  refine lv_icmp_gt (tgt := 1007) hx hb dL_law_59 (by decide) (fun c_1 => ?_) (fun c_1 => absurd (by decide) c_1)
  refine lv_iconst (v := 1) hx hb dL_law_1007 (by decide) ?_
  refine va_forget hS.2.2 ?_
  refine W.widen (k := 600002) (n := 7302198) hc hs ?_
  exact lw_ret hx hb hr hlocks dL_law_1008
