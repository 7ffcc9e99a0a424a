/-! new long[5][k]: our own rows. The outer array stands at h, its five rows behind it. -/
section JM
/-- the outer array when i rows are in -/
def jm_o (cQ : ClassId) (h i : Nat) : Cell := arrV cQ 5 (fun j => va_rf (if j < i then some (h + 1 + j) else none))
def jm_r (cL : ClassId) (k : Nat) : Cell := arrV cL k (fun _ => .long 0)
/-- the state when i rows are in -/
def jm_s (S : State) (cQ cL : ClassId) (k : Nat) : Nat → State
  | 0 => S.pushCell (jm_o cQ S.heap.size 0)
  | i + 1 => ((jm_s S cQ cL k i).pushCell (jm_r cL k)).setCell S.heap.size (jm_o cQ S.heap.size (i + 1))
theorem jm_o0 (cQ : ClassId) (h : Nat) : jm_o cQ h 0 = { cls := cQ, slots := Array.replicate 5 .null, vm := .none } := by
  rw [arrV_new]
  exact congrArg (arrV cQ 5) (funext fun j => by simp [va_rf])
theorem jm_oS (cQ : ClassId) (h i : Nat) : (jm_o cQ h i).setSlot i (.ref (h + 1 + i)) = jm_o cQ h (i + 1) := by
  unfold jm_o
  rw [arrV_store]
  refine congrArg (arrV cQ 5) (funext fun j => ?_)
  rcases Nat.lt_trichotomy j i with q | q | q
  · simp [updV, Nat.ne_of_lt q, q, Nat.lt_succ_of_lt q]
  · subst q
    simp [updV, va_rf]
  · simp [updV, Nat.ne_of_gt q, show ¬ j < i by omega, show ¬ j < i + 1 by omega]
theorem jm_r0 (cL : ClassId) (k : Nat) : jm_r cL k = { cls := cL, slots := Array.replicate k (.long 0), vm := .none } := (arrV_new _ _ _).symm
theorem jm_osz (cQ : ClassId) (h i : Nat) : (jm_o cQ h i).slots.size = 5 := arrV_size _ _ _
theorem jm_rsz (cL : ClassId) (k : Nat) : (jm_r cL k).slots.size = k := arrV_size _ _ _
theorem jm_facts (S : State) (cQ cL : ClassId) (k : Nat) : ∀ i, (jm_s S cQ cL k i).heap.size = S.heap.size + 1 + i ∧ (jm_s S cQ cL k i).heap[S.heap.size]? = some (jm_o cQ S.heap.size i) ∧ (jm_s S cQ cL k i).vm = S.vm ∧ (jm_s S cQ cL k i).slotsUsed = S.slotsUsed + 5 + i * k
  | 0 => ⟨by simp [jm_s], by simp [jm_s], rfl, by simp [jm_s, jm_osz]⟩
  | i + 1 => by
    obtain ⟨a, b, d, u⟩ := jm_facts S cQ cL k i
    have hlt : S.heap.size < (jm_s S cQ cL k i).heap.size := by omega
    have hb : ((jm_s S cQ cL k i).pushCell (jm_r cL k)).heap[S.heap.size]? = some (jm_o cQ S.heap.size i) := by rw [State.heap_pushCell_of_lt (h := hlt)]; exact b
    refine ⟨?_, State.heap_setCell_self hb, by simp [jm_s, d], ?_⟩
    · simp [jm_s, State.setCell, a]; omega
    · simp [jm_s, u, jm_rsz, Nat.succ_mul]; omega
theorem jm_top (S : State) (f : JFrame) (cQ cL : ClassId) (k : Nat) : ∀ i, jm_s (S.setTop f) cQ cL k i = (jm_s S cQ cL k i).setTop f
  | 0 => rfl
  | i + 1 => by simp only [jm_s, jm_top S f cQ cL k i, State.heap_setTop, State.pushCell_setTop, State.setCell_setTop]
theorem jm_old (S : State) (cQ cL : ClassId) (k : Nat) {a : Addr} (ha : a < S.heap.size) : ∀ i, (jm_s S cQ cL k i).heap[a]? = S.heap[a]?
  | 0 => State.heap_pushCell_of_lt _ _ ha
  | i + 1 => by
    have f1 := (jm_facts S cQ cL k i).1
    have hlt : a < (jm_s S cQ cL k i).heap.size := Nat.lt_of_lt_of_le ha (by rw [f1]; omega)
    show (((jm_s S cQ cL k i).pushCell (jm_r cL k)).setCell S.heap.size _).heap[a]? = _
    rw [State.heap_setCell_other (Nat.ne_of_gt ha), State.heap_pushCell_of_lt (h := hlt)]
    exact jm_old S cQ cL k ha i
theorem jm_row (S : State) (cQ cL : ClassId) (k : Nat) : ∀ i j, j < i → (jm_s S cQ cL k i).heap[S.heap.size + 1 + j]? = some (jm_r cL k)
  | 0, _, h => absurd h (Nat.not_lt_zero _)
  | i + 1, j, h => by
    have f1 := (jm_facts S cQ cL k i).1
    show (((jm_s S cQ cL k i).pushCell (jm_r cL k)).setCell S.heap.size _).heap[S.heap.size + 1 + j]? = _
    rw [State.heap_setCell_other (show S.heap.size ≠ S.heap.size + 1 + j by omega)]
    rcases Nat.lt_or_ge j i with hj | hj
    · have hlt : S.heap.size + 1 + j < (jm_s S cQ cL k i).heap.size := by rw [f1]; omega
      rw [State.heap_pushCell_of_lt (h := hlt)]
      exact jm_row S cQ cL k i j hj
    · obtain rfl : j = i := by omega
      rw [← f1]
      exact State.heap_pushCell_size _ _
section
variable {E : CtlPost} {e : Env} {d : Bool} {acts : List Action} {s : State}
theorem jm_newArray {q comp : ClassId} {z : Class} {ty : FieldType} {len : Nat} {v : Value} (hz : s.vm.classes[q]? = some z) (hk : z.kind = .array comp ty) (h1 : ¬ len > e.platform.arrayLengthLimit) (h2 : ¬ len * componentBytes ty > e.platform.maxHeapBytes) (hv : fits ty v = true) (hd : v.isDefault = true) {Q : Addr → Pre}
    (h3 : s.heap.size < e.platform.maxCells) (h4 : s.slotsUsed + len ≤ e.platform.maxSlots) (hq : Q s.heap.size d acts (s.pushCell { cls := q, slots := Array.replicate len v, vm := .none })) : wp (Jvm.newArray q len v) Q E e d acts s := by
  have hfit : ∀ i x, (Array.replicate len v)[i]? = some x → s.fitsSlot q .none i x = true := by
    intro i x hx
    simp only [Array.getElem?_replicate] at hx
    split at hx
    · cases hx; simp [State.fitsSlot, State.slotType?, hz, hk, hv]
    · cases hx
  have hact : allocActs (Array.replicate len v) s.heap.size acts = acts := by
    have hall : ((Array.replicate len v).all (·.isDefault)) = true := by
      rw [Array.all_replicate]; split <;> simp [hd]
    unfold allocActs; rw [if_pos hall]
  simp only [Jvm.newArray, Jvm.arrayFits, wp_bind', W.ask, W.ite, h1, if_false, wp_pure', W.theClass, hz, hk, h2, W.alloc, W.stop, Option.some.injEq, exists_eq_left', Array.size_replicate, hact]
  rw [if_neg (by omega)]
  exact ⟨h3, h4, hfit, hq⟩
theorem jm_make {cQ cL c0 : ClassId} {kQ kL : Class} {n : Int32} (hkQ : s.vm.classes[cQ]? = some kQ) (hQ : kQ.kind = .array cL (.array .long)) (hkL : s.vm.classes[cL]? = some kL) (hL : kL.kind = .array c0 .long) (hn : ¬ n < 0)
    (hl1 : ¬ 5 > e.platform.arrayLengthLimit) (hh1 : ¬ 5 * componentBytes (.array .long) > e.platform.maxHeapBytes) (hl2 : ¬ n.toNatClampNeg > e.platform.arrayLengthLimit) (hh2 : ¬ n.toNatClampNeg * componentBytes .long > e.platform.maxHeapBytes)
    (hc : s.heap.size + 6 ≤ e.platform.maxCells) (hs : s.slotsUsed + 5 + 5 * n.toNatClampNeg ≤ e.platform.maxSlots) {Q : Addr → Pre} (hq : ∀ d' acts', Q s.heap.size d' acts' (jm_s s cQ cL n.toNatClampNeg 5)) :
    wp (multianewarray.make cQ [5, n]) Q E e d acts s := by
  have hfind : ([n].find? (· < 0)) = none := by simp [hn]
  rw [multianewarray.make]
  simp only [wp_bind', W.ite, show ¬ (5 : Int32) < 0 by decide, if_false, wp_pure', W.theClass, hkQ, hQ, Option.some.injEq, exists_eq_left', show (5 : Int32).toNatClampNeg = 5 by decide]
  refine jm_newArray hkQ hQ hl1 hh1 rfl rfl (by omega) (by omega) ?_
  simp only [hfind]
  rw [ite_self, wp_bind', Std.Legacy.Range.forIn_eq_forIn_range']
  rw [show ([:5] : Std.Legacy.Range).size = 5 from rfl]
  show wp (forIn (List.range' 0 5 1) PUnit.unit _) _ E e d acts _
  rw [← jm_o0 cQ s.heap.size]
  refine wp_forIn_inv (fun rest s' => ∃ i, i ≤ 5 ∧ rest = List.range' i (5 - i) ∧ s' = jm_s s cQ cL n.toNatClampNeg i) _ _ ⟨0, by omega, rfl, rfl⟩ ?_ ?_
  · rintro x rest s' d' acts' Q' ⟨i, hi, hl, rfl⟩ hnext
    have hlt : i < 5 := by
      rcases Nat.lt_or_ge i 5 with h | h
      · exact h
      · rw [show 5 - i = 0 by omega] at hl; simp at hl
    rw [show 5 - i = (5 - (i + 1)) + 1 by omega, List.range'_succ] at hl
    obtain ⟨rfl, hrest⟩ := List.cons.inj hl
    obtain ⟨f1, f2, f3, f4⟩ := jm_facts s cQ cL n.toNatClampNeg x
    have hm : x * n.toNatClampNeg + n.toNatClampNeg ≤ 5 * n.toNatClampNeg := by
      have := Nat.mul_le_mul_right n.toNatClampNeg (show x + 1 ≤ 5 from hlt)
      rw [Nat.succ_mul] at this; exact this
    simp only [wp_bind']
    rw [multianewarray.make]
    simp only [wp_bind', W.ite, hn, if_false, wp_pure', W.theClass, f3, hkL, hL, Option.some.injEq, exists_eq_left']
    refine jm_newArray (by rw [f3]; exact hkL) hL hl2 hh2 rfl rfl (by rw [f1]; omega) (by rw [f4]; omega) ?_
    rw [show ({ cls := cL, slots := Array.replicate n.toNatClampNeg (defaultValue .long), vm := .none } : Cell) = jm_r cL n.toNatClampNeg from (jm_r0 ..).symm]
    have hlt0 : s.heap.size < (jm_s s cQ cL n.toNatClampNeg x).heap.size := by rw [f1]; omega
    simp only [wp_bind', W.writeLoc, wp_pure']
    refine ⟨jm_o cQ s.heap.size x, by rw [State.heap_pushCell_of_lt (h := hlt0)]; exact f2, (by intro h; cases h), by rw [jm_osz]; exact hlt, ?_, hnext _ _ _ ⟨x + 1, hlt, hrest, ?_⟩⟩
    · show State.fitsSlot _ cQ .none x _ = true
      simp [State.fitsSlot, State.slotType?, f3, hkQ, hQ, fits]
    · rw [f1, jm_oS]; rfl
  · rintro s' d' acts' ⟨i, hi, hl, rfl⟩
    obtain rfl : i = 5 := by
      rcases Nat.lt_or_ge i 5 with h | h
      · rw [show 5 - i = (5 - (i + 1)) + 1 by omega, List.range'_succ] at hl; cases hl
      · omega
    simp only [wp_pure']
    exact hq _ _
end
variable {p : Program} {l : Launch} {e : Env} {R : Room} {s : State} {m : MethodId} {args : Array Value} {below : List Frame} {meth : Method} {c : Code} {T : State} {H : Heap} {locs : List Loc} {cells slots : Nat} {Q : State → Prop}
theorem jm_stand (X : Stand p l e R s m args below meth c T locs cells slots) (cQ cL : ClassId) (k : Nat) : ∀ i, Stand p l e R s m args below meth c (jm_s T cQ cL k i) (locs ++ (List.range i).map fun j => ⟨T.heap.size, j⟩) (cells + 1 + i) (slots + 5 + i * k)
  | 0 => by
    have h := X.pushed (jm_o cQ T.heap.size 0)
    rw [jm_osz] at h
    simpa [jm_s] using h
  | i + 1 => by
    obtain ⟨f1, f2, f3, f4⟩ := jm_facts T cQ cL k i
    have hlt0 : T.heap.size < (jm_s T cQ cL k i).heap.size := by rw [f1]; omega
    have hcell : ((jm_s T cQ cL k i).pushCell (jm_r cL k)).heap[T.heap.size]? = some (jm_o cQ T.heap.size i) := by rw [State.heap_pushCell_of_lt (h := hlt0)]; exact f2
    have h := ((jm_stand X cQ cL k i).pushed (jm_r cL k)).stored hcell i (.ref (T.heap.size + 1 + i))
    rw [jm_rsz, jm_oS] at h
    have e2 : (locs ++ (List.range (i + 1)).map fun j => (⟨T.heap.size, j⟩ : Loc)) = (locs ++ (List.range i).map fun j => (⟨T.heap.size, j⟩ : Loc)) ++ [⟨T.heap.size, i⟩] := by simp [List.range_succ, List.append_assoc]
    rw [e2, show slots + 5 + (i + 1) * k = slots + 5 + i * k + k by rw [Nat.succ_mul]; omega]
    exact h
/-- what the tables say of the array of arrays -/
theorem jm_over {args : Array Value} {U : State} (h : (Cond.arrayOver (.array .long)).before args U = true) : ∃ comp q k, U.vm.findClass "[J" = some comp ∧ U.vm.classes[q]? = some k ∧ k.kind = .array comp (.array .long) ∧ U.vm.findClass "[[J" = some q := by
  simp only [Cond.before, Cond.holds, Cond.value, beq_iff_eq] at h
  cases hc : U.vm.findClass (FieldType.array .long).toString with
  | none => simp [hc] at h
  | some comp =>
    simp only [hc, Option.bind_some, Option.bind_eq_some_iff, Option.map_eq_some_iff] at h
    obtain ⟨q, hi, k, hk, hb⟩ := h
    obtain ⟨hlt, hp, -⟩ := Array.findIdx?_eq_some_iff_getElem.mp hi
    have hkk : U.vm.classes[q] = k := (Array.getElem?_eq_some_iff.mp hk).2
    rw [hkk] at hp
    cases hkind : k.kind with
    | array component ty =>
      rw [hkind] at hb hp
      simp at hb hp
      exact ⟨comp, q, k, hc, hk, by rw [hkind, hp, hb.1], hb.2⟩
    | _ => rw [hkind] at hb; simp at hb
theorem jm_D {A : Nat → Prop} {ws new : va_W} {N : Nat} (hD : va_D A ws) (hlt : ∀ (k : Nat) (x : Nat × va_E), ws[k]? = some x → x.1 < N) (hnew : ∀ (k : Nat) (x : Nat × va_E), new[k]? = some x → x.1 = N + k) (hA : ∀ q, N ≤ q → A q) : va_D A (ws ++ new) := by
  refine ⟨fun i j x y hi hj hxy => ?_, fun k x hx => ?_⟩
  · by_cases h1 : i < ws.length <;> by_cases h2 : j < ws.length
    · rw [List.getElem?_append_left h1] at hi
      rw [List.getElem?_append_left h2] at hj
      exact hD.1 i j x y hi hj hxy
    · rw [List.getElem?_append_left h1] at hi
      rw [List.getElem?_append_right (by omega)] at hj
      have := hlt _ _ hi
      have := hnew _ _ hj
      omega
    · rw [List.getElem?_append_right (by omega)] at hi
      rw [List.getElem?_append_left h2] at hj
      have := hlt _ _ hj
      have := hnew _ _ hi
      omega
    · rw [List.getElem?_append_right (by omega)] at hi hj
      have := hnew _ _ hi
      have := hnew _ _ hj
      omega
  · by_cases h1 : k < ws.length
    · rw [List.getElem?_append_left h1] at hx
      exact hD.2 k x hx
    · rw [List.getElem?_append_right (by omega)] at hx
      have := hnew _ _ hx
      exact hA _ (by omega)
/-- the cells of a new grid at q -/
def jm_w (cQ cL : ClassId) (K q : Nat) : va_W := [(q, .inl (cQ, 5, .inr (.inr (.inr (.inr fun j => if j < 5 then some (q + 1 + j) else none))))), (q + 1, .inl (cL, K, .inr (.inl fun _ => 0))), (q + 2, .inl (cL, K, .inr (.inl fun _ => 0))), (q + 3, .inl (cL, K, .inr (.inl fun _ => 0))), (q + 4, .inl (cL, K, .inr (.inl fun _ => 0))), (q + 5, .inl (cL, K, .inr (.inl fun _ => 0)))]
theorem jm_new {cc : ByteArray} {pc : Nat} {ls : Array Slot} {rest : List Value} {D : va_G} {cl : List vw_C} {A : Nat → Prop} {tys : List (ClassId × FieldType)} {w : va_W} {H0 : Heap} {cQ cL : ClassId} (hexec : p.tables.exec = Jvm.exec) (hb : c.code = cc) {own : String} {index : Nat} (hown : s.vm.findClass own = some m.cls) (hclink : (Cond.classLink own index "[[J").before args s = true)
    (hQ : ∃ k, s.vm.classes[cQ]? = some k ∧ k.kind = .array cL (.array .long)) (harr : (Cond.arrayClass .long).before args s = true) (hK : va_K D cl tys s) (tL tQ : Nat) (htL : tys[tL]? = some (cL, .long)) (htQ : tys[tQ]? = some (cQ, .array .long)) (hP : va_P D cl w H) (hD : va_D A w) (hS : va_S A H0 H locs) (hA : ∀ q, H0.size ≤ q → A q)
    {n : Int32} {K : Nat} (hn : ¬ n < 0) (hN : n.toNatClampNeg = K) (hK4 : K ≤ 400) (hcells : cells + 6 ≤ R.cells) (hslots : slots + (5 + 5 * K) ≤ R.slots) (hdg : decode cc pc = .ok (.multianewarray index 2, 4))
    (kk : ∀ (q : Nat) (H1 : Heap), va_P D cl (w ++ jm_w cQ cL K q) H1 → va_D A (w ++ jm_w cQ cL K q) → va_S A H0 H1 locs → W p l e R s m args below meth c H1 locs (cells + 6) (slots + (5 + 5 * K)) Q (F0 m (pc + 4) ls (.ref q :: rest))) :
    W p l e R s m args below meth c H locs cells slots Q (F0 m pc ls (.int n :: .int 5 :: rest)) := by
  subst hN
  intro T hT X
  have hpl : e.platform.magicAccessors = ({} : Platform).magicAccessors := by rw [X.admits.platform]
  obtain ⟨kQ, hkQ, hkindQ⟩ := hQ
  obtain ⟨cL', kL, c0, hfL, hkL, hkindL⟩ := Cond.arrayClass_spec harr
  have hL1 : s.vm.findClass ("[" ++ FieldType.long.toString) = some cL := (hK.2 tL _ htL).2
  cases Option.some.inj (hfL.symm.trans hL1)
  have hQ1 : s.vm.findClass ("[" ++ (FieldType.array .long).toString) = some cQ := (hK.2 tQ _ htQ).2
  obtain ⟨q0, hfc0, hcl⟩ := Cond.classLink_spec hown hclink e.platform hpl
  have hq0 : q0 = cQ := Option.some.inj (hfc0.symm.trans hQ1)
  subst hq0
  obtain ⟨hg₁, hwarm₁, hready₁⟩ := State.classEntry (e := e) X.warmed hcl
  generalize T.vm.noted m.cls index (.cls q0) = vm₁ at hg₁ hwarm₁ hready₁
  obtain ⟨kQ₁, hkQ₁, heQ⟩ := hwarm₁.alike.2.2 _ _ hkQ
  obtain ⟨kL₁, hkL₁, heL⟩ := hwarm₁.alike.2.2 _ _ hkL
  have hkindQ₁ : kQ₁.kind = .array cL (.array .long) := by rw [heQ]; exact hkindQ
  have hkindL₁ : kL₁.kind = .array c0 .long := by rw [heL]; exact hkindL
  have X₁ := X.noted hwarm₁
  obtain ⟨hr1, hr2⟩ := X.roomAbove hcells hslots
  have XF := jm_stand X₁ q0 cL n.toNatClampNeg 5
  have XG : Stand p l e R s m args below meth c (jm_s (T.setVm vm₁) q0 cL n.toNatClampNeg 5) locs (cells + 1 + 5) (slots + 5 + 5 * n.toNatClampNeg) := XF.dropFresh (fun x hx => by
    obtain ⟨j, -, rfl⟩ := List.mem_map.mp hx
    exact X₁.same.2.1)
  have hTh : (T.setVm vm₁).heap = H := hT
  obtain ⟨f1, f2, f3, f4⟩ := jm_facts (T.setVm vm₁) q0 cL n.toNatClampNeg 5
  have hold : ∀ x : Nat, x < H.size → (jm_s (T.setVm vm₁) q0 cL n.toNatClampNeg 5).heap[x]? = H[x]? := fun x hx => by
    rw [jm_old (T.setVm vm₁) q0 cL n.toNatClampNeg (by rw [hTh]; exact hx) 5, hTh]
  have hrow : ∀ j, j < 5 → (jm_s (T.setVm vm₁) q0 cL n.toNatClampNeg 5).heap[H.size + 1 + j]? = some (vp_cell cL (n.toNatClampNeg, .inr (.inl fun _ => 0))) := fun j hj => by
    have := jm_row (T.setVm vm₁) q0 cL n.toNatClampNeg 5 j hj
    rw [hTh] at this
    exact this
  rw [hTh] at f1 f2
  have hout : (jm_s (T.setVm vm₁) q0 cL n.toNatClampNeg 5).heap[H.size]? = some (vp_cell q0 (5, .inr (.inr (.inr (.inr fun j => if j < 5 then some (H.size + 1 + j) else none))))) := by
    rw [f2, vp_cell_q]
    rfl
  have hP1 : va_P D cl (w ++ jm_w q0 cL n.toNatClampNeg H.size) (jm_s (T.setVm vm₁) q0 cL n.toNatClampNeg 5).heap := by
    refine (hP.kept (fun k x hx => hold x.1 ((hP k x hx).lt))).app (fun k x hx => ?_)
    match k, hx with
    | 0, hx => cases hx; exact hout
    | 1, hx => cases hx; exact hrow 0 (by decide)
    | 2, hx => cases hx; exact hrow 1 (by decide)
    | 3, hx => cases hx; exact hrow 2 (by decide)
    | 4, hx => cases hx; exact hrow 3 (by decide)
    | 5, hx => cases hx; exact hrow 4 (by decide)
    | k + 6, hx => simp [jm_w] at hx
  have hD1 : va_D A (w ++ jm_w q0 cL n.toNatClampNeg H.size) := by
    refine jm_D hD (fun k x hx => (hP k x hx).lt) (fun k x hx => ?_) (fun q hq => hA q (Nat.le_trans hS.1 hq))
    match k, hx with
    | 0, hx => cases hx; rfl
    | 1, hx => cases hx; rfl
    | 2, hx => cases hx; rfl
    | 3, hx => cases hx; rfl
    | 4, hx => cases hx; rfl
    | 5, hx => cases hx; rfl
    | k + 6, hx => simp [jm_w] at hx
  obtain ⟨t, a1, b1⟩ := kk H.size _ hP1 hD1 ⟨by rw [f1]; have := hS.1; omega, fun x h1 h2 => (hold x (Nat.lt_of_lt_of_le h1 hS.1)).trans (hS.2.1 x h1 h2), hS.2.2⟩ _ rfl (by rw [show cells + 6 = cells + 1 + 5 by omega, show slots + (5 + 5 * n.toNatClampNeg) = slots + 5 + 5 * n.toNatClampNeg by omega]; exact XG)
  refine ⟨t, ?_, b1⟩
  have hdg' : decode c.code pc = .ok (.multianewarray index 2, 4) := by rw [hb]; exact hdg
  have hl1 : ¬ 5 > e.platform.arrayLengthLimit := by rw [Launch.admits_arrayLengthLimit X.admits]; omega
  have hh1 : ¬ 5 * componentBytes (.array .long) > e.platform.maxHeapBytes := by
    rw [Launch.admits_maxHeapBytes X.admits]; show ¬ 5 * 4 > 536870912; omega
  have hl2 : ¬ n.toNatClampNeg > e.platform.arrayLengthLimit := by rw [Launch.admits_arrayLengthLimit X.admits]; omega
  have hh2 : ¬ n.toNatClampNeg * componentBytes .long > e.platform.maxHeapBytes := by
    rw [Launch.admits_maxHeapBytes X.admits]; show ¬ n.toNatClampNeg * 8 > 536870912; omega
  jvm_step X.here [hexec, hdg']
  simp only [multianewarray.sem, wp_bind', W.resolveClassAt_links (State.method?_setTop (F0 m pc ls (.int n :: .int 5 :: rest)) X.here.top) hg₁]
  rw [W.popN, if_neg (by decide)]
  refine ⟨F0 m pc ls (.int n :: .int 5 :: rest), State.topJava?_setTop' (s := T.setVm vm₁) _ X.here.top, [.int 5, .int n], rest, rfl, rfl, ?_⟩
  simp only [List.mapM_cons, List.mapM_nil, wp_bind', wp_pure']
  refine jm_make (kQ := kQ₁) (kL := kL₁) (c0 := c0) hkQ₁ hkindQ₁ hkL₁ hkindL₁ hn hl1 hh1 hl2 hh2 (by show T.heap.size + 6 ≤ _; omega) (by show T.slotsUsed + 5 + _ ≤ _; omega) (fun d' acts' => ?_)
  have eS : ((T.setTop (F0 m pc ls (.int n :: .int 5 :: rest))).setVm vm₁).setTop (F0 m pc ls rest) = (T.setVm vm₁).setTop (F0 m pc ls rest) := by
    show ((T.setVm vm₁).setTop _).setTop _ = _
    rw [State.setTop_setTop]
  rw [eS, jm_top]
  simp only [wp_bind', W.mark, W.pushRef, State.topJava?_setTop' _ XG.here.top, Option.some.injEq, exists_eq_left', State.setTop_setTop, State.heap_setTop]
  intro acts
  simp [jvm, XG.here.top]
  rw [show T.heap.size = H.size by rw [hT]]
  exact a1
end JM
