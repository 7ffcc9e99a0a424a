/-! a handler found, her class's entry resolved by the search or before: our own rows -/
section JC
variable {p : Program} {l : Launch} {e : Env} {R : Room} {s : State} {m : MethodId} {args : Array Value} {below : List Frame} {meth : Method} {c : Code} {T : State} {H : Heap} {locs : List Loc} {cells slots : Nat} {Q : State → Prop}
/-- one covering row whose class links: taken where the thrown object's class goes into it, else passed; the tables are noted either way -/
theorem jc_row {Q : Handler → Pre} {E : CtlPost} {d : Bool} {acts : List Action} {f : JFrame} {a : Addr} {x : ExceptionTableEntry} {t : List ExceptionTableEntry} {k : ClassId} {cell : Cell} (ok : Bool) (hx : covers x f.pc = true) (h0 : x.catchType ≠ 0)
    (hl : s.vm.ClassLinks e.platform f.method.cls x.catchType k) (hcell : s.heap[a]? = some cell) (hobj : ∀ z, cell.vm ≠ .statics z) (h1 : ∃ z, s.vm.classes[cell.cls]? = some z) (h2 : ∃ z, s.vm.classes[k]? = some z) (hok : s.vm.assignable cell.cls k = ok) :
    wp (findHandler.go f a (x :: t)) Q E e d acts s ↔ if ok = true then Q (.found x.handlerPc) d acts (s.setVm (s.vm.noted f.method.cls x.catchType (.cls k))) else wp (findHandler.go f a t) Q E e d acts (s.setVm (s.vm.noted f.method.cls x.catchType (.cls k))) := by
  obtain ⟨g1, g2⟩ := (resolveClass_links e.toSetting hl).op (op := VmOp.resolveClass f.method.cls x.catchType) rfl
  have al : s.vm.Alike (s.vm.noted f.method.cls x.catchType (.cls k)) := (Vm.Alike.refl s.vm).noted _ _ _
  obtain ⟨z1, hz1⟩ := h1
  obtain ⟨z2, hz2⟩ := h2
  obtain ⟨y1, hy1, -⟩ := al.2.2 _ _ hz1
  obtain ⟨y2, hy2, -⟩ := al.2.2 _ _ hz2
  have hok2 : (s.vm.noted f.method.cls x.catchType (.cls k)).assignable cell.cls k = ok := by rw [al.assignable]; exact hok
  simp only [covers] at hx
  cases ok <;> simp [findHandler.go, hx, h0, g1, g2, hcell, hobj, hy1, hy2, hok2, VmOp.dirties, VmOp.acts]
/-- from the thrown object over the frame to the handler, the search's end being known -/
theorem jc_go {a : Addr} {g : JFrame} {pc : Nat} {vm' : Vm} (X : Stand p l e R s m args below meth c T locs cells slots) (hg : g.method = m) (hW : s.WarmedH vm')
    (hf : ∀ (Q : Handler → Pre) (E : CtlPost) (d : Bool) (acts : List Action), wp (findHandler g a) Q E e d acts ((T.setTop g).pushFrame (.throwing a)) ↔ Q (.found pc) d acts (((T.setTop g).pushFrame (.throwing a)).setVm vm')) :
    Stand p l e R s m args below meth c (T.setVm vm') locs cells slots ∧ ∀ target, Steps p.tables e below ((T.setVm vm').setTop { g with pc := pc, stack := [.ref a] }) target → Steps p.tables e below ((T.setTop g).pushFrame (.throwing a)) target := by
  subst hg
  refine ⟨X.noted hW, fun target hrest => ?_⟩
  obtain ⟨hgo, hw⟩ := X.here.throwing a
  refine Steps.head hgo hw ?_
  have hstep : ∀ (S : State) (r : List Frame), (∀ (Q : Handler → Pre) (E : CtlPost) (d : Bool) (acts : List Action), wp (findHandler g a) Q E e d acts S ↔ Q (.found pc) d acts (S.setVm vm')) →
      (stepThrowing e S a (.java g :: r)).Is ((S.setVm vm').setFrames (.java { g with pc := pc, stack := [.ref a] } :: r)) [] := by
    intro S r hS
    simp only [stepThrowing, searchFrame, vmDo]
    generalize hr : Sem.go _ e false [] S = res
    obtain ⟨as, rfl, ha⟩ := Sem.eq_ok_of hr (a := Handler.found pc) (s' := S.setVm vm') (acts' := []) (by simp [hS _ _ _ _])
    exact ⟨rfl, ha⟩
  rw [stepThread_throwing (frames_entered X.here.top _), (hstep _ _ hf).1]
  obtain ⟨g₀, hr⟩ := X.frames_eq
  have hr' : (T.setVm vm').frames = .java g₀ :: below := hr
  have sv : ∀ (u : State) (F G : List Frame), ((u.setFrames F).setVm vm').setFrames G = (u.setVm vm').setFrames G := fun u F G => by
    have h1 : (u.setFrames F).setVm vm' = (u.setVm vm').setFrames F := rfl
    rw [h1, State.setFrames_setFrames]
  rw [State.setTop_of_frames _ hr'] at hrest
  rw [hr, List.tail_cons, State.pushFrame, sv, State.setTop_of_frames _ hr, sv]
  exact hrest
variable {pc : Nat} {ls : Array Slot} {rest : List Value}
/-- caught by the first row of the table -/
theorem jc_first {own name E : String} {ce : Cell} {q : Addr} (hown : s.vm.findClass own = some m.cls) (x : ExceptionTableEntry) (suf : List ExceptionTableEntry) (hsplit : c.exceptionTable.toList = x :: suf) (hx : covers x pc = true) (h0 : x.catchType ≠ 0)
    (hlink : (Cond.classLink own x.catchType E).before args s = true) (hcell : H[q]? = some ce) (hv : ce.vm = .none) (hcl : s.vm.findClass E = some ce.cls)
    (kk : W p l e R s m args below meth c H locs cells slots Q (F0 m x.handlerPc ls [.ref q])) : vx_W p l e R s m args below meth c H locs cells slots Q (F0 m pc ls rest) q := by
  intro T hT X
  have hpl : e.platform.magicAccessors = ({} : Platform).magicAccessors := by rw [X.admits.platform]
  obtain ⟨k, hk, hlk⟩ := Cond.classLink_spec hown hlink e.platform hpl
  cases Option.some.inj (hcl.symm.trans hk)
  obtain ⟨dk, _, _, kt, hd, _, _, _, _, hkt, _, hopen⟩ := hlk.here
  obtain ⟨kt', hkt', -⟩ := X.warmed.alike.2.2 _ _ hkt
  obtain ⟨X', st⟩ := jc_go (a := q) (g := F0 m pc ls rest) (pc := x.handlerPc) (vm' := T.vm.noted m.cls x.catchType (.cls ce.cls)) X rfl (X.warmed.noted hd hopen (State.rightAt_cls hlk)) (fun Q E d acts => by
    rw [W.findHandler_eq (s := (T.setTop (F0 m pc ls rest)).pushFrame (.throwing q)) (f := F0 m pc ls rest) X.method' X.code, hsplit]
    exact (jc_row (s := (T.setTop (F0 m pc ls rest)).pushFrame (.throwing q)) (f := F0 m pc ls rest) true hx h0 (X.warmed.classLinks hlk) (by show T.heap[q]? = some ce; rw [hT]; exact hcell) (VmData.ne_statics_of (by rw [hv]; rfl)) ⟨kt', hkt'⟩ ⟨kt', hkt'⟩ (Vm.assignable_self _ _)).trans (by rw [if_pos rfl]; rfl))
  obtain ⟨t, a1, b1⟩ := kk (T.setVm (T.vm.noted m.cls x.catchType (.cls ce.cls))) hT X'
  exact ⟨t, st t a1, b1⟩
/-- caught by the second row: the first names a class that the object isn't of -/
theorem jc_second {own E N : String} {ce : Cell} {q : Addr} (hown : s.vm.findClass own = some m.cls) (z x : ExceptionTableEntry) (suf : List ExceptionTableEntry) (hsplit : c.exceptionTable.toList = z :: x :: suf) (hz : covers z pc = true) (hx : covers x pc = true) (h9 : z.catchType ≠ 0) (h0 : x.catchType ≠ 0)
    (hlink9 : (Cond.classLink own z.catchType N).before args s = true) (hno : va_Nc E N s) (hlink : (Cond.classLink own x.catchType E).before args s = true) (hcell : H[q]? = some ce) (hv : ce.vm = .none) (hcl : s.vm.findClass E = some ce.cls)
    (kk : W p l e R s m args below meth c H locs cells slots Q (F0 m x.handlerPc ls [.ref q])) : vx_W p l e R s m args below meth c H locs cells slots Q (F0 m pc ls rest) q := by
  intro T hT X
  have hpl : e.platform.magicAccessors = ({} : Platform).magicAccessors := by rw [X.admits.platform]
  obtain ⟨k, hk, hlk⟩ := Cond.classLink_spec hown hlink e.platform hpl
  cases Option.some.inj (hcl.symm.trans hk)
  obtain ⟨k9, hk9, hlk9⟩ := Cond.classLink_spec hown hlink9 e.platform hpl
  obtain ⟨c8, t8, e1, e2, e3⟩ := hno
  cases Option.some.inj (e1.symm.trans hcl)
  cases Option.some.inj (e2.symm.trans hk9)
  obtain ⟨dk, _, _, kt, hd, _, _, _, _, hkt, _, hopen⟩ := hlk.here
  obtain ⟨dk9, _, _, kt9, hd9, _, _, _, _, hkt9, _, hopen9⟩ := hlk9.here
  obtain ⟨kt', hkt', -⟩ := X.warmed.alike.2.2 _ _ hkt
  obtain ⟨kt9', hkt9', -⟩ := X.warmed.alike.2.2 _ _ hkt9
  have W1 : s.WarmedH (T.vm.noted m.cls z.catchType (.cls k9)) := X.warmed.noted hd9 hopen9 (State.rightAt_cls hlk9)
  obtain ⟨kt1, hkt1, -⟩ := W1.alike.2.2 _ _ hkt
  obtain ⟨X', st⟩ := jc_go (a := q) (g := F0 m pc ls rest) (pc := x.handlerPc) (vm' := (T.vm.noted m.cls z.catchType (.cls k9)).noted m.cls x.catchType (.cls ce.cls)) X rfl (W1.noted hd hopen (State.rightAt_cls hlk)) (fun Q E d acts => by
    rw [W.findHandler_eq (s := (T.setTop (F0 m pc ls rest)).pushFrame (.throwing q)) (f := F0 m pc ls rest) X.method' X.code, hsplit]
    refine (jc_row (s := (T.setTop (F0 m pc ls rest)).pushFrame (.throwing q)) (f := F0 m pc ls rest) false hz h9 (X.warmed.classLinks hlk9) (by show T.heap[q]? = some ce; rw [hT]; exact hcell) (VmData.ne_statics_of (by rw [hv]; rfl)) ⟨kt', hkt'⟩ ⟨kt9', hkt9'⟩ (by show T.vm.assignable _ _ = false; rw [X.warmed.alike.assignable]; exact e3)).trans ?_
    rw [if_neg (by decide)]
    exact (jc_row (s := ((T.setTop (F0 m pc ls rest)).pushFrame (.throwing q)).setVm (T.vm.noted m.cls z.catchType (.cls k9))) (f := F0 m pc ls rest) true hx h0 (W1.classLinks hlk) (by show T.heap[q]? = some ce; rw [hT]; exact hcell) (VmData.ne_statics_of (by rw [hv]; rfl)) ⟨kt1, hkt1⟩ ⟨kt1, hkt1⟩ (Vm.assignable_self _ _)).trans (by rw [if_pos rfl]; rfl))
  obtain ⟨t, a1, b1⟩ := kk (T.setVm ((T.vm.noted m.cls z.catchType (.cls k9)).noted m.cls x.catchType (.cls ce.cls))) hT X'
  exact ⟨t, st t a1, b1⟩
end JC
/-! rows of our own over the kit: a method that only reads, a method that writes the cells that it is given, a call that surely throws -/
/-- the nest's words: private fields and methods of nest mates that the class uses -/
def jF : List (String × Nat × String × String × String × String) := [("JoinDesk$Cursor", 100, "JoinDesk$Position", "leftFrom", "I", "JoinDesk"), ("JoinDesk$Cursor", 103, "JoinDesk$Position", "rightFrom", "I", "JoinDesk"), ("JoinDesk$Cursor", 40, "JoinDesk$Position", "leftAt", "I", "JoinDesk"), ("JoinDesk$Cursor", 43, "JoinDesk$Position", "rightAt", "I", "JoinDesk"), ("JoinDesk$Cursor", 54, "JoinDesk$Position", "passed", "I", "JoinDesk"), ("JoinDesk$Cursor", 75, "JoinDesk$Position", "leftTo", "I", "JoinDesk"), ("JoinDesk$Cursor", 78, "JoinDesk$Position", "rightTo", "I", "JoinDesk"), ("JoinDesk$GroupBook", 68, "JoinDesk$Span", "least", "J", "JoinDesk"), ("JoinDesk$GroupBook", 72, "JoinDesk$Span", "greatest", "J", "JoinDesk"), ("JoinDesk$GroupBook", 75, "JoinDesk$Span", "rows", "I", "JoinDesk"), ("JoinDesk$GroupBook", 78, "JoinDesk$Span", "sum", "J", "JoinDesk")]
def jM : List (String × Nat × MethodName × String) := [("JoinDesk$Cursor", 85, ⟨"JoinDesk", "pairsBefore", "(LJoinDesk$Table;LJoinDesk$Table;III)I"⟩, "JoinDesk"), ("JoinDesk$GroupBook", 22, ⟨"JoinDesk$Span", "<init>", "()V"⟩, "JoinDesk"), ("JoinDesk$GroupBook", 41, ⟨"JoinDesk", "isBelow", "(II)Z"⟩, "JoinDesk")]
/-- the nest's words hold, and cQ is the array of cL's -/
def jN (cL cQ : ClassId) (U : State) : Prop := (∀ q ∈ jF, va_Nw (.fieldLinkNest q.1 q.2.1 q.2.2.1 q.2.2.2.1 q.2.2.2.2.1 q.2.2.2.2.2) U) ∧ (∀ q ∈ jM, va_Nw (.methodLinkNest q.1 q.2.1 q.2.2.1 q.2.2.2) U) ∧ ∃ k, U.vm.classes[cQ]? = some k ∧ k.kind = .array cL (.array .long)
theorem jN.warm {cL cQ : ClassId} {s U : State} (hW : s.WarmedH U.vm) (h : jN cL cQ s) : jN cL cQ U := by
  refine ⟨fun q hq => va_Nw.warmF hW (h.1 q hq), fun q hq => va_Nw.warmM hW (h.2.1 q hq), ?_⟩
  obtain ⟨k, h1, h2⟩ := h.2.2
  obtain ⟨k', h3, h4⟩ := hW.alike.2.2 _ _ h1
  exact ⟨k', h3, by rw [h4]; exact h2⟩
theorem jN.same {cL cQ : ClassId} {s U : State} (hv : s.vm = U.vm) (h : jN cL cQ s) : jN cL cQ U := by
  refine ⟨fun q hq => va_Nw.same rfl hv (h.1 q hq), fun q hq => va_Nw.same rfl hv (h.2.1 q hq), ?_⟩
  rw [← hv]
  exact h.2.2
/-- the array classes that the worlds know -/
abbrev jT (cI cL cQ : ClassId) : List (ClassId × FieldType) := [(cI, .int), (cL, .long), (cQ, .array .long)]
/-- a truth value as the machine has it -/
def jb (b : Bool) : Int32 := if b then 1 else 0
theorem jb_n (b : Bool) : narrow .boolean (.int (jb b)) = .int (jb b) := by cases b <;> rfl
theorem jb_f (b : Bool) : fits .boolean (.int (jb b)) = true := by cases b <;> rfl
section JA
variable {p : Program} {l : Launch} {e : Env} {R : Room} {s : State} {m : MethodId} {args : Array Value} {below : List Frame} {meth : Method} {c : Code} {H : Heap} {locs : List Loc} {cells slots : Nat} {Q : State → Prop}
variable {D : va_G} {cl : List vw_C} {tys : List (ClassId × FieldType)} {cL cQ : ClassId} {w wc : va_W}
variable {y : MethodName} {bytes cc : ByteArray} {maxL nL mc ms n index : Nat} {ret : Option FieldType} {ws : List Cond} {rm : Room} {Ts : List Cond} {own C : String} {b : Addr} {As rest st0 : List Value} {pc : Nat} {ls : Array Slot} {A : Nat → Prop} {H0 : Heap}
theorem jw_fm {is : List Nat} (hs : is.map (fun i => w[i]?) = wc.map some) : is.filterMap (fun i => w[i]?) = wc := by
  have h := congrArg (List.filterMap id) hs
  simpa [List.filterMap_map, Function.comp_def] using h
/-- the start of a method that reads the cells wc -/
def jr_P (D : va_G) (cl : List vw_C) (tys : List (ClassId × FieldType)) (cL cQ : ClassId) (av : List Value) (wc : va_W) : Array Value → State → Prop := va_Pc av (fun U => va_P D cl wc U.heap ∧ va_K D cl tys U ∧ jN cL cQ U)
/-- the start of a method that may write the cells wc; the heap has sz cells -/
def jw_P (D : va_G) (cl : List vw_C) (tys : List (ClassId × FieldType)) (cL cQ : ClassId) (av : List Value) (wc : va_W) (sz : Nat) : Array Value → State → Prop := va_Pc av (fun U => U.heap.size = sz ∧ va_P D cl wc U.heap ∧ va_K D cl tys U ∧ jN cL cQ U ∧ va_D (fun _ => True) wc)
/-- the cells behind it -/
def jw_B {S : Type} (D : va_G) (cl : List vw_C) (A : Nat → Prop) (w1 : S → va_W) : S → State → Prop := fun u t => va_P D cl (w1 u) t.heap ∧ va_D A (w1 u)
theorem jr_blind {av : List Value} : FrameBlind (jr_P D cl tys cL cQ av wc) := fun a U g mk q => by
  obtain ⟨q0, qP, qK, qN⟩ := q
  exact ⟨q0, qP, va_K.moved (u := U) (U := U.calling g mk a) (Vm.Alike.refl U.vm) qK, jN.same (s := U) rfl qN⟩
theorem jw_blind {av : List Value} {sz : Nat} : FrameBlind (jw_P D cl tys cL cQ av wc sz) := fun a U g mk q => by
  obtain ⟨q0, q1, qP, qK, qN, qD⟩ := q
  exact ⟨q0, q1, qP, va_K.moved (u := U) (U := U.calling g mk a) (Vm.Alike.refl U.vm) qK, jN.same (s := U) rfl qN, qD⟩
theorem jr_S (hK : va_K D cl tys s) (hN : jN cL cQ s) (hP : va_P D cl w H) (is : List Nat) (hs : is.filterMap (fun i => w[i]?) = wc) : PreS s H (jr_P D cl tys cL cQ As wc) As :=
  ⟨jr_blind, fun U hU hW => ⟨rfl, by rw [hU]; exact hP.sub is hs, va_K.moved hW.alike hK, hN.warm hW⟩⟩
theorem jr_V (hK : va_K D cl tys s) (hN : jN cL cQ s) (hP : va_P D cl w H) (is : List Nat) (hs : is.filterMap (fun i => w[i]?) = wc) (ci q0 : Nat) {q : vw_C} {fs : List Value} (hc : cl[ci]? = some q) (hq : q.1 = C) (he : w[q0]? = some (b, .inr (ci, fs))) : PreV s H C b (jr_P D cl tys cL cQ (.ref b :: As) wc) As :=
  ⟨jr_blind, by rw [← hq]; exact va_recv hK hP hc he, fun U hU hW => ⟨rfl, by rw [hU]; exact hP.sub is hs, va_K.moved hW.alike hK, hN.warm hW⟩⟩
theorem jw_S (hK : va_K D cl tys s) (hN : jN cL cQ s) (hP : va_P D cl w H) (hD : va_D A w) (is : List Nat) (hn : va_nd is = true) (hs : is.map (fun i => w[i]?) = wc.map some) : PreS s H (jw_P D cl tys cL cQ As wc H.size) As :=
  ⟨jw_blind, fun U hU hW => ⟨rfl, by rw [hU], by rw [hU]; exact hP.sub is (jw_fm hs), va_K.moved hW.alike hK, hN.warm hW, (hD.sub is hn hs).weaken (fun _ _ _ _ => trivial)⟩⟩
theorem jw_V (hK : va_K D cl tys s) (hN : jN cL cQ s) (hP : va_P D cl w H) (hD : va_D A w) (is : List Nat) (hn : va_nd is = true) (hs : is.map (fun i => w[i]?) = wc.map some) (ci q0 : Nat) {q : vw_C} {fs : List Value} (hc : cl[ci]? = some q) (hq : q.1 = C) (he : w[q0]? = some (b, .inr (ci, fs))) : PreV s H C b (jw_P D cl tys cL cQ (.ref b :: As) wc H.size) As :=
  ⟨jw_blind, by rw [← hq]; exact va_recv hK hP hc he, fun U hU hW => ⟨rfl, by rw [hU], by rw [hU]; exact hP.sub is (jw_fm hs), va_K.moved hW.alike hK, hN.warm hW, (hD.sub is hn hs).weaken (fun _ _ _ _ => trivial)⟩⟩
/-- a reader's answer that is a cell's address -/
def jr_Sr (post : Nat → Prop) : Array Value → State → Outcome → State → Prop := fun _ st o t => ∃ r : Nat, o = .returned (some (.ref r)) ∧ post r ∧ t.heap = st.heap
theorem jr_callr {post : Nat → Prop} {a : Array Value} (hr : CallRun p l e R s m args below meth c H locs cells slots 0 0 (F0 m pc ls st0) rest (jr_Sr post a) (fun _ => False))
    (kk : ∀ r : Nat, post r → W p l e R s m args below meth c H locs cells slots Q (F0 m (pc + 3) ls (.ref r :: rest))) : W p l e R s m args below meth c H locs cells slots Q (F0 m pc ls st0) := by
  refine va_csr (a := a) (post := post) (ad := fun k => .ref k) ?_ kk
  intro T hT X
  obtain ⟨v, st₀, t, T', L, h0, X', hL, e1, ⟨r, hv, hp, hh⟩, st⟩ := hr T hT X
  exact ⟨v, st₀, t, T', L, h0, X', hL, e1, ⟨r, hv, hp, hh⟩, st⟩
/-- behind a call that wrote: the callee's cells and the rest -/
theorem jw_v {S : Type} {post : S → Prop} {w1 : S → va_W} {wr : va_W} {a : Array Value} (hr : va_Run p l e R s m args below meth c H locs cells slots mc ms (F0 m pc ls st0) rest (va_Qv post (jw_B D cl (va_A wc H.size) w1) (va_A wc H.size) a) (va_A wc H.size))
    (hP : va_P D cl w H) (hD : va_D A w) (hS : va_S A H0 H locs) (hA : ∀ q, H0.size ≤ q → A q) (isC isR : List Nat) (hC : isC.map (fun i => w[i]?) = wc.map some) (hR : isR.map (fun i => w[i]?) = wr.map some) (hn : va_nd isR = true) (hdis : ∀ i ∈ isR, i ∉ isC)
    (kk : ∀ (u : S) (H1 : Heap) (locs1 : List Loc), post u → va_P D cl (wr ++ w1 u) H1 → va_D A (wr ++ w1 u) → va_S A H0 H1 locs1 → W p l e R s m args below meth c H1 locs1 (cells + mc) (slots + ms) Q (F0 m (pc + 3) ls rest)) : W p l e R s m args below meth c H locs cells slots Q (F0 m pc ls st0) := by
  have hF := va_free (wc := wc) hD hS hA isC hC
  refine va_callv hr hS (fun q _ h => hF q h) hF (fun u t H1 locs1 ht hvm hp hB hz hk hS1 => ?_)
  obtain ⟨hP1, hD1⟩ := hB
  rw [ht] at hP1
  obtain ⟨hP2, hD2⟩ := va_join (wr := wr) (w1 := w1 u) hP hD isC isR hC hR hn hdis hk hF hP1 hD1
  exact kk u H1 locs1 hp hP2 hD2 hS1
theorem jw_i {S : Type} {post : Int32 → S → Prop} {w1 : S → va_W} {wr : va_W} {a : Array Value} (hr : va_Run p l e R s m args below meth c H locs cells slots mc ms (F0 m pc ls st0) rest (va_Qi post (jw_B D cl (va_A wc H.size) w1) (va_A wc H.size) a) (va_A wc H.size))
    (hP : va_P D cl w H) (hD : va_D A w) (hS : va_S A H0 H locs) (hA : ∀ q, H0.size ≤ q → A q) (isC isR : List Nat) (hC : isC.map (fun i => w[i]?) = wc.map some) (hR : isR.map (fun i => w[i]?) = wr.map some) (hn : va_nd isR = true) (hdis : ∀ i ∈ isR, i ∉ isC)
    (kk : ∀ (r : Int32) (u : S) (H1 : Heap) (locs1 : List Loc), post r u → va_P D cl (wr ++ w1 u) H1 → va_D A (wr ++ w1 u) → va_S A H0 H1 locs1 → W p l e R s m args below meth c H1 locs1 (cells + mc) (slots + ms) Q (F0 m (pc + 3) ls (.int r :: rest))) : W p l e R s m args below meth c H locs cells slots Q (F0 m pc ls st0) := by
  have hF := va_free (wc := wc) hD hS hA isC hC
  refine va_calli hr hS (fun q _ h => hF q h) hF (fun r u t H1 locs1 ht hvm hp hB hz hk hS1 => ?_)
  obtain ⟨hP1, hD1⟩ := hB
  rw [ht] at hP1
  obtain ⟨hP2, hD2⟩ := va_join (wr := wr) (w1 := w1 u) hP hD isC isR hC hR hn hdis hk hF hP1 hD1
  exact kk r u H1 locs1 hp hP2 hD2 hS1
theorem jw_l {S : Type} {post : Int64 → S → Prop} {w1 : S → va_W} {wr : va_W} {a : Array Value} (hr : va_Run p l e R s m args below meth c H locs cells slots mc ms (F0 m pc ls st0) rest (va_Ql post (jw_B D cl (va_A wc H.size) w1) (va_A wc H.size) a) (va_A wc H.size))
    (hP : va_P D cl w H) (hD : va_D A w) (hS : va_S A H0 H locs) (hA : ∀ q, H0.size ≤ q → A q) (isC isR : List Nat) (hC : isC.map (fun i => w[i]?) = wc.map some) (hR : isR.map (fun i => w[i]?) = wr.map some) (hn : va_nd isR = true) (hdis : ∀ i ∈ isR, i ∉ isC)
    (kk : ∀ (r : Int64) (u : S) (H1 : Heap) (locs1 : List Loc), post r u → va_P D cl (wr ++ w1 u) H1 → va_D A (wr ++ w1 u) → va_S A H0 H1 locs1 → W p l e R s m args below meth c H1 locs1 (cells + mc) (slots + ms) Q (F0 m (pc + 3) ls (.long r :: rest))) : W p l e R s m args below meth c H locs cells slots Q (F0 m pc ls st0) := by
  have hF := va_free (wc := wc) hD hS hA isC hC
  refine va_calll hr hS (fun q _ h => hF q h) hF (fun r u t H1 locs1 ht hvm hp hB hz hk hS1 => ?_)
  obtain ⟨hP1, hD1⟩ := hB
  rw [ht] at hP1
  obtain ⟨hP2, hD2⟩ := va_join (wr := wr) (w1 := w1 u) hP hD isC isR hC hR hn hdis hk hF hP1 hD1
  exact kk r u H1 locs1 hp hP2 hD2 hS1
/-- a new int array, of the class that the tables have -/
theorem jx_newi {atype : ArrayType} (hexec : p.tables.exec = Jvm.exec) (hb : c.code = cc) (harr : (Cond.arrayClass (newarray.typeOf atype)).before args s = true) (hty : newarray.typeOf atype = .int) (hK : va_K D cl tys s) (hP : va_P D cl w H) (hD : va_D A w) (hS : va_S A H0 H locs) (hA : ∀ q, H0.size ≤ q → A q)
    (t0 : Nat) {cA : ClassId} (ht : tys[t0]? = some (cA, .int)) {n : Int32} {N' : Nat} (hn : ¬ n < 0) (hN : n.toNatClampNeg = N') (hbytes : N' * 4 ≤ 536870912) (hcells : cells + 1 ≤ R.cells) (hslots : slots + N' ≤ R.slots) (hdg : decode cc pc = .ok (.newarray atype, 2))
    (kk : ∀ (q : Nat) (H1 : Heap), va_P D cl (w ++ [(q, .inl (cA, N', .inl fun _ => 0))]) H1 → va_D A (w ++ [(q, .inl (cA, N', .inl fun _ => 0))]) → va_S A H0 H1 locs →
      W p l e R s m args below meth c H1 locs (cells + 1) (slots + N') Q (F0 m (pc + 2) ls (.ref q :: rest))) : W p l e R s m args below meth c H locs cells slots Q (F0 m pc ls (.int n :: rest)) := by
  refine va_newa (a0 := (N', .inl fun _ => 0)) hexec hb harr hty hK hP hD hS hA (fun cA => rfl) hn hN hbytes hcells hslots hdg (fun q cB H1 hK1 hP1 hD1 hS1 => ?_)
  have h1 := (hK.2 t0 _ ht).2
  have h2 := (hK1.2 tys.length (cB, .int) (by simp)).2
  have h3 : cB = cA := Option.some.inj (h2.symm.trans h1)
  subst h3
  exact kk q H1 hP1 hD1 hS1
theorem jx_newl {atype : ArrayType} (hexec : p.tables.exec = Jvm.exec) (hb : c.code = cc) (harr : (Cond.arrayClass (newarray.typeOf atype)).before args s = true) (hty : newarray.typeOf atype = .long) (hK : va_K D cl tys s) (hP : va_P D cl w H) (hD : va_D A w) (hS : va_S A H0 H locs) (hA : ∀ q, H0.size ≤ q → A q)
    (t0 : Nat) {cA : ClassId} (ht : tys[t0]? = some (cA, .long)) {n : Int32} {N' : Nat} (hn : ¬ n < 0) (hN : n.toNatClampNeg = N') (hbytes : N' * 8 ≤ 536870912) (hcells : cells + 1 ≤ R.cells) (hslots : slots + N' ≤ R.slots) (hdg : decode cc pc = .ok (.newarray atype, 2))
    (kk : ∀ (q : Nat) (H1 : Heap), va_P D cl (w ++ [(q, .inl (cA, N', .inr (.inl fun _ => 0)))]) H1 → va_D A (w ++ [(q, .inl (cA, N', .inr (.inl fun _ => 0)))]) → va_S A H0 H1 locs →
      W p l e R s m args below meth c H1 locs (cells + 1) (slots + N') Q (F0 m (pc + 2) ls (.ref q :: rest))) : W p l e R s m args below meth c H locs cells slots Q (F0 m pc ls (.int n :: rest)) := by
  refine va_newa (a0 := (N', .inr (.inl fun _ => 0))) hexec hb harr hty hK hP hD hS hA (fun cA => rfl) hn hN hbytes hcells hslots hdg (fun q cB H1 hK1 hP1 hD1 hS1 => ?_)
  have h1 := (hK.2 t0 _ ht).2
  have h2 := (hK1.2 tys.length (cB, .long) (by simp)).2
  have h3 : cB = cA := Option.some.inj (h2.symm.trans h1)
  subst h3
  exact kk q H1 hP1 hD1 hS1
/-- where a call has thrown E0 and no cell that was there has changed -/
def jx_X (E0 : String) : String → State → State → Prop := fun E st t => E = E0 ∧ va_F (fun q => st.heap.size ≤ q) st t
theorem jx_thr {E0 : String} (hr : vx_Run p l e R s m args below meth c H locs cells slots mc ms (F0 m pc ls st0) rest (fun _ _ _ => False) (jx_X E0) (fun _ => False))
    (kx : ∀ (ce : Cell) (q9 : Addr) (H1 : Heap), H.size ≤ H1.size → (∀ q : Nat, q < H.size → H1[q]? = H[q]?) → H1[q9]? = some ce → ce.vm = .none → s.vm.findClass E0 = some ce.cls → vx_W p l e R s m args below meth c H1 locs (cells + mc) (slots + ms) Q (F0 m pc ls rest) q9) :
    W p l e R s m args below meth c H locs cells slots Q (F0 m pc ls st0) := by
  intro T hT X
  rcases hr T hT X with ⟨v, st₀, t, T', L, h0, X', hL, e1, e2, hF, st⟩ | ⟨q, st₀, t, T', L, E, ce, h0, X', hL, e1, e2, ⟨hE, hz, hk⟩, hce, hcv, hcl, st⟩
  · exact hF.elim
  · subst hE
    have hL0 : L = [] := List.eq_nil_iff_forall_not_mem.mpr hL
    subst hL0
    rw [List.append_nil] at X'
    rw [h0] at hz hk
    obtain ⟨t2, a1, b1⟩ := kx ce q T'.heap (by rw [e1]; exact hz) (fun q h => by rw [e1]; exact hk q h (Nat.not_le.mpr h)) (by rw [e1]; exact hce) hcv hcl T' rfl X'
    exact ⟨t2, st.trans a1, b1⟩
/-- it goes on to the caller, nothing written here -/
theorem jx_out {E0 : String} {Qc : Array Value → State → Outcome → State → Prop} {q : Addr} {ce : Cell} (hout : ∀ x ∈ c.exceptionTable.toList, False) (hlocks : meth.locks = false) (hz : s.heap.size ≤ H.size) (hk : ∀ q : Nat, q < s.heap.size → H[q]? = s.heap[q]?) (hcell : H[q]? = some ce) (hv : ce.vm = .none) (hcl : s.vm.findClass E0 = some ce.cls) (hc : cells ≤ mc) (hs : slots ≤ ms) :
    vx_W p l e R s m args below meth c H [] cells slots (vx_MQ below Qc (jx_X E0) args s mc ms (fun _ => False)) (F0 m pc ls rest) q :=
  vx_out (fun x hx => (hout x hx).elim) hlocks hcell hv hcl (fun t ht _ => ⟨rfl, by rw [ht]; exact hz, fun q h _ => by rw [ht]; exact hk q h⟩) (fun z hz => nomatch hz) hc hs
end JA
