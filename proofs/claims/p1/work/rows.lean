section
-- ===== PART A: goes FIRST, ahead of the names: the tables' words, and 'selects' of the private methods out of them =====
/-- a private method of a class that the tables say can be made, by its rows of tables_1 -/
def lw_okq (q : MethodName × Nat) : Prop := (q.1.cls ≠ "java/lang/invoke/MethodHandle" ∧ q.1.cls ≠ "java/lang/invoke/VarHandle") ∧ Cond.instantiable q.1.cls q.2 ∈ tables_1 ∧ Cond.privateMethod q.1 ∈ tables_1 ∧ Cond.instanceMethod q.1 ∈ tables_1
theorem lw_p0 : lw_okq (⟨"JoinDesk$Table", "putInOrder", "(I)V"⟩, 9) := ⟨⟨by decide +kernel, by decide +kernel⟩, List.mem_of_getElem? (i := 24) (by decide +kernel), List.mem_of_getElem? (i := 206) (by decide +kernel), List.mem_of_getElem? (i := 207) (by decide +kernel)⟩
theorem lw_p1 : lw_okq (⟨"JoinDesk", "tableOf", "(Z)LJoinDesk$Table;"⟩, 5) := ⟨⟨by decide +kernel, by decide +kernel⟩, List.mem_of_getElem? (i := 16) (by decide +kernel), List.mem_of_getElem? (i := 261) (by decide +kernel), List.mem_of_getElem? (i := 262) (by decide +kernel)⟩
theorem lw_p2 : lw_okq (⟨"java/lang/Throwable", "fillInStackTrace", "(I)Ljava/lang/Throwable;"⟩, 6) := ⟨⟨by decide +kernel, by decide +kernel⟩, List.mem_of_getElem? (i := 310) (by decide +kernel), List.mem_of_getElem? (i := 308) (by decide +kernel), List.mem_of_getElem? (i := 309) (by decide +kernel)⟩
theorem lw_p3 : lw_okq (⟨"JoinDesk$Cursor", "rowsAhead", "()I"⟩, 7) := ⟨⟨by decide +kernel, by decide +kernel⟩, List.mem_of_getElem? (i := 68) (by decide +kernel), List.mem_of_getElem? (i := 394) (by decide +kernel), List.mem_of_getElem? (i := 395) (by decide +kernel)⟩
theorem lw_p4 : lw_okq (⟨"JoinDesk$Cursor", "comeToNewKeys", "()V"⟩, 7) := ⟨⟨by decide +kernel, by decide +kernel⟩, List.mem_of_getElem? (i := 68) (by decide +kernel), List.mem_of_getElem? (i := 402) (by decide +kernel), List.mem_of_getElem? (i := 403) (by decide +kernel)⟩
theorem lw_p5 : lw_okq (⟨"JoinDesk$Cursor", "readKey", "(LJoinDesk$Table;I)I"⟩, 7) := ⟨⟨by decide +kernel, by decide +kernel⟩, List.mem_of_getElem? (i := 68) (by decide +kernel), List.mem_of_getElem? (i := 407) (by decide +kernel), List.mem_of_getElem? (i := 408) (by decide +kernel)⟩
theorem lw_p6 : lw_okq (⟨"JoinDesk$Cursor", "firstOtherKey", "(LJoinDesk$Table;I)I"⟩, 7) := ⟨⟨by decide +kernel, by decide +kernel⟩, List.mem_of_getElem? (i := 68) (by decide +kernel), List.mem_of_getElem? (i := 412) (by decide +kernel), List.mem_of_getElem? (i := 413) (by decide +kernel)⟩
theorem lw_p7 : lw_okq (⟨"JoinDesk$Cursor", "firstNotBelow", "(LJoinDesk$Table;I)I"⟩, 7) := ⟨⟨by decide +kernel, by decide +kernel⟩, List.mem_of_getElem? (i := 68) (by decide +kernel), List.mem_of_getElem? (i := 494) (by decide +kernel), List.mem_of_getElem? (i := 495) (by decide +kernel)⟩
theorem lw_p8 : lw_okq (⟨"JoinDesk$GroupBook", "write", "(II)V"⟩, 6) := ⟨⟨by decide +kernel, by decide +kernel⟩, List.mem_of_getElem? (i := 131) (by decide +kernel), List.mem_of_getElem? (i := 593) (by decide +kernel), List.mem_of_getElem? (i := 594) (by decide +kernel)⟩
theorem lw_p9 : lw_okq (⟨"JoinDeskModel", "refuses", "(I)Z"⟩, 15) := ⟨⟨by decide +kernel, by decide +kernel⟩, List.mem_of_getElem? (i := 642) (by decide +kernel), List.mem_of_getElem? (i := 705) (by decide +kernel), List.mem_of_getElem? (i := 706) (by decide +kernel)⟩
theorem lw_p10 : lw_okq (⟨"JoinDeskModel", "begins", "()V"⟩, 15) := ⟨⟨by decide +kernel, by decide +kernel⟩, List.mem_of_getElem? (i := 642) (by decide +kernel), List.mem_of_getElem? (i := 713) (by decide +kernel), List.mem_of_getElem? (i := 714) (by decide +kernel)⟩
theorem lw_p11 : lw_okq (⟨"JoinDeskModel", "steps", "()Z"⟩, 15) := ⟨⟨by decide +kernel, by decide +kernel⟩, List.mem_of_getElem? (i := 642) (by decide +kernel), List.mem_of_getElem? (i := 725) (by decide +kernel), List.mem_of_getElem? (i := 726) (by decide +kernel)⟩
theorem lw_p12 : lw_okq (⟨"JoinDeskModel", "key", "(II)I"⟩, 15) := ⟨⟨by decide +kernel, by decide +kernel⟩, List.mem_of_getElem? (i := 642) (by decide +kernel), List.mem_of_getElem? (i := 729) (by decide +kernel), List.mem_of_getElem? (i := 730) (by decide +kernel)⟩
theorem lw_p13 : lw_okq (⟨"JoinDeskModel", "goes", "(I)V"⟩, 15) := ⟨⟨by decide +kernel, by decide +kernel⟩, List.mem_of_getElem? (i := 642) (by decide +kernel), List.mem_of_getElem? (i := 734) (by decide +kernel), List.mem_of_getElem? (i := 735) (by decide +kernel)⟩
theorem lw_p14 : lw_okq (⟨"JoinDeskModel", "value", "(II)I"⟩, 15) := ⟨⟨by decide +kernel, by decide +kernel⟩, List.mem_of_getElem? (i := 642) (by decide +kernel), List.mem_of_getElem? (i := 745) (by decide +kernel), List.mem_of_getElem? (i := 746) (by decide +kernel)⟩
theorem lw_p15 : lw_okq (⟨"JoinDeskModel", "pairs", "(IZJ)J"⟩, 15) := ⟨⟨by decide +kernel, by decide +kernel⟩, List.mem_of_getElem? (i := 642) (by decide +kernel), List.mem_of_getElem? (i := 761) (by decide +kernel), List.mem_of_getElem? (i := 762) (by decide +kernel)⟩
def lw_privs_1 : List (MethodName × Nat) := [(⟨"JoinDesk$Table", "putInOrder", "(I)V"⟩, 9), (⟨"JoinDesk", "tableOf", "(Z)LJoinDesk$Table;"⟩, 5), (⟨"java/lang/Throwable", "fillInStackTrace", "(I)Ljava/lang/Throwable;"⟩, 6), (⟨"JoinDesk$Cursor", "rowsAhead", "()I"⟩, 7), (⟨"JoinDesk$Cursor", "comeToNewKeys", "()V"⟩, 7), (⟨"JoinDesk$Cursor", "readKey", "(LJoinDesk$Table;I)I"⟩, 7), (⟨"JoinDesk$Cursor", "firstOtherKey", "(LJoinDesk$Table;I)I"⟩, 7), (⟨"JoinDesk$Cursor", "firstNotBelow", "(LJoinDesk$Table;I)I"⟩, 7), (⟨"JoinDesk$GroupBook", "write", "(II)V"⟩, 6), (⟨"JoinDeskModel", "refuses", "(I)Z"⟩, 15), (⟨"JoinDeskModel", "begins", "()V"⟩, 15), (⟨"JoinDeskModel", "steps", "()Z"⟩, 15), (⟨"JoinDeskModel", "key", "(II)I"⟩, 15), (⟨"JoinDeskModel", "goes", "(I)V"⟩, 15), (⟨"JoinDeskModel", "value", "(II)I"⟩, 15), (⟨"JoinDeskModel", "pairs", "(IZJ)J"⟩, 15)]
theorem lw_r1 : ∀ q ∈ lw_privs_1, lw_okq q := List.forall_mem_cons.mpr ⟨lw_p0, List.forall_mem_cons.mpr ⟨lw_p1, List.forall_mem_cons.mpr ⟨lw_p2, List.forall_mem_cons.mpr ⟨lw_p3, List.forall_mem_cons.mpr ⟨lw_p4, List.forall_mem_cons.mpr ⟨lw_p5, List.forall_mem_cons.mpr ⟨lw_p6, List.forall_mem_cons.mpr ⟨lw_p7, List.forall_mem_cons.mpr ⟨lw_p8, List.forall_mem_cons.mpr ⟨lw_p9, List.forall_mem_cons.mpr ⟨lw_p10, List.forall_mem_cons.mpr ⟨lw_p11, List.forall_mem_cons.mpr ⟨lw_p12, List.forall_mem_cons.mpr ⟨lw_p13, List.forall_mem_cons.mpr ⟨lw_p14, List.forall_mem_cons.mpr ⟨lw_p15, fun _ h => absurd h List.not_mem_nil⟩⟩⟩⟩⟩⟩⟩⟩⟩⟩⟩⟩⟩⟩⟩⟩
theorem lw_p16 : lw_okq (⟨"JoinDeskModel", "rowsOf", "(II)I"⟩, 15) := ⟨⟨by decide +kernel, by decide +kernel⟩, List.mem_of_getElem? (i := 642) (by decide +kernel), List.mem_of_getElem? (i := 765) (by decide +kernel), List.mem_of_getElem? (i := 766) (by decide +kernel)⟩
theorem lw_p17 : lw_okq (⟨"JoinDeskModel", "groupAt", "(I)I"⟩, 15) := ⟨⟨by decide +kernel, by decide +kernel⟩, List.mem_of_getElem? (i := 642) (by decide +kernel), List.mem_of_getElem? (i := 786) (by decide +kernel), List.mem_of_getElem? (i := 787) (by decide +kernel)⟩
def lw_privs_2 : List (MethodName × Nat) := [(⟨"JoinDeskModel", "rowsOf", "(II)I"⟩, 15), (⟨"JoinDeskModel", "groupAt", "(I)I"⟩, 15)]
theorem lw_r2 : ∀ q ∈ lw_privs_2, lw_okq q := List.forall_mem_cons.mpr ⟨lw_p16, List.forall_mem_cons.mpr ⟨lw_p17, fun _ h => absurd h List.not_mem_nil⟩⟩
def lw_privs : List (MethodName × Nat) := lw_privs_1 ++ (lw_privs_2)
def lw_tbl : List Cond := k2_sels lw_privs ++ tables_1
theorem lw_privs_ok : ∀ q ∈ lw_privs, lw_okq q := by
  show ∀ q ∈ lw_privs_1 ++ (lw_privs_2), lw_okq q
  exact List.forall_mem_append.mpr ⟨lw_r1, lw_r2⟩
/-! ===== BEGIN words of one list among another's, by their places ===== -/
theorem goodIn_r {big : List Cond} (ws : List Cond) (ps : List Nat) (hp : ws = ps.filterMap (fun i => big[i]?)) (h : ws.all goodWord = true) : GoodIn big ws := by
  intro w hw
  have h1 := List.all_eq_true.mp h w hw
  rw [hp] at hw
  obtain ⟨i, -, hi⟩ := List.mem_filterMap.mp hw
  have hm : w ∈ big := by first | exact List.mem_of_getElem? hi | exact List.getElem?_mem hi
  exact ⟨hm, good_of_word h1⟩
theorem goodIn_app {big a b : List Cond} (ha : GoodIn big a) (hb : GoodIn big b) : GoodIn big (a ++ b) := fun w h => (List.mem_append.mp h).elim (ha w) (hb w)
theorem goodIn_ca {big a b : List Cond} {c : Cond} (ha : GoodIn big (c :: a)) (hb : GoodIn big b) : GoodIn big (c :: (a ++ b)) := fun w h => (List.mem_cons.mp h).elim (fun e => ha w (List.mem_cons.mpr (Or.inl e))) (fun h => (List.mem_append.mp h).elim (fun h => ha w (List.mem_cons.mpr (Or.inr h))) (hb w))
theorem goodIn_sub {big ws : List Cond} (hm : ∀ w ∈ ws, w ∈ big) (h : ws.all goodWord = true) : GoodIn big ws := fun w hw => ⟨hm w hw, good_of_word (List.all_eq_true.mp h w hw)⟩
/-! ===== END ===== -/
/-! ===== BEGIN exceptions that leave a method, and their catching by the caller (launches without stack traces) ===== -/
section VXA
/-! The laws vx_back, vx_callV, vx_callS, vx_callSW, vx_throw0, vx_throwS follow proofs of the library, with one case more: JvmDerived/Free/Laws.lean (Back.of_free), Shelf42/LK1.lean (callV, callS), Shelf/KitTraced.lean (throwNew0V, throwNewS). -/
/-- where a method has thrown q: the class by its name, the cell, what was written, the world -/
def vx_T (XC : String → State → State → Prop) (st : State) (q : Addr) (t : State) (mc ms : Nat) (free : Addr → Prop) : Prop :=
  ∃ (E : String) (ce : Cell) (L : List Loc), XC E st t ∧ t.heap[q]? = some ce ∧ ce.vm = .none ∧ st.vm.findClass E = some ce.cls ∧ st.WarmedH t.vm ∧ st.sameButNew ({ t with vm := st.vm } : State) L mc ms ∧ ∀ z ∈ L, free z.base
def vx_Q (Qc : Array Value → State → Outcome → State → Prop) (XC : String → State → State → Prop) (mc ms : Nat) (free : Addr → Prop) : Array Value → State → Outcome → State → Prop := fun a st o t =>
  (Qc a st o t ∧ ∃ L, FrameEnd st o t L mc ms ∧ ∀ q ∈ L, free q.base) ∨ ∃ q, o = .threw q ∧ vx_T XC st q t mc ms free
/-- a callee that returns or throws -/
def vx_Met (l : Launch) (y : MethodName) (ws : List Cond) (rm : Room) (Pc : Array Value → State → Prop) (Qc : Array Value → State → Outcome → State → Prop) (XC : String → State → State → Prop) (mc ms : Nat) (free : Addr → Prop) : Prop :=
  MetFree l y (headSpec ws rm) Pc (fun _ _ _ _ _ => True) (vx_Q Qc XC mc ms free)
def vx_Post (XC : String → State → State → Prop) (mc ms : Nat) (free : Addr → Prop) : Pt → Array Value → Addr → Pt → Prop := fun A a q B =>
  ∃ (g : JFrame) (mk : MethodId) (t : State) (L : List Loc) (E : String) (ce : Cell), B.U.heap = t.heap ∧ B.U.vm = t.vm ∧ XC E (A.U.calling g mk a) t ∧ t.heap[q]? = some ce ∧ ce.vm = .none ∧ A.U.vm.findClass E = some ce.cls ∧ B.locs = A.locs ++ L ∧ (∀ z ∈ L, free z.base) ∧ B.cells = A.cells + mc ∧ B.slots = A.slots + ms
def vx_Back (l : Launch) (R : Room) (p : Program) (e : Env) (below : List Frame) (s : State) (sargs : Array Value) (y : MethodName) (len W9 : Nat)
    (Pre : Pt → Array Value → Prop) (Post : Pt → Array Value → Option Value → Pt → Prop) (PostX : Pt → Array Value → Addr → Pt → Prop) : Prop :=
  ∀ (m : MethodId) (meth : Method) (c : Code) (A : Pt) (g : JFrame) (ig : Instr) (mk : MethodId) (a : Array Value),
    Stand p l e R s m sargs below meth c A.U A.locs A.cells A.slots → g.method = m → g.locals.size = c.maxLocals → decode c.code g.pc = .ok (ig, len) →
    2 * g.monitorRoom + (g.stack.map fun v => v.category).sum ≤ W9 → A.U.methodNamed? y = some mk → Pre A a →
    (∃ (v : Option Value) (B : Pt), Stand p l e R s m sargs below meth c B.U B.locs B.cells B.slots ∧ Post A a v B ∧
      Steps p.tables e below (doInvoke e (A.U.setTop g) [] mk a).1 (B.U.setTop { g with pc := g.pc + len, stack := v.toList ++ g.stack })) ∨
    (∃ (q : Addr) (B : Pt), Stand p l e R s m sargs below meth c B.U B.locs B.cells B.slots ∧ PostX A a q B ∧
      Steps p.tables e below (doInvoke e (A.U.setTop g) [] mk a).1 ((B.U.setTop g).pushFrame (.throwing q)))
section Payer
variable {l : Launch} {R : Room} {p : Program} {e : Env} {below : List Frame} {s : State} {sargs : Array Value} {y : MethodName} {len W9 : Nat}
theorem vx_back {ws : List Cond} {rm : Room} {Pc : Array Value → State → Prop} {Qc : Array Value → State → Outcome → State → Prop} {XC : String → State → State → Prop} {mc ms : Nat} {free : Addr → Prop} {bytes : ByteArray} {maxL : Nat} {ret : Option FieldType}
    (hM : vx_Met l y ws rm Pc Qc XC mc ms free) (hblind : FrameBlind Pc) (hrc : rm.cells = mc) (hrs : rm.slots = ms)
    (hframes : rm.frames + 1 ≤ R.frames) (hlocals : W9 + (maxL + 11) + rm.locals ≤ R.locals)
    (hws : ∀ w ∈ ws, ∀ a' U, s.WarmedH U.vm → w.before a' U = true) (hcode : Cond.code y bytes maxL ret ∈ ws) (hinit : ∀ a' U, s.WarmedH U.vm → (Cond.initialized y.cls).before a' U = true) :
    vx_Back l R p e below s sargs y len W9 (PreOf R mc ms Pc) (PostOf Qc mc ms free) (vx_Post XC mc ms free) := by
  intro m meth c A g ig mk a X hg hsize hdg hW hn hp
  have h1 : (headSpec ws rm).pre.before a A.U = true := atoms_intro fun w hw => hws w hw _ _ X.warmed
  have h2 : (Cond.code y bytes maxL ret).before a A.U = true := hws _ hcode _ _ X.warmed
  have h3 : (Cond.initialized y.cls).before a A.U = true := hinit _ _ X.warmed
  have h4 : A.cells + (headSpec ws rm).room.cells ≤ R.cells := by rw [show (headSpec ws rm).room.cells = mc from hrc]; exact hp.1
  have h5 : A.slots + (headSpec ws rm).room.slots ≤ R.slots := by rw [show (headSpec ws rm).room.slots = ms from hrs]; exact hp.2.1
  have hPc : Pc a (A.U.calling g mk a) := hblind _ _ _ _ hp.2.2
  obtain ⟨U, Ls, c0, s0⟩ := A
  dsimp only [Pt.U, Pt.locs, Pt.cells, Pt.slots] at h1 h2 h3 h4 h5 X hn hPc ⊢
  obtain ⟨methY, cY, hmY, hcY, -, hlY, -, -, -, -⟩ := Cond.code_spec hn h2
  obtain ⟨kY, hkY, -⟩ := className_of_methodNamed hn
  have hinitY : kY.init = .initialized := Cond.initialized_spec (findClass_of_methodNamed hn) hkY h3
  have h : At U g.method c below := by rw [hg]; exact X.here
  have hlocals9 : W9 + (maxL + 11) + (headSpec ws rm).room.locals ≤ R.locals := hlocals
  have happ : (headSpec ws rm).appliesLoose y e.platform (U.calling g mk a) = true :=
    Spec.appliesLoose_calling (g := g) h hdg hn hkY hinitY
      (X.room_calling (g := g) (R' := (headSpec ws rm).room) hsize hmY hcY hframes (by rw [hlY]; omega) h4 h5) h1
  obtain ⟨mid, hmid⟩ := h.above
  have hfr : (U.setTop g).frames = (.java g :: mid) ++ below := by rw [State.frames_setTop' g h.top, hmid]; rfl
  obtain ⟨o, s₂, hsteps, -, hend, hq⟩ := Steps.callFree hM p X.admits X.cas X.clock (acts := []) hfr happ hPc trivial
  have hq' : vx_Q Qc XC mc ms free a (U.calling g mk a) o s₂ := hq
  rw [State.frames_setTop' g h.top] at hend
  obtain ⟨g₀, hg0⟩ := Option.isSome_iff_exists.mp h.top
  obtain ⟨r, hr⟩ := State.topJava?_eq_some.mp hg0
  have hr' : (({ U with heap := s₂.heap, slotsUsed := s₂.slotsUsed } : State).setVm s₂.vm).frames = .java g₀ :: r := hr
  rcases hq' with ⟨hqc, L, hfe, hL⟩ | ⟨q, rfl, E, ce, L, hx, hce, hcv, hcl, hW₂, hsm, hL⟩
  · obtain ⟨⟨v, rfl⟩, hW₂, e2, q2, q3, q4, q5, q6⟩ := id hfe
    have e3 : s₂ = ({ (U.calling g mk a).setFrames s₂.frames with heap := s₂.heap, slotsUsed := s₂.slotsUsed } : State).setVm s₂.vm := by
      have : s₂ = ({ s₂ with vm := (U.calling g mk a).vm } : State).setVm s₂.vm := rfl
      rw [e2] at this
      exact this
    obtain ⟨c₂, i₂, len₂, hc₂, hd₂, hf₂⟩ := hend
    have hW' : U.WarmedH s₂.vm := hW₂
    have hcc : c₂ = c := by
      have h1 : s₂.code? g.method = U.code? g.method := by
        rw [State.code?_eq, State.code?_eq, hW'.alike.method?]
      exact Option.some.inj (hc₂.symm.trans (h1.trans h.code))
    subst hcc
    have hlen : len₂ = len := by rw [hdg] at hd₂; cases hd₂; rfl
    subst hlen
    have hs₂ : s₂ = (({ U with heap := s₂.heap, slotsUsed := s₂.slotsUsed } : State).setVm s₂.vm).setTop { g with pc := g.pc + len₂, stack := v.toList ++ g.stack } := by
      refine e3.trans ?_
      rw [hf₂, State.calling_eq h.top, State.setFrames_setFrames, State.setTop_of_frames _ hr', hr]
      rfl
    have hsame : U.sameButNew ({ U with heap := s₂.heap, slotsUsed := s₂.slotsUsed } : State) L mc ms := by
      refine ⟨?_, q2, q3, q4, q5, q6⟩
      obtain ⟨t, ht, -⟩ := State.frames_cons hr
      show ({ U with heap := s₂.heap, slotsUsed := s₂.slotsUsed } : State) = { U.setFrames U.frames with heap := s₂.heap, slotsUsed := s₂.slotsUsed }
      rw [State.setFrames_self ht]
    subst hg
    refine Or.inl ⟨v, ⟨(({ U with heap := s₂.heap, slotsUsed := s₂.slotsUsed } : State).setVm s₂.vm), Ls ++ L, c0 + mc, s0 + ms⟩,
      ⟨X.admits, X.cas, X.clock, X.frames, X.room, X.hears, X.method, X.code, (X.here.setHeapUsed s₂.heap s₂.slotsUsed).setVm hW'.alike, X.tail, State.WarmedH.trans X.warmed hW', X.limits, X.bytes, X.same.trans (hsame.setVm s.vm)⟩,
      ⟨g, mk, s₂, L, rfl, rfl, hqc, rfl, hL, rfl, rfl⟩, ?_⟩
    show Steps p.tables e below _ ((({ U with heap := s₂.heap, slotsUsed := s₂.slotsUsed } : State).setVm s₂.vm).setTop { g with pc := g.pc + len₂, stack := v.toList ++ g.stack })
    rw [← hs₂]
    exact hsteps
  · obtain ⟨e2, q2, q3, q4, q5, q6⟩ := id hsm
    have e3 : s₂ = ({ (U.calling g mk a).setFrames s₂.frames with heap := s₂.heap, slotsUsed := s₂.slotsUsed } : State).setVm s₂.vm := by
      have : s₂ = ({ s₂ with vm := (U.calling g mk a).vm } : State).setVm s₂.vm := rfl
      rw [e2] at this
      exact this
    have hf₂ : s₂.frames = .throwing q :: .java g :: U.frames.tail := hend
    have hW' : U.WarmedH s₂.vm := hW₂
    have hs₂ : s₂ = ((({ U with heap := s₂.heap, slotsUsed := s₂.slotsUsed } : State).setVm s₂.vm).setTop g).pushFrame (.throwing q) := by
      refine e3.trans ?_
      rw [hf₂, State.calling_eq h.top, State.setFrames_setFrames, State.pushFrame, State.frames_setTop _ hr', State.setTop_of_frames _ hr', State.setFrames_setFrames, hr]
      rfl
    have hsame : U.sameButNew ({ U with heap := s₂.heap, slotsUsed := s₂.slotsUsed } : State) L mc ms := by
      refine ⟨?_, q2, q3, q4, q5, q6⟩
      obtain ⟨t, ht, -⟩ := State.frames_cons hr
      show ({ U with heap := s₂.heap, slotsUsed := s₂.slotsUsed } : State) = { U.setFrames U.frames with heap := s₂.heap, slotsUsed := s₂.slotsUsed }
      rw [State.setFrames_self ht]
    subst hg
    refine Or.inr ⟨q, ⟨(({ U with heap := s₂.heap, slotsUsed := s₂.slotsUsed } : State).setVm s₂.vm), Ls ++ L, c0 + mc, s0 + ms⟩,
      ⟨X.admits, X.cas, X.clock, X.frames, X.room, X.hears, X.method, X.code, (X.here.setHeapUsed s₂.heap s₂.slotsUsed).setVm hW'.alike, X.tail, State.WarmedH.trans X.warmed hW', X.limits, X.bytes, X.same.trans (hsame.setVm s.vm)⟩,
      ⟨g, mk, s₂, L, E, ce, rfl, rfl, hx, hce, hcv, hcl, rfl, hL, rfl, rfl⟩, ?_⟩
    show Steps p.tables e below _ (((({ U with heap := s₂.heap, slotsUsed := s₂.slotsUsed } : State).setVm s₂.vm).setTop g).pushFrame (.throwing q))
    rw [← hs₂]
    exact hsteps
end Payer
section Calls
variable {p : Program} {l : Launch} {e : Env} {R : Room} {s : State} {m : MethodId} {args : Array Value} {below : List Frame} {meth : Method} {c : Code} {T : State} {locs : List Loc} {cells slots : Nat}
theorem vx_callV (X : Stand p l e R s m args below meth c T locs cells slots) (hexec : p.tables.exec = Jvm.exec) {own C : String} {index : Nat} {y : MethodName} {bytes : ByteArray} {maxL : Nat} {ret : Option FieldType}
    (hown : s.vm.findClass own = some m.cls) (hlink : (Cond.methodLink own index y).before args s = true) (hinst : (Cond.instanceMethod y).before args s = true) (hsel : (Cond.selects C y y).before args s = true)
    (hcode : (Cond.code y bytes maxL ret).before args s = true) (hy : y.cls ≠ "java/lang/invoke/MethodHandle" ∧ y.cls ≠ "java/lang/invoke/VarHandle")
    {W9 : Nat} {Pre : Pt → Array Value → Prop} {Post : Pt → Array Value → Option Value → Pt → Prop} {PostX : Pt → Array Value → Addr → Pt → Prop} (hK : vx_Back l R p e below s args y 3 W9 Pre Post PostX)
    {b : Addr} {cellB : Cell} (hcell : T.heap[b]? = some cellB) (hobj : cellB.vm.isStatics = false) (hcls : s.vm.findClass C = some cellB.cls)
    {g : JFrame} (hg : g.method = m) (hsize : g.locals.size = c.maxLocals) {argsL rest : List Value} (hlen : ∀ sig, parseMethodDescriptor y.desc = some sig → argsL.length = sig.parameters.length)
    (hstack : g.stack = argsL.reverse ++ .ref b :: rest) (hW : 2 * g.monitorRoom + (rest.map fun v => v.category).sum ≤ W9) (hdg : decode c.code g.pc = .ok (.invokevirtual index, 3))
    (hpre : ∀ vm₁, s.WarmedH vm₁ → Pre ⟨T.setVm vm₁, locs, cells, slots⟩ (Value.ref b :: argsL).toArray) :
    (∃ (v : Option Value) (vm₁ : Vm) (B : Pt), s.WarmedH vm₁ ∧ Stand p l e R s m args below meth c B.U B.locs B.cells B.slots ∧ Post ⟨T.setVm vm₁, locs, cells, slots⟩ (Value.ref b :: argsL).toArray v B ∧
      ∀ target, Steps p.tables e below (B.U.setTop { g with pc := g.pc + 3, stack := v.toList ++ rest }) target → Steps p.tables e below (T.setTop g) target) ∨
    (∃ (q : Addr) (vm₁ : Vm) (B : Pt), s.WarmedH vm₁ ∧ Stand p l e R s m args below meth c B.U B.locs B.cells B.slots ∧ PostX ⟨T.setVm vm₁, locs, cells, slots⟩ (Value.ref b :: argsL).toArray q B ∧
      Steps p.tables e below (T.setTop g) ((B.U.setTop { g with stack := rest }).pushFrame (.throwing q))) := by
  obtain ⟨mk, methM, hnamed, hmethM, hstM, habM⟩ := Cond.instanceMethod_spec hinst
  obtain ⟨methM', cM, hmethM', -, -, -, -, -, -, hsigM⟩ := Cond.code_spec hnamed hcode
  cases hmethM.symm.trans hmethM'
  obtain ⟨c2, r2, m2, q1, q2, q3, q4, kP, hkP, hkPi⟩ := Cond.selects_spec hsel
  cases hcls.symm.trans q1
  cases (State.methodFound?_of_named hnamed hy).symm.trans q2
  cases hnamed.symm.trans q3
  have hselP : selectMethod e.platform s.vm cellB.cls mk = .method mk := by rw [Launch.admits_selectMethod X.admits]; exact q4
  obtain ⟨vm₁, X₁, hstep₁⟩ := X.invokevirtual hexec hown hlink hnamed hmethM hstM hkP hkPi hy (a := b) (cell := cellB) hcell
    (fun z h => by rw [h] at hobj; cases hobj) hselP hmethM habM hkP hkPi (g := g) hg (argsL := argsL) (rest := rest) (hlen _ hsigM) hstack hdg
  rcases hK m meth c ⟨T.setVm vm₁, locs, cells, slots⟩ { g with stack := rest } (.invokevirtual index) mk (Value.ref b :: argsL).toArray X₁ hg hsize hdg hW (X₁.named hnamed) (hpre vm₁ X₁.warmed) with ⟨v, B, X', hpost, hsteps⟩ | ⟨q, B, X', hpost, hsteps⟩
  · exact Or.inl ⟨v, vm₁, B, X₁.warmed, X', hpost, fun target h => hstep₁ _ fun acts => by rw [doInvoke_state]; exact hsteps.trans h⟩
  · exact Or.inr ⟨q, vm₁, B, X₁.warmed, X', hpost, hstep₁ _ fun acts => by rw [doInvoke_state]; exact hsteps⟩
theorem vx_callS (X : Stand p l e R s m args below meth c T locs cells slots) (hexec : p.tables.exec = Jvm.exec) {own : String} {index : Nat} {y : MethodName} {bytes : ByteArray} {maxL : Nat} {ret : Option FieldType}
    (hown : s.vm.findClass own = some m.cls) (hlink : (Cond.methodLink own index y).before args s = true) (hstat : (Cond.static y).before args s = true) (hinit : (Cond.initialized y.cls).before args s = true)
    (hcode : (Cond.code y bytes maxL ret).before args s = true) (hy : y.cls ≠ "java/lang/invoke/MethodHandle" ∧ y.cls ≠ "java/lang/invoke/VarHandle")
    {W9 : Nat} {Pre : Pt → Array Value → Prop} {Post : Pt → Array Value → Option Value → Pt → Prop} {PostX : Pt → Array Value → Addr → Pt → Prop} (hK : vx_Back l R p e below s args y 3 W9 Pre Post PostX)
    {g : JFrame} (hg : g.method = m) (hsize : g.locals.size = c.maxLocals) {argsL rest : List Value} (hlen : ∀ sig, parseMethodDescriptor y.desc = some sig → argsL.length = sig.parameters.length)
    (hstack : g.stack = argsL.reverse ++ rest) (hW : 2 * g.monitorRoom + (rest.map fun v => v.category).sum ≤ W9) (hdg : decode c.code g.pc = .ok (.invokestatic index, 3))
    (hpre : ∀ vm₁, s.WarmedH vm₁ → Pre ⟨T.setVm vm₁, locs, cells, slots⟩ argsL.toArray) :
    (∃ (v : Option Value) (vm₁ : Vm) (B : Pt), s.WarmedH vm₁ ∧ Stand p l e R s m args below meth c B.U B.locs B.cells B.slots ∧ Post ⟨T.setVm vm₁, locs, cells, slots⟩ argsL.toArray v B ∧
      ∀ target, Steps p.tables e below (B.U.setTop { g with pc := g.pc + 3, stack := v.toList ++ rest }) target → Steps p.tables e below (T.setTop g) target) ∨
    (∃ (q : Addr) (vm₁ : Vm) (B : Pt), s.WarmedH vm₁ ∧ Stand p l e R s m args below meth c B.U B.locs B.cells B.slots ∧ PostX ⟨T.setVm vm₁, locs, cells, slots⟩ argsL.toArray q B ∧
      Steps p.tables e below (T.setTop g) ((B.U.setTop { g with stack := rest }).pushFrame (.throwing q))) := by
  obtain ⟨mk, hnamed⟩ := Cond.code_named hcode
  obtain ⟨methM, cM, hmethM, -, -, -, -, -, -, hsigM⟩ := Cond.code_spec hnamed hcode
  have hstatic : methM.isStatic = true := Cond.static_spec hnamed hmethM hstat
  obtain ⟨kP, hkP, -⟩ := className_of_methodNamed hnamed
  have hinitP : kP.init = .initialized := Cond.initialized_spec (findClass_of_methodNamed hnamed) hkP hinit
  obtain ⟨vm₁, X₁, hstep₁⟩ := X.invokestatic hexec hown hlink hnamed hmethM hstatic hkP hinitP hy (g := g) hg (argsL := argsL) (rest := rest) (hlen _ hsigM) hstack hdg
  rcases hK m meth c ⟨T.setVm vm₁, locs, cells, slots⟩ { g with stack := rest } (.invokestatic index) mk argsL.toArray X₁ hg hsize hdg hW (X₁.named hnamed) (hpre vm₁ X₁.warmed) with ⟨v, B, X', hpost, hsteps⟩ | ⟨q, B, X', hpost, hsteps⟩
  · exact Or.inl ⟨v, vm₁, B, X₁.warmed, X', hpost, fun target h => hstep₁ _ fun acts => by rw [doInvoke_state]; exact hsteps.trans h⟩
  · exact Or.inr ⟨q, vm₁, B, X₁.warmed, X', hpost, hstep₁ _ fun acts => by rw [doInvoke_state]; exact hsteps⟩
end Calls
theorem vx_cls {s : State} {T : State} {vm₁ : Vm} {E : String} {k : ClassId} (hW : s.WarmedH vm₁) (h : (T.setVm vm₁).vm.findClass E = some k) : s.vm.findClass E = some k := by
  have h1 : vm₁.findClass E = some k := h
  rw [hW.alike.findClass] at h1
  exact h1
/-- the method's frame g, with q thrown over it -/
def vx_W (p : Program) (l : Launch) (e : Env) (R : Room) (s : State) (m : MethodId) (args : Array Value) (below : List Frame) (meth : Method) (c : Code) (H : Heap) (locs : List Loc) (cells slots : Nat) (Q : State → Prop) (g : JFrame) (q : Addr) : Prop :=
  ∀ T : State, T.heap = H → Stand p l e R s m args below meth c T locs cells slots → ∃ t, Steps p.tables e below ((T.setTop g).pushFrame (.throwing q)) t ∧ Q t
def vx_Run (p : Program) (l : Launch) (e : Env) (R : Room) (s : State) (m : MethodId) (args : Array Value) (below : List Frame) (meth : Method) (c : Code) (H : Heap) (locs : List Loc) (cells slots mc ms : Nat) (g : JFrame) (rest : List Value) (Qa : State → Outcome → State → Prop) (XC : String → State → State → Prop) (free : Addr → Prop) : Prop :=
  ∀ T : State, T.heap = H → Stand p l e R s m args below meth c T locs cells slots →
    (∃ (v : Option Value) (st₀ t T' : State) (L : List Loc), st₀.heap = H ∧ Stand p l e R s m args below meth c T' (locs ++ L) (cells + mc) (slots + ms) ∧ (∀ q ∈ L, free q.base) ∧ T'.heap = t.heap ∧ T'.vm = t.vm ∧ Qa st₀ (.returned v) t ∧
      Goes p e below T g T' { g with pc := g.pc + 3, stack := v.toList ++ rest }) ∨
    (∃ (q : Addr) (st₀ t T' : State) (L : List Loc) (E : String) (ce : Cell), st₀.heap = H ∧ Stand p l e R s m args below meth c T' (locs ++ L) (cells + mc) (slots + ms) ∧ (∀ z ∈ L, free z.base) ∧ T'.heap = t.heap ∧ T'.vm = t.vm ∧ XC E st₀ t ∧ t.heap[q]? = some ce ∧ ce.vm = .none ∧ s.vm.findClass E = some ce.cls ∧
      Steps p.tables e below (T.setTop g) ((T'.setTop { g with stack := rest }).pushFrame (.throwing q)))
def vx_X {S : Type} (px : S → Prop) (B : String → S → State → Prop) (A : Nat → Prop) : String → State → State → Prop := fun E st t => ∃ u : S, px u ∧ B E u t ∧ va_F A st t
section Runs
variable {p : Program} {l : Launch} {e : Env} {R : Room} {s : State} {m : MethodId} {args : Array Value} {below : List Frame} {meth : Method} {c : Code} {H : Heap} {locs : List Loc} {cells slots : Nat}
variable {y : MethodName} {bytes cc : ByteArray} {maxL nL mc ms n index : Nat} {ret : Option FieldType} {ws : List Cond} {rm : Room} {Pc : Array Value → State → Prop} {Qc : Array Value → State → Outcome → State → Prop} {XC : String → State → State → Prop} {free : Addr → Prop} {Ts : List Cond} {own C : String} {b : Addr} {As rest : List Value} {g : JFrame}
theorem vx_callBack (cb : CallB R s args own index y bytes maxL ret ws rm mc ms n) (hM : vx_Met l y ws rm Pc Qc XC mc ms free) (hbl : FrameBlind Pc) : vx_Back l R p e below s args y 3 8 (PreOf R mc ms Pc) (PostOf Qc mc ms free) (vx_Post XC mc ms free) := by
  obtain ⟨hrc, hrs, hfr, hlo, hws, hcw, -, hini, -⟩ := cb
  exact vx_back (bytes := bytes) (maxL := maxL) (ret := ret) hM hbl hrc hrs hfr hlo hws hcw (fun a' U hW => word_at hW (Or.inl (by first | rfl | simp [Cond.onTables, Cond.keeps, Cond.steady])) hini)
theorem vx_runV (S : CallFix p m c cc nL s args Ts own) (hM : vx_Met l y ws rm Pc Qc XC mc ms free) (cw : CallW R s args own C index y bytes maxL ret ws rm mc ms n) (hp : PreV s H C b Pc As)
    (hg : g.method = m) (hn : As.length = n) (hsize : g.locals.size = nL) (hstack : g.stack = As.reverse ++ .ref b :: rest) (hW : 2 * g.monitorRoom + (rest.map fun v => v.category).sum ≤ 8) (hdg : decode cc g.pc = .ok (.invokevirtual index, 3)) (hf : cells + mc ≤ R.cells ∧ slots + ms ≤ R.slots) :
    vx_Run p l e R s m args below meth c H locs cells slots mc ms g rest (Qc (Value.ref b :: As).toArray) XC free := by
  have hK : vx_Back l R p e below s args y 3 8 (PreOf R mc ms Pc) (PostOf Qc mc ms free) (vx_Post XC mc ms free) := vx_callBack cw.1 hM hp.1
  obtain ⟨⟨-, -, -, -, -, -, hcode, -, hy, hlen, hl⟩, hin, hse⟩ := cw
  obtain ⟨hx, hb, hml, ho, -⟩ := S
  obtain ⟨-, ⟨cellB, hcB, hoB, hclB⟩, hPc⟩ := hp
  intro T hT X
  rcases vx_callV X hx (C := C) (bytes := bytes) (maxL := maxL) (ret := ret) ho hl hin hse hcode hy hK (by rw [hT]; exact hcB) hoB hclB hg (hsize.trans hml.symm) (argsL := As) (rest := rest) (fun sig h => hn.trans (hlen sig h)) hstack hW (by rw [hb]; exact hdg)
    (fun vm₁ hW₁ => ⟨hf.1, hf.2, hPc (T.setVm vm₁) hT hW₁⟩) with ⟨v, vm₁, ⟨U', l2, c2, s2⟩, hW₁, X', ⟨g', mk, t, L, e1, e2, hq, h1, hL, h2, h3⟩, st⟩ | ⟨q, vm₁, ⟨U', l2, c2, s2⟩, hW₁, X', ⟨g', mk, t, L, E, ce, e1, e2, hq, hce, hcv, hcl, h1, hL, h2, h3⟩, st⟩
  · dsimp only [Pt.U, Pt.locs, Pt.cells, Pt.slots] at X' e1 e2 h1 h2 h3 st
    subst h1; subst h2; subst h3
    exact Or.inl ⟨v, (T.setVm vm₁).calling g' mk (Value.ref b :: As).toArray, t, U', L, hT, X', hL, e1, e2, hq, st⟩
  · dsimp only [Pt.U, Pt.locs, Pt.cells, Pt.slots] at X' e1 e2 h1 h2 h3 st hcl
    subst h1; subst h2; subst h3
    exact Or.inr ⟨q, (T.setVm vm₁).calling g' mk (Value.ref b :: As).toArray, t, U', L, E, ce, hT, X', hL, e1, e2, hq, hce, hcv, vx_cls hW₁ hcl, st⟩
theorem vx_runS (S : CallFix p m c cc nL s args Ts own) (hM : vx_Met l y ws rm Pc Qc XC mc ms free) (cw : CallB R s args own index y bytes maxL ret ws rm mc ms n ∧ (Cond.static y).before args s = true) (hp : PreS s H Pc As)
    (hg : g.method = m) (hn : As.length = n) (hsize : g.locals.size = nL) (hstack : g.stack = As.reverse ++ rest) (hW : 2 * g.monitorRoom + (rest.map fun v => v.category).sum ≤ 8) (hdg : decode cc g.pc = .ok (.invokestatic index, 3)) (hf : cells + mc ≤ R.cells ∧ slots + ms ≤ R.slots) :
    vx_Run p l e R s m args below meth c H locs cells slots mc ms g rest (Qc As.toArray) XC free := by
  have hK : vx_Back l R p e below s args y 3 8 (PreOf R mc ms Pc) (PostOf Qc mc ms free) (vx_Post XC mc ms free) := vx_callBack cw.1 hM hp.1
  obtain ⟨⟨-, -, -, -, -, -, hcode, hini, hy, hlen, hl⟩, hstt⟩ := cw
  obtain ⟨hx, hb, hml, ho, -⟩ := S
  intro T hT X
  rcases vx_callS X hx (bytes := bytes) (maxL := maxL) (ret := ret) ho hl hstt hini hcode hy hK hg (hsize.trans hml.symm) (argsL := As) (rest := rest) (fun sig h => hn.trans (hlen sig h)) hstack hW (by rw [hb]; exact hdg)
    (fun vm₁ hW₁ => ⟨hf.1, hf.2, hp.2 (T.setVm vm₁) hT hW₁⟩) with ⟨v, vm₁, ⟨U', l2, c2, s2⟩, hW₁, X', ⟨g', mk, t, L, e1, e2, hq, h1, hL, h2, h3⟩, st⟩ | ⟨q, vm₁, ⟨U', l2, c2, s2⟩, hW₁, X', ⟨g', mk, t, L, E, ce, e1, e2, hq, hce, hcv, hcl, h1, hL, h2, h3⟩, st⟩
  · dsimp only [Pt.U, Pt.locs, Pt.cells, Pt.slots] at X' e1 e2 h1 h2 h3 st
    subst h1; subst h2; subst h3
    exact Or.inl ⟨v, (T.setVm vm₁).calling g' mk As.toArray, t, U', L, hT, X', hL, e1, e2, hq, st⟩
  · dsimp only [Pt.U, Pt.locs, Pt.cells, Pt.slots] at X' e1 e2 h1 h2 h3 st hcl
    subst h1; subst h2; subst h3
    exact Or.inr ⟨q, (T.setVm vm₁).calling g' mk As.toArray, t, U', L, E, ce, hT, X', hL, e1, e2, hq, hce, hcv, vx_cls hW₁ hcl, st⟩
end Runs
section Rows
variable {p : Program} {l : Launch} {e : Env} {R : Room} {s : State} {m : MethodId} {args : Array Value} {below : List Frame} {meth : Method} {c : Code} {H : Heap} {locs : List Loc} {cells slots : Nat} {Q : State → Prop}
variable {mc ms : Nat} {free : Addr → Prop} {A0 A1 : Nat → Prop} {H0 : Heap} {a : Array Value} {pc : Nat} {ls : Array Slot} {st0 rest : List Value}
theorem vx_keep {st₀ t T' : State} {L : List Loc} (h0 : st₀.heap = H) (e1 : T'.heap = t.heap) (hS : va_S A0 H0 H locs) (hA : ∀ q, q < H.size → A1 q → A0 q) (hf : ∀ q, free q → A0 q) (hL : ∀ q ∈ L, free q.base) (hF : va_F A1 st₀ t) :
    H.size ≤ T'.heap.size ∧ (∀ q : Nat, q < H.size → ¬ A1 q → T'.heap[q]? = H[q]?) ∧ va_S A0 H0 T'.heap (locs ++ L) := by
  obtain ⟨hz, hk⟩ := hF
  rw [h0] at hz hk
  exact ⟨by rw [e1]; exact hz, fun q h1 h2 => by rw [e1]; exact hk q h1 h2,
    ⟨Nat.le_trans hS.1 (by rw [e1]; exact hz), fun q h1 h2 => by rw [e1, hk q (Nat.lt_of_lt_of_le h1 hS.1) (fun z => h2 (hA q (Nat.lt_of_lt_of_le h1 hS.1) z))]; exact hS.2.1 q h1 h2, fun q hq => by
      rcases List.mem_append.mp hq with h | h
      · exact hS.2.2 q h
      · exact hf _ (hL q h)⟩⟩
theorem vx_calli {S SX : Type} {post : Int32 → S → Prop} {px : SX → Prop} {B : S → State → Prop} {BX : String → SX → State → Prop} {AX : Nat → Prop} (hr : vx_Run p l e R s m args below meth c H locs cells slots mc ms (F0 m pc ls st0) rest (va_Qi post B A1 a) (vx_X px BX AX) free) (hS : va_S A0 H0 H locs) (hA : ∀ q, q < H.size → A1 q → A0 q) (hf : ∀ q, free q → A0 q) (hAX : ∀ q, q < H.size → AX q → A0 q)
    (kx : ∀ (E : String) (ce : Cell) (q9 : Addr) (u : SX) (t : State) (H1 : Heap) (locs1 : List Loc), t.heap = H1 → s.vm.Alike t.vm → px u → BX E u t → H.size ≤ H1.size → (∀ q : Nat, q < H.size → ¬ AX q → H1[q]? = H[q]?) → va_S A0 H0 H1 locs1 → H1[q9]? = some ce → ce.vm = .none → s.vm.findClass E = some ce.cls → vx_W p l e R s m args below meth c H1 locs1 (cells + mc) (slots + ms) Q (F0 m pc ls rest) q9)
    (kk : ∀ (r : Int32) (u : S) (t : State) (H1 : Heap) (locs1 : List Loc), t.heap = H1 → s.vm.Alike t.vm → post r u → B u t → H.size ≤ H1.size → (∀ q : Nat, q < H.size → ¬ A1 q → H1[q]? = H[q]?) → va_S A0 H0 H1 locs1 → W p l e R s m args below meth c H1 locs1 (cells + mc) (slots + ms) Q (F0 m (pc + 3) ls (.int r :: rest))) : W p l e R s m args below meth c H locs cells slots Q (F0 m pc ls st0) := by
  intro T hT X
  rcases hr T hT X with ⟨v, st₀, t, T', L, h0, X', hL, e1, e2, ⟨⟨r, u, hv, hp, hb⟩, hF⟩, st⟩ | ⟨q, st₀, t, T', L, E, ce, h0, X', hL, e1, e2, ⟨u, hp, hb, hF⟩, hce, hcv, hcl, st⟩
  · cases hv
    obtain ⟨k1, k2, k3⟩ := vx_keep h0 e1 hS hA hf hL hF
    obtain ⟨t2, a1, b1⟩ := kk r u t T'.heap (locs ++ L) e1.symm (by rw [← e2]; exact X'.warmed.alike) hp hb k1 k2 k3 T' rfl X'
    exact ⟨t2, st t2 a1, b1⟩
  · obtain ⟨k1, k2, k3⟩ := vx_keep h0 e1 hS hAX hf hL hF
    obtain ⟨t2, a1, b1⟩ := kx E ce q u t T'.heap (locs ++ L) e1.symm (by rw [← e2]; exact X'.warmed.alike) hp hb k1 k2 k3 (by rw [e1]; exact hce) hcv hcl T' rfl X'
    exact ⟨t2, st.trans a1, b1⟩
theorem vx_calll {S SX : Type} {post : Int64 → S → Prop} {px : SX → Prop} {B : S → State → Prop} {BX : String → SX → State → Prop} {AX : Nat → Prop} (hr : vx_Run p l e R s m args below meth c H locs cells slots mc ms (F0 m pc ls st0) rest (va_Ql post B A1 a) (vx_X px BX AX) free) (hS : va_S A0 H0 H locs) (hA : ∀ q, q < H.size → A1 q → A0 q) (hf : ∀ q, free q → A0 q) (hAX : ∀ q, q < H.size → AX q → A0 q)
    (kx : ∀ (E : String) (ce : Cell) (q9 : Addr) (u : SX) (t : State) (H1 : Heap) (locs1 : List Loc), t.heap = H1 → s.vm.Alike t.vm → px u → BX E u t → H.size ≤ H1.size → (∀ q : Nat, q < H.size → ¬ AX q → H1[q]? = H[q]?) → va_S A0 H0 H1 locs1 → H1[q9]? = some ce → ce.vm = .none → s.vm.findClass E = some ce.cls → vx_W p l e R s m args below meth c H1 locs1 (cells + mc) (slots + ms) Q (F0 m pc ls rest) q9)
    (kk : ∀ (r : Int64) (u : S) (t : State) (H1 : Heap) (locs1 : List Loc), t.heap = H1 → s.vm.Alike t.vm → post r u → B u t → H.size ≤ H1.size → (∀ q : Nat, q < H.size → ¬ A1 q → H1[q]? = H[q]?) → va_S A0 H0 H1 locs1 → W p l e R s m args below meth c H1 locs1 (cells + mc) (slots + ms) Q (F0 m (pc + 3) ls (.long r :: rest))) : W p l e R s m args below meth c H locs cells slots Q (F0 m pc ls st0) := by
  intro T hT X
  rcases hr T hT X with ⟨v, st₀, t, T', L, h0, X', hL, e1, e2, ⟨⟨r, u, hv, hp, hb⟩, hF⟩, st⟩ | ⟨q, st₀, t, T', L, E, ce, h0, X', hL, e1, e2, ⟨u, hp, hb, hF⟩, hce, hcv, hcl, st⟩
  · cases hv
    obtain ⟨k1, k2, k3⟩ := vx_keep h0 e1 hS hA hf hL hF
    obtain ⟨t2, a1, b1⟩ := kk r u t T'.heap (locs ++ L) e1.symm (by rw [← e2]; exact X'.warmed.alike) hp hb k1 k2 k3 T' rfl X'
    exact ⟨t2, st t2 a1, b1⟩
  · obtain ⟨k1, k2, k3⟩ := vx_keep h0 e1 hS hAX hf hL hF
    obtain ⟨t2, a1, b1⟩ := kx E ce q u t T'.heap (locs ++ L) e1.symm (by rw [← e2]; exact X'.warmed.alike) hp hb k1 k2 k3 (by rw [e1]; exact hce) hcv hcl T' rfl X'
    exact ⟨t2, st.trans a1, b1⟩
theorem vx_callv {S SX : Type} {post : S → Prop} {px : SX → Prop} {B : S → State → Prop} {BX : String → SX → State → Prop} {AX : Nat → Prop} (hr : vx_Run p l e R s m args below meth c H locs cells slots mc ms (F0 m pc ls st0) rest (va_Qv post B A1 a) (vx_X px BX AX) free) (hS : va_S A0 H0 H locs) (hA : ∀ q, q < H.size → A1 q → A0 q) (hf : ∀ q, free q → A0 q) (hAX : ∀ q, q < H.size → AX q → A0 q)
    (kx : ∀ (E : String) (ce : Cell) (q9 : Addr) (u : SX) (t : State) (H1 : Heap) (locs1 : List Loc), t.heap = H1 → s.vm.Alike t.vm → px u → BX E u t → H.size ≤ H1.size → (∀ q : Nat, q < H.size → ¬ AX q → H1[q]? = H[q]?) → va_S A0 H0 H1 locs1 → H1[q9]? = some ce → ce.vm = .none → s.vm.findClass E = some ce.cls → vx_W p l e R s m args below meth c H1 locs1 (cells + mc) (slots + ms) Q (F0 m pc ls rest) q9)
    (kk : ∀ (u : S) (t : State) (H1 : Heap) (locs1 : List Loc), t.heap = H1 → s.vm.Alike t.vm → post u → B u t → H.size ≤ H1.size → (∀ q : Nat, q < H.size → ¬ A1 q → H1[q]? = H[q]?) → va_S A0 H0 H1 locs1 → W p l e R s m args below meth c H1 locs1 (cells + mc) (slots + ms) Q (F0 m (pc + 3) ls (rest))) : W p l e R s m args below meth c H locs cells slots Q (F0 m pc ls st0) := by
  intro T hT X
  rcases hr T hT X with ⟨v, st₀, t, T', L, h0, X', hL, e1, e2, ⟨⟨u, hv, hp, hb⟩, hF⟩, st⟩ | ⟨q, st₀, t, T', L, E, ce, h0, X', hL, e1, e2, ⟨u, hp, hb, hF⟩, hce, hcv, hcl, st⟩
  · cases hv
    obtain ⟨k1, k2, k3⟩ := vx_keep h0 e1 hS hA hf hL hF
    obtain ⟨t2, a1, b1⟩ := kk u t T'.heap (locs ++ L) e1.symm (by rw [← e2]; exact X'.warmed.alike) hp hb k1 k2 k3 T' rfl X'
    exact ⟨t2, st t2 a1, b1⟩
  · obtain ⟨k1, k2, k3⟩ := vx_keep h0 e1 hS hAX hf hL hF
    obtain ⟨t2, a1, b1⟩ := kx E ce q u t T'.heap (locs ++ L) e1.symm (by rw [← e2]; exact X'.warmed.alike) hp hb k1 k2 k3 (by rw [e1]; exact hce) hcv hcl T' rfl X'
    exact ⟨t2, st.trans a1, b1⟩
end Rows
section Ends
variable {p : Program} {l : Launch} {e : Env} {R : Room} {s : State} {m : MethodId} {args : Array Value} {below : List Frame} {meth : Method} {c : Code} {H : Heap} {locs : List Loc} {cells slots : Nat} {Q : State → Prop}
variable {mc ms : Nat} {free : Addr → Prop} {A0 A1 : Nat → Prop} {H0 : Heap} {a : Array Value} {ls : Array Slot} {st0 rest : List Value}
variable {Qc : Array Value → State → Outcome → State → Prop} {XC : String → State → State → Prop}
/-- what a body that may throw owes at its end -/
def vx_MQ (below : List Frame) (Qc : Array Value → State → Outcome → State → Prop) (XC : String → State → State → Prop) (a : Array Value) (s : State) (mc ms : Nat) (free : Addr → Prop) : State → Prop := fun t =>
  ∃ o, t.status = .running ∧ Ended t below o ∧ vx_Q Qc XC mc ms free a s o t
theorem vx_ret {g : JFrame} {mc ms : Nat} (k : W p l e R s m args below meth c H locs cells slots (MQ below Qc args s mc ms free) g) : W p l e R s m args below meth c H locs cells slots (vx_MQ below Qc XC args s mc ms free) g := by
  intro T hT X
  obtain ⟨t, a1, o, b1, b2, b3, b4⟩ := k T hT X
  exact ⟨t, a1, o, b1, b2, Or.inl ⟨b3, b4⟩⟩
/-- not caught here: it goes on to the caller -/
theorem vx_widen {g : JFrame} {q : Addr} {k n : Nat} (h1 : cells ≤ k) (h2 : slots ≤ n) (kk : vx_W p l e R s m args below meth c H locs k n Q g q) : vx_W p l e R s m args below meth c H locs cells slots Q g q := fun T hT X => kk T hT (stand_widen X h1 h2)
theorem vx_out {pc : Nat} {E : String} {ce : Cell} {q : Addr} {mc ms : Nat} (hout : ∀ x ∈ c.exceptionTable.toList, covers x pc = false) (hlocks : meth.locks = false) (hcell : H[q]? = some ce) (hv : ce.vm = .none) (hcl : s.vm.findClass E = some ce.cls)
    (hx : ∀ t : State, t.heap = H → s.vm.Alike t.vm → XC E s t) (hf : ∀ z ∈ locs, free z.base) (hc : cells ≤ mc) (hs : slots ≤ ms) :
    vx_W p l e R s m args below meth c H locs cells slots (vx_MQ below Qc XC args s mc ms free) (F0 m pc ls rest) q := by
  intro T hT X
  obtain ⟨st1, hrun, hend, hW, hsm⟩ := X.leaveThrown q (g := F0 m pc ls rest) rfl rfl rfl hout hlocks
  have hcell9 : (T.setFrames (.throwing q :: below)).heap[q]? = some ce := by
    show T.heap[q]? = some ce
    rw [hT]; exact hcell
  exact ⟨_, st1, .threw q, hrun, hend, Or.inr ⟨q, rfl, E, ce, locs, hx _ hT hW.alike, hcell9, hv, hcl, hW, hsm.mono hc hs, hf⟩⟩
theorem vx_frame {U : State} {k n : Nat} (h : s.sameButNew ({ U with vm := s.vm } : State) locs k n) : s.heap.size ≤ U.heap.size ∧ ∀ q : Nat, q < s.heap.size → (∀ z ∈ locs, z.base ≠ q) → U.heap[q]? = s.heap[q]? := by
  obtain ⟨-, h2, -, -, -, h6⟩ := h
  refine ⟨h2, fun q hq hz => ?_⟩
  obtain ⟨c9, e1, e2, e3, e4⟩ := h6 q _ (Array.getElem?_eq_getElem hq)
  have hs : c9.slots = (s.heap[q]).slots := Array.ext_getElem? fun i => e4 i fun hm => hz _ hm rfl
  have h9 : c9 = s.heap[q] := by
    rw [hs] at e2
    exact e2
  have e5 : U.heap[q]? = some c9 := e1
  rw [e5, h9, Array.getElem?_eq_getElem hq]
/-- the words of a throw but the four that speak of the heap -/
def vx_no (w : Cond) : Bool := decide (w ≠ .isRef (.static Bundle.tN "UNASSIGNED_STACK" Bundle.steD)) && decide (w ≠ .isRef (.static Bundle.tN "SUPPRESSED_SENTINEL" Bundle.listD)) && decide (w ≠ .laysStatic Bundle.tN "UNASSIGNED_STACK" Bundle.steD) && decide (w ≠ .laysStatic Bundle.tN "SUPPRESSED_SENTINEL" Bundle.listD)
def vx_at0 (own : String) (ic : Nat) (X : String) (names : List String) : List Cond := (Bundle.ownAtoms0 own ic X names).filter vx_no
def vx_atS (own : String) (ic : Nat) (X : String) (names : List String) : List Cond := (Bundle.ownAtoms own ic X names).filter vx_no
/-- a word that the tables alone decide, or a good one -/
def vx_ot (w : Cond) : Bool := w.onTables || goodWord w
theorem vx_ot_at {args a' : Array Value} {s U : State} {w : Cond} (hW : s.WarmedH U.vm) (hvm : s.vm = U.vm) (hg : vx_ot w = true) (h : w.before args s = true) : w.before a' U = true := by
  simp only [vx_ot, Bool.or_eq_true] at hg
  rcases hg with hg | hg
  · exact va_tabs hg hvm h
  · exact word_at hW (good_of_word hg) h
/-- a list's words: the good ones out of the method's own list, the others by premises of their own -/
theorem vx_hat {args : Array Value} {s : State} {L B : List Cond} (h1 : ∀ w ∈ L.filter goodWord, w.before args s = true) (h2 : ∀ w ∈ L.filter (fun w => !goodWord w), w ∈ B) (h3 : ∀ w ∈ B, w.before args s = true) : ∀ w ∈ L, w.before args s = true := by
  intro w hw
  by_cases g : goodWord w = true
  · exact h1 w (List.mem_filter.mpr ⟨hw, g⟩)
  · refine h3 w (h2 w (List.mem_filter.mpr ⟨hw, ?_⟩))
    show (!goodWord w) = true
    cases hgw : goodWord w
    · rfl
    · exact absurd hgw g
theorem vx_c {args : Array Value} {s : State} {w : Cond} {B : List Cond} (h : w.before args s = true) (t : ∀ w ∈ B, w.before args s = true) : ∀ w' ∈ w :: B, w'.before args s = true := fun w' h' => (List.mem_cons.mp h').elim (fun e => by rw [e]; exact h) (t w')
theorem vx_n {args : Array Value} {s : State} : ∀ w ∈ ([] : List Cond), w.before args s = true := fun _ h => nomatch h
theorem vx_own {args : Array Value} {s : State} {L : List Cond} (h1 : ∀ w ∈ L.filter vx_no, w.before args s = true)
    (hU : (Cond.isRef (.static Bundle.tN "UNASSIGNED_STACK" Bundle.steD)).before args s = true) (hN : (Cond.isRef (.static Bundle.tN "SUPPRESSED_SENTINEL" Bundle.listD)).before args s = true)
    (lU : (Cond.laysStatic Bundle.tN "UNASSIGNED_STACK" Bundle.steD).before args s = true) (lN : (Cond.laysStatic Bundle.tN "SUPPRESSED_SENTINEL" Bundle.listD).before args s = true) : ∀ w ∈ L, w.before args s = true := by
  intro w hw
  by_cases e1 : w = .isRef (.static Bundle.tN "UNASSIGNED_STACK" Bundle.steD)
  · rw [e1]; exact hU
  · by_cases e2 : w = .isRef (.static Bundle.tN "SUPPRESSED_SENTINEL" Bundle.listD)
    · rw [e2]; exact hN
    · by_cases e3 : w = .laysStatic Bundle.tN "UNASSIGNED_STACK" Bundle.steD
      · rw [e3]; exact lU
      · by_cases e4 : w = .laysStatic Bundle.tN "SUPPRESSED_SENTINEL" Bundle.listD
        · rw [e4]; exact lN
        · exact h1 w (List.mem_filter.mpr ⟨hw, by unfold vx_no; rw [decide_eq_true e1, decide_eq_true e2, decide_eq_true e3, decide_eq_true e4]; rfl⟩)
/-- where a static field lies, its class's statics cell in H -/
def vx_L (C n d : String) (A : Nat → Prop) (U : State) (H : Heap) : Prop := ∃ (c : ClassId) (k : Class) (i : Nat) (f : Field) (a : Nat) (cell : Cell), U.vm.findClass C = some c ∧ U.fieldFound? C n d = some (c, k, i, f) ∧ f.isStatic = true ∧ k.statics = some a ∧ H[a]? = some cell ∧ cell.vm.isStatics = true ∧ cell.cls = c ∧ f.slot < cell.slots.size ∧ k.staticTypes[f.slot]? = some f.type ∧ ¬ A a
theorem vx_L.moved {C n d : String} {A : Nat → Prop} {u U : State} {H : Heap} (hvm : u.vm.Alike U.vm) (h : vx_L C n d A u H) : vx_L C n d A U H := by
  obtain ⟨c, k, i, f, a, cell, h1, h2, h3, h4, h5, h6, h7, h8, h9, h10⟩ := h
  obtain ⟨k', hi', he⟩ := State.fieldFound?_setVm hvm h2
  exact ⟨c, k', i, f, a, cell, by rw [hvm.findClass]; exact h1, hi', h3, by rw [he]; exact h4, h5, h6, h7, h8, by rw [he]; exact h9, h10⟩
theorem vx_L.kept {C n d : String} {A : Nat → Prop} {U : State} {H H1 : Heap} (h : vx_L C n d A U H) (hq : ∀ a : Nat, a < H.size → ¬ A a → H1[a]? = H[a]?) : vx_L C n d A U H1 := by
  obtain ⟨c, k, i, f, a, cell, h1, h2, h3, h4, h5, h6, h7, h8, h9, h10⟩ := h
  exact ⟨c, k, i, f, a, cell, h1, h2, h3, h4, by rw [hq a (Array.getElem?_eq_some_iff.mp h5).1 h10]; exact h5, h6, h7, h8, h9, h10⟩
theorem vx_L.narrow {C n d : String} {A B : Nat → Prop} {U : State} {H : Heap} (h : vx_L C n d A U H) (hAB : ∀ q, B q → A q) : vx_L C n d B U H := by
  obtain ⟨c, k, i, f, a, cell, h1, h2, h3, h4, h5, h6, h7, h8, h9, h10⟩ := h
  exact ⟨c, k, i, f, a, cell, h1, h2, h3, h4, h5, h6, h7, h8, h9, fun z => h10 (hAB _ z)⟩
theorem vx_L.word {C n d : String} {A : Nat → Prop} {s : State} {args : Array Value} (h : vx_L C n d A s s.heap) : (Cond.laysStatic C n d).before args s = true := by
  obtain ⟨c, k, i, f, a, cell, h1, h2, h3, h4, h5, h6, h7, h8, h9, -⟩ := h
  show (Cond.laysStatic C n d).holds args s none s [] = true
  exact Cond.laysStatic_of h1 h2 h3 h4 h5 h6 h7 h8 h9
/-- .. and what it holds: null or some reference -/
def vx_Zq (C n d : String) (A : Nat → Prop) (U : State) (H : Heap) : Prop := va_Zq C n d A U H ∧ vx_L C n d A U H
theorem vx_Zq.moved {C n d : String} {A : Nat → Prop} {u U : State} {H : Heap} (hvm : u.vm.Alike U.vm) (h : vx_Zq C n d A u H) : vx_Zq C n d A U H := ⟨va_Zq.moved hvm h.1, vx_L.moved hvm h.2⟩
theorem vx_Zq.kept {C n d : String} {A : Nat → Prop} {U : State} {H H1 : Heap} (h : vx_Zq C n d A U H) (hq : ∀ a : Nat, a < H.size → ¬ A a → H1[a]? = H[a]?) : vx_Zq C n d A U H1 := ⟨va_Zq.kept h.1 hq, vx_L.kept h.2 hq⟩
theorem vx_Zq.narrow {C n d : String} {A B : Nat → Prop} {U : State} {H : Heap} (h : vx_Zq C n d A U H) (hAB : ∀ q, B q → A q) : vx_Zq C n d B U H := ⟨va_Zq.narrow h.1 hAB, vx_L.narrow h.2 hAB⟩
theorem vx_Zqof {args : Array Value} {s : State} {C n d : String} {A : Nat → Prop} (hl : (Cond.laysStatic C n d).before args s = true) (hini : (Cond.initialized C).before args s = true) (h : (Cond.isRef (.static C n d)).before args s = true) (hA : ∀ a : Nat, a < s.heap.size → ¬ A a) : vx_Zq C n d A s s.heap := by
  refine ⟨va_Zqof hl hini h hA, ?_⟩
  obtain ⟨c, k, i, f, a, cell, h1, h2, h3, h4, h5, h6, h7, h8, h9⟩ := Cond.laysStatic_spec hl
  exact ⟨c, k, i, f, a, cell, h1, h2, h3, h4, h5, h6, h7, h8, h9, hA a (Array.getElem?_eq_some_iff.mp h5).1⟩
theorem vx_isRef {C n d : String} {v : Value} {A : Nat → Prop} {s : State} {args : Array Value} (h : va_Z C n d v A s s.heap) (hv : v.isRef = true) : (Cond.isRef (.static C n d)).before args s = true := by
  obtain ⟨cf, kf, fi, f, a, cell, h1, h2, h3, h4, h5, h6, h7, -⟩ := h
  have he : (Term.static C n d).eval args s none [] s = some v := by
    simp [Term.eval, State.fieldNamed?, h1, h2, h4, h5, h6, h7]
  simp only [Cond.before, Cond.holds, Cond.value, he]
  cases v <;> simp_all [Value.isRef]
theorem vx_isRefq {C n d : String} {A : Nat → Prop} {s : State} {args : Array Value} (h : va_Zq C n d A s s.heap) : (Cond.isRef (.static C n d)).before args s = true := by
  rcases h with h | ⟨t, h⟩
  · exact vx_isRef h rfl
  · exact vx_isRef h rfl
/-- the same frame, seen from here: as if the method were called anew in this heap -/
theorem vx_rebase {T : State} (X : Stand p l e R s m args below meth c T locs cells slots) {R' : Room} (hf : R'.frames ≤ R.frames) (hl : R'.locals ≤ R.locals) (hc : cells + R'.cells ≤ R.cells) (hs : slots + R'.slots ≤ R.slots) :
    Stand p l e R' ((T.setVm s.vm).setFrames (.invoking m args :: below)) m args below meth c T [] 0 0 := by
  have htop : (T.setVm s.vm).topJava?.isSome := X.here.top
  have hF : ((T.setVm s.vm).setFrames (.invoking m args :: below)).frames = .invoking m args :: below := State.frames_setFrames _ (State.cur_lt_of_top htop)
  obtain ⟨g₀, hg0⟩ := Option.isSome_iff_exists.mp htop
  obtain ⟨r, hr⟩ := State.topJava?_eq_some.mp hg0
  have hl9 : e.platform.stackLimits (T.setVm s.vm).me = e.platform.stackLimits s.me := X.limits
  have hb9 : (T.setVm s.vm).me.stackBytes = s.me.stackBytes := X.bytes
  refine ⟨X.admits, X.cas, X.clock, hF, ?_, X.hears, X.method, X.code, X.here, X.tail, X.warmed, ?_, ?_, ?_⟩
  · have h := X.room
    have hU : ((T.setVm s.vm).setFrames (.invoking m args :: below)).localsInUse = s.localsInUse := by
      rw [State.localsInUse_invoking hF (meth := meth) (c := c) X.method X.code, State.localsInUse_invoking X.frames X.method X.code]
    simp only [State.hasRoom, Bool.and_eq_true, decide_eq_true_eq] at h ⊢
    obtain ⟨⟨⟨⟨h1, h2, h3, h4, h5, h6⟩, h7⟩, h8⟩, h9⟩ := h
    rw [X.frames, List.length_cons] at h2 h3
    have q1 := X.heapSize
    have q2 := X.used
    simp only [hF, hU, List.length_cons, State.stackLimits_setFrames, State.stackBytes_setFrames, hl9, hb9]
    refine ⟨⟨⟨⟨by omega, by omega, by omega, by omega, by omega, h6⟩, ?_⟩, ?_⟩, X.book⟩
    · show T.heap.size + R'.cells ≤ e.platform.maxCells
      omega
    · show T.slotsUsed + R'.slots ≤ e.platform.maxSlots
      omega
  · rw [State.stackLimits_setFrames]; rfl
  · rw [State.stackBytes_setFrames]; rfl
  · refine ⟨?_, Nat.le_refl _, Nat.le_refl _, ?_, ?_, fun a c9 h9 => ⟨c9, h9, rfl, rfl, fun _ _ => rfl⟩⟩
    · obtain ⟨t, ht, -⟩ := State.frames_cons hr
      show T.setVm s.vm = { ((T.setVm s.vm).setFrames (.invoking m args :: below)).setFrames (T.setVm s.vm).frames with heap := T.heap, slotsUsed := T.slotsUsed }
      rw [State.setFrames_setFrames, State.setFrames_self ht]
      rfl
    · show T.slotsUsed = T.slotsUsed + ((T.heap.toList.drop T.heap.size).map (·.slots.size)).sum
      rw [List.drop_eq_nil_of_le (Nat.le_of_eq Array.length_toList)]
      rfl
    · show ((T.heap.toList.drop T.heap.size).map (·.slots.size)).sum ≤ 0
      rw [List.drop_eq_nil_of_le (Nat.le_of_eq Array.length_toList)]
      exact Nat.le_refl _
/-- 'throw new E("text")': new; dup; ldc; invokespecial; athrow -/
theorem vx_throwS {cc : ByteArray} {pc : Nat} (hexec : p.tables.exec = Jvm.exec) (hb : c.code = cc) (hl : l.stackTraces = false) {own cls text : String} {names : List String} {ik is ic mc ms sa : Nat} {A : Nat → Prop}
    (hown : s.vm.findClass own = some m.cls) (hcls : Bundle.fit cls = true) (hnames : ∀ n ∈ names, Bundle.fit n = true)
    (hk : (Cond.classLink own ik cls).before args s = true) (hini : (Cond.initialized cls).before args s = true) (hstr : vk_R own is text sa s) (hat : ∀ w ∈ vx_atS own ic cls names, w.before args s = true)
    (hgood : ∀ w ∈ Cond.classLink own ik cls :: Cond.initialized cls :: vx_atS own ic cls names, vx_ot w = true)
    (hU : vx_Zq Bundle.tN "UNASSIGNED_STACK" Bundle.steD A s s.heap) (hN : vx_Zq Bundle.tN "SUPPRESSED_SENTINEL" Bundle.listD A s s.heap) (hS : va_S A s.heap H locs) (hsize : ls.size = c.maxLocals)
    (d0 : decode cc pc = .ok (.new ik, 3)) (d3 : decode cc (pc + 3) = .ok (.dup, 1)) (d4 : decode cc (pc + 4) = .ok (.ldc is, 2)) (d6 : decode cc (pc + 6) = .ok (.invokespecial ic, 3)) (d9 : decode cc (pc + 9) = .ok (.athrow, 1))
    (hout : ∀ x ∈ c.exceptionTable.toList, covers x (pc + 9) = false)
    (hRframes : names.length + 3 < R.frames) (hRlocals : (rest.map fun v => v.category).sum + (13 * (names.length + 1) + 43) ≤ R.locals) (hRcells : cells + 1 ≤ R.cells) (hRslots : slots + 6 ≤ R.slots) (hlocks : meth.locks = false)
    (hx : ∀ t : State, s.vm.Alike t.vm → H.size ≤ t.heap.size → (∀ q : Nat, q < H.size → t.heap[q]? = H[q]?) → XC cls s t)
    (hf : ∀ z ∈ locs, free z.base) (hc : cells + 1 ≤ mc) (hs : slots + 6 ≤ ms) :
    W p l e R s m args below meth c H locs cells slots (vx_MQ below Qc XC args s mc ms free) (F0 m pc ls rest) := by
  intro T hT X
  have htr : e.platform.stackTraces = false := (show e.platform.stackTraces = l.stackTraces by rw [X.admits.platform]).trans hl
  have Y := vx_rebase X (R' := { frames := R.frames, locals := R.locals, cells := 1, slots := 6 }) (Nat.le_refl _) (Nat.le_refl _) hRcells hRslots
  obtain ⟨s', hA⟩ : ∃ z, z = (T.setVm s.vm).setFrames (.invoking m args :: below) := ⟨_, rfl⟩
  rw [← hA] at Y
  have hvm : s'.vm = s.vm := by rw [hA]; rfl
  have hhp : s'.heap = H := by rw [hA]; exact hT
  have hW0 : s.WarmedH s'.vm := by rw [hvm]; exact State.WarmedH.refl s
  have hat' : ∀ w ∈ vx_atS own ic cls names, w.before args s' = true := fun w hw => vx_ot_at hW0 hvm.symm (hgood w (List.mem_cons_of_mem _ (List.mem_cons_of_mem _ hw))) (hat w hw)
  have hk' : (Cond.classLink own ik cls).before args s' = true := vx_ot_at hW0 hvm.symm (hgood _ List.mem_cons_self) hk
  have hini' : (Cond.initialized cls).before args s' = true := vx_ot_at hW0 hvm.symm (hgood _ (List.mem_cons_of_mem _ List.mem_cons_self)) hini
  have hU' : vx_Zq Bundle.tN "UNASSIGNED_STACK" Bundle.steD A s' s'.heap := by rw [hhp]; exact vx_Zq.moved hW0.alike (hU.kept hS.2.1)
  have hN' : vx_Zq Bundle.tN "SUPPRESSED_SENTINEL" Bundle.listD A s' s'.heap := by rw [hhp]; exact vx_Zq.moved hW0.alike (hN.kept hS.2.1)
  have h : ∀ w ∈ Bundle.ownAtoms own ic cls names, w.before args s' = true := vx_own hat' (vx_isRefq hU'.1) (vx_isRefq hN'.1) hU'.2.word hN'.2.word
  have hown' : s'.vm.findClass own = some m.cls := by rw [hvm]; exact hown
  have hins : (Cond.instantiable cls 6).before args s' = true := h _ (by simp [Bundle.ownAtoms])
  obtain ⟨vm₁, cX, kX, hfX, hkX, -, -, X₁, st1⟩ := Y.newCold hexec (own := own) (C := cls) (index := ik) (n := 6) hown' hk' hins hini'
    (g := F0 m pc ls rest) rfl (by rw [hb]; exact d0) (Nat.le_refl _) (Nat.le_refl _)
  generalize hT1 : (T.setVm vm₁).pushCell { cls := cX, slots := kX.instanceTypes.map defaultValue, vm := .none } = T1 at X₁ st1
  have hcat : (Value.ref T.heap.size).category = 1 := rfl
  have hcellA : T1.heap[T.heap.size]? = some (freshCell cX kX) := by rw [← hT1]; exact State.heap_pushCell_size _ _
  have d3' : decode c.code (pc + 3) = .ok (.dup, 1) := by rw [hb]; exact d3
  have d4' : decode c.code (pc + 4) = .ok (.ldc is, 2) := by rw [hb]; exact d4
  have hstr' : vk_R own is text sa s' := vk_R.warm hW0 hstr
  obtain ⟨U, hsteps, hrun, hend, hW, hsame, ce, hce, hO⟩ := X₁.ctorThrowS hexec htr (own := own) (cls := cls) (names := names) (ic := ic) hown' hcls hnames h (fun x hx => nomatch hx) hfX hkX hcellA (by rw [hhp, hT]; exact Nat.le_refl _) (msg := .ref sa) rfl
    (g := { method := m, pc := pc + 6, locals := ls, stack := .ref sa :: .ref T.heap.size :: .ref T.heap.size :: rest, locked := none }) rfl hsize rfl rfl (rest := rest) rfl
    (by rw [hb]; exact d6) (by rw [hb]; exact d9) hout hRframes (by simp only [List.map_cons, List.sum_cons, hcat]; omega) hlocks
  obtain ⟨f1, f2⟩ := vx_frame hsame
  rw [hhp] at f1 f2
  have hWs : s.WarmedH U.vm := State.WarmedH.trans hW0 hW
  have hcl : s.vm.findClass cls = some ce.cls := by
    have h9 := hO.cls
    rw [hvm] at h9
    exact h9
  have hall : s.sameButNew ({ U with vm := s.vm } : State) locs mc ms := by
    subst hA
    obtain ⟨e1, e2⟩ := hsame
    rw [State.setFrames_setFrames] at e1
    have h2 : (T.setVm s.vm).sameButNew ({ U with vm := s.vm } : State) [] (0 + 1) (0 + 6) := ⟨e1, e2⟩
    have h3 := X.same.trans h2
    rw [List.append_nil] at h3
    exact h3.mono hc hs
  refine ⟨U, ?_, .threw T.heap.size, hrun, hend, Or.inr ⟨T.heap.size, rfl, cls, ce, locs, hx U hWs.alike f1 (fun q hq => f2 q hq (fun z hz => nomatch hz)), hce, hO.vm, hcl, hWs, hall, hf⟩⟩
  refine st1 _ ?_
  show Steps p.tables e below (T1.setTop { method := m, pc := pc + 3, locals := ls, stack := .ref T.heap.size :: rest, locked := none }) _
  jvm_step X₁.here [X₁.here.top, hexec, d3', Value.category]
  exact X₁.ldcString hexec (own := own) (text := text) (index := is) (a := sa) hown' hstr'.1 hstr'.2
    (g := { method := m, pc := pc + 4, locals := ls, stack := .ref T.heap.size :: .ref T.heap.size :: rest, locked := none }) rfl d4' _ hsteps
end Ends
section Bodies
variable {l : Launch}
theorem vx_ofW {y : MethodName} {ws ws' : List Cond} {rm : Room} {Pc : Array Value → State → Prop} {Qc : Array Value → State → Outcome → State → Prop} {XC : String → State → State → Prop} {mc ms : Nat} {free : Addr → Prop} {cc : ByteArray} {maxL : Nat} {ret : Option FieldType}
    (hy : plainName y.cls = true) (hw : ws = Cond.code y cc maxL ret :: ws')
    (body : ∀ p e s m args below meth c s₁, BodyLoose p l y (headSpec ws rm) cc maxL ret e s m args below meth c s₁ → c.maxLocals = maxL → (∀ x ∈ c.exceptionTable.toList, False) → Pc args s →
      W p l e (headSpec ws rm).room s m args below meth c s.heap [] 0 0 (vx_MQ below Qc XC args s mc ms free) (entryFrame m args maxL)) : vx_Met l y ws rm Pc Qc XC mc ms free := by
  refine MetFree.of_bodyS (code := cc) (maxLocals := maxL) (ret := ret) hy ?_ ?_
  · intro args s m h hn
    obtain ⟨meth, c, h1, h2, h3, h4, h5, h6, -, -⟩ := Cond.code_spec hn (atoms_spec (ws := ws) h _ (by rw [hw]; exact List.mem_cons_self))
    exact ⟨meth, c, h1, h2, h3, h4, h5, h6⟩
  · intro p e s m args below meth c s₁ B hml hP _
    have hh0 : s₁.heap = s.heap := by rw [B.state]; rfl
    have ht : ∀ x ∈ c.exceptionTable.toList, False := by
      obtain ⟨meth9, c9, h1, h2, -, -, -, -, h7, -⟩ := Cond.code_spec B.named (atoms_spec (ws := ws) B.pre _ (by rw [hw]; exact List.mem_cons_self))
      cases Option.some.inj (h1.symm.trans B.method)
      cases Option.some.inj (h2.symm.trans (Stand.of_body B).code)
      intro x hx
      rw [Array.isEmpty_iff.mp h7] at hx
      cases hx
    obtain ⟨t, a1, o, b1, b2, b3⟩ := body p e s m args below meth c s₁ B hml ht hP s₁ hh0 (Stand.of_body B)
    exact ⟨t, o, a1, b1, b2, b3⟩
/-- the table of a body with handlers -/
theorem vx_table {p : Program} {x y : MethodName} {S : Spec} {cc bytes : ByteArray} {maxL maxL' : Nat} {ret ret' : Option FieldType} {e : Env} {s s₁ : State} {m : MethodId} {args : Array Value} {below : List Frame} {meth : Method} {c : Code} {hh : List (Nat × Nat × Nat × Nat)}
    (B : BodyLoose p l y S cc maxL ret e s m args below meth c s₁) (h : (Cond.codeWith y bytes maxL' ret' hh).before args s = true) : c.exceptionTable.toList = tableOf hh := by
  obtain ⟨m9, meth9, c9, hn9, h1, h2, -, -, h6, -⟩ := Cond.codeWith_spec h
  cases Option.some.inj (hn9.symm.trans B.named)
  cases Option.some.inj (h1.symm.trans B.method)
  cases Option.some.inj (h2.symm.trans (Stand.of_body B).code)
  rw [← h6, table_eq]
end Bodies
end VXA
/-! ===== END ===== -/
/-! ===== BEGIN a static call of a method with an exception table ===== -/
section VXS
variable {p : Program} {l : Launch} {e : Env} {R : Room} {s : State} {m : MethodId} {args : Array Value} {below : List Frame} {meth : Method} {c : Code} {T : State} {H : Heap} {locs : List Loc} {cells slots : Nat}
abbrev vx_CSW (R : Room) (s : State) (args : Array Value) (own : String) (index : Nat) (y : MethodName) (bytes : ByteArray) (maxL : Nat) (ret : Option FieldType) (hh : List (Nat × Nat × Nat × Nat)) (ws : List Cond) (rm : Room) (mc ms n : Nat) : Prop :=
  (rm.cells = mc ∧ rm.slots = ms ∧ rm.frames + 1 ≤ R.frames ∧ 8 + (maxL + 11) + rm.locals ≤ R.locals ∧ (∀ w ∈ ws, ∀ (a' : Array Value) (U : State), s.WarmedH U.vm → w.before a' U = true) ∧ Cond.codeWith y bytes maxL ret hh ∈ ws) ∧
  (Cond.codeWith y bytes maxL ret hh).before args s = true ∧ (Cond.initialized y.cls).before args s = true ∧ (y.cls ≠ "java/lang/invoke/MethodHandle" ∧ y.cls ≠ "java/lang/invoke/VarHandle") ∧
  (∀ sig, parseMethodDescriptor y.desc = some sig → n = sig.parameters.length) ∧ (Cond.methodLink own index y).before args s = true ∧ (Cond.static y).before args s = true
theorem vx_cwSW {own : String} {index maxL mc ms : Nat} {y : MethodName} {bytes : ByteArray} {ret : Option FieldType} {hh : List (Nat × Nat × Nat × Nat)} {Ts ws ws' : List Cond} {rm : Room} (n : Nat) (ht : ∀ w ∈ Ts, w.before args s = true) (hT : GoodIn Ts (va_wsS own index y ws)) (hw : ws = Cond.codeWith y bytes maxL ret hh :: ws') (hrc : rm.cells = mc) (hrs : rm.slots = ms)
    (hd : y.cls ≠ "java/lang/invoke/MethodHandle" ∧ y.cls ≠ "java/lang/invoke/VarHandle" ∧ (parseMethodDescriptor y.desc).map (fun d => d.parameters.length) = some n) (hR : rm.frames + 1 ≤ R.frames ∧ 8 + (maxL + 11) + rm.locals ≤ R.locals) :
    vx_CSW R s args own index y bytes maxL ret hh ws rm mc ms n := by
  have ok : ∀ w ∈ va_wsS own index y ws, w.before args s = true := fun w h => ht w (hT w h).1
  have hG : GoodIn Ts ws := fun w h => hT w (by unfold va_wsS; exact List.mem_append_right _ h)
  have hc : Cond.codeWith y bytes maxL ret hh ∈ ws := by rw [hw]; exact List.mem_cons_self
  refine ⟨⟨hrc, hrs, hR.1, hR.2, pay_in ht hG, hc⟩, ht _ (hG _ hc).1, ok _ (by simp [va_wsS]), ⟨hd.1, hd.2.1⟩, fun sig h => ?_, ok _ (by simp [va_wsS]), ok _ (by simp [va_wsS])⟩
  have h2 := hd.2.2
  rw [h] at h2
  exact (Option.some.inj h2).symm
theorem vx_callSW (X : Stand p l e R s m args below meth c T locs cells slots) (hexec : p.tables.exec = Jvm.exec) {own : String} {index : Nat} {y : MethodName} {bytes : ByteArray} {maxL : Nat} {ret : Option FieldType} {hh : List (Nat × Nat × Nat × Nat)}
    (hown : s.vm.findClass own = some m.cls) (hlink : (Cond.methodLink own index y).before args s = true) (hstat : (Cond.static y).before args s = true) (hinit : (Cond.initialized y.cls).before args s = true)
    (hcode : (Cond.codeWith y bytes maxL ret hh).before args s = true) (hy : y.cls ≠ "java/lang/invoke/MethodHandle" ∧ y.cls ≠ "java/lang/invoke/VarHandle")
    {W9 : Nat} {Pre : Pt → Array Value → Prop} {Post : Pt → Array Value → Option Value → Pt → Prop} (hK : Back l R p e below s args y 3 W9 Pre Post)
    {g : JFrame} (hg : g.method = m) (hsize : g.locals.size = c.maxLocals) {argsL rest : List Value} (hlen : ∀ sig, parseMethodDescriptor y.desc = some sig → argsL.length = sig.parameters.length)
    (hstack : g.stack = argsL.reverse ++ rest) (hW : 2 * g.monitorRoom + (rest.map fun v => v.category).sum ≤ W9) (hdg : decode c.code g.pc = .ok (.invokestatic index, 3))
    (hpre : ∀ vm₁, s.WarmedH vm₁ → Pre ⟨T.setVm vm₁, locs, cells, slots⟩ argsL.toArray) :
    ∃ (v : Option Value) (vm₁ : Vm) (B : Pt), s.WarmedH vm₁ ∧ Stand p l e R s m args below meth c B.U B.locs B.cells B.slots ∧ Post ⟨T.setVm vm₁, locs, cells, slots⟩ argsL.toArray v B ∧
      ∀ target, Steps p.tables e below (B.U.setTop { g with pc := g.pc + 3, stack := v.toList ++ rest }) target → Steps p.tables e below (T.setTop g) target := by
  obtain ⟨mk, methM, cM, hnamed, hmethM, -, -, -, -, -, -, hsigM⟩ := Cond.codeWith_spec hcode
  have hstatic : methM.isStatic = true := Cond.static_spec hnamed hmethM hstat
  obtain ⟨kP, hkP, -⟩ := className_of_methodNamed hnamed
  have hinitP : kP.init = .initialized := Cond.initialized_spec (findClass_of_methodNamed hnamed) hkP hinit
  obtain ⟨vm₁, X₁, hstep₁⟩ := X.invokestatic hexec hown hlink hnamed hmethM hstatic hkP hinitP hy (g := g) hg (argsL := argsL) (rest := rest) (hlen _ hsigM) hstack hdg
  obtain ⟨v, B, X', hpost, hsteps⟩ := hK m meth c ⟨T.setVm vm₁, locs, cells, slots⟩ { g with stack := rest } (.invokestatic index) mk argsL.toArray X₁ hg hsize hdg hW (X₁.named hnamed) (hpre vm₁ X₁.warmed)
  exact ⟨v, vm₁, B, X₁.warmed, X', hpost, fun target h => hstep₁ _ fun acts => by rw [doInvoke_state]; exact hsteps.trans h⟩
theorem vx_runSW {y : MethodName} {bytes cc : ByteArray} {maxL nL mc ms n index : Nat} {ret : Option FieldType} {hh : List (Nat × Nat × Nat × Nat)} {ws : List Cond} {rm : Room} {Pc : Array Value → State → Prop} {Qc : Array Value → State → Outcome → State → Prop} {free : Addr → Prop} {Ts : List Cond} {own : String} {As rest : List Value} {g : JFrame}
    (S : CallFix p m c cc nL s args Ts own) (hM : Met l y ws rm Pc Qc mc ms free) (cw : vx_CSW R s args own index y bytes maxL ret hh ws rm mc ms n) (hp : PreS s H Pc As)
    (hg : g.method = m) (hn : As.length = n) (hsize : g.locals.size = nL) (hstack : g.stack = As.reverse ++ rest) (hW : 2 * g.monitorRoom + (rest.map fun v => v.category).sum ≤ 8) (hdg : decode cc g.pc = .ok (.invokestatic index, 3)) (hf : cells + mc ≤ R.cells ∧ slots + ms ≤ R.slots) :
    va_Run p l e R s m args below meth c H locs cells slots mc ms g rest (Qc As.toArray) (free) := by
  obtain ⟨⟨hrc, hrs, hfr, hlo, hws, hcw⟩, hcode, hini, hy, hlen, hl, hstt⟩ := cw
  have hK : Back l R p e below s args y 3 8 (PreOf R mc ms Pc) (PostOf Qc mc ms free) := va_backW (hh := hh) (bytes := bytes) (maxL := maxL) (ret := ret) hM hp.1 hrc hrs hfr hlo hws hcw (fun a' U hW => word_at hW (Or.inl (by first | rfl | simp [Cond.onTables, Cond.keeps, Cond.steady])) hini)
  obtain ⟨hx, hb, hml, ho, -⟩ := S
  intro T hT X
  obtain ⟨v, vm₁, ⟨U', l2, c2, s2⟩, hW₁, X', ⟨g', mk, t, L, e1, e2, hq, h1, hL, h2, h3⟩, st⟩ := vx_callSW X hx (hh := hh) (bytes := bytes) (maxL := maxL) (ret := ret) ho hl hstt hini hcode hy hK hg (hsize.trans hml.symm) (argsL := As) (rest := rest) (fun sig h => hn.trans (hlen sig h)) hstack hW (by rw [hb]; exact hdg)
    (fun vm₁ hW₁ => ⟨hf.1, hf.2, hp.2 (T.setVm vm₁) hT hW₁⟩)
  dsimp only [Pt.U, Pt.locs, Pt.cells, Pt.slots] at X' e1 e2 h1 h2 h3 st
  subst h1; subst h2; subst h3
  exact ⟨v, (T.setVm vm₁).calling g' mk As.toArray, t, U', L, hT, X', hL, e1, e2, hq, st⟩
/-- a thing of a world lies in the heap -/
theorem vx_lt {D : va_G} {cl : List vw_C} {ws : va_W} {H1 : Heap} (h : va_P D cl ws H1) {k : Nat} {q : Nat × va_E} (hk : ws[k]? = some q) : q.1 < H1.size := (h k q hk).lt
end VXS
/-! ===== END ===== -/
end
section
/-! a handler found, her class's entry resolved by the search or before: our own rows -/
section JC
variable {p : Program} {l : Launch} {e : Env} {R : Room} {s : State} {m : MethodId} {args : Array Value} {below : List Frame} {meth : Method} {c : Code} {T : State} {H : Heap} {locs : List Loc} {cells slots : Nat} {Q : State → Prop}
/-- one covering row whose class links: taken where the thrown object's class goes into it, else passed; the tables are noted either way -/
theorem jc_row {Q : Handler → Pre} {E : CtlPost} {d : Bool} {acts : List Action} {f : JFrame} {a : Addr} {x : ExceptionTableEntry} {t : List ExceptionTableEntry} {k : ClassId} {cell : Cell} (ok : Bool) (hx : covers x f.pc = true) (h0 : x.catchType ≠ 0)
    (hl : s.vm.ClassLinks e.platform f.method.cls x.catchType k) (hcell : s.heap[a]? = some cell) (hobj : ∀ z, cell.vm ≠ .statics z) (h1 : ∃ z, s.vm.classes[cell.cls]? = some z) (h2 : ∃ z, s.vm.classes[k]? = some z) (hok : s.vm.assignable cell.cls k = ok) :
    wp (findHandler.go f a (x :: t)) Q E e d acts s ↔ if ok = true then Q (.found x.handlerPc) d acts (s.setVm (s.vm.noted f.method.cls x.catchType (.cls k))) else wp (findHandler.go f a t) Q E e d acts (s.setVm (s.vm.noted f.method.cls x.catchType (.cls k))) := by
  obtain ⟨g1, g2⟩ := (resolveClass_links e.toSetting hl).op (op := VmOp.resolveClass f.method.cls x.catchType) rfl
  have al : s.vm.Alike (s.vm.noted f.method.cls x.catchType (.cls k)) := (Vm.Alike.refl s.vm).noted _ _ _
  obtain ⟨z1, hz1⟩ := h1
  obtain ⟨z2, hz2⟩ := h2
  obtain ⟨y1, hy1, -⟩ := al.2.2 _ _ hz1
  obtain ⟨y2, hy2, -⟩ := al.2.2 _ _ hz2
  have hok2 : (s.vm.noted f.method.cls x.catchType (.cls k)).assignable cell.cls k = ok := by rw [al.assignable]; exact hok
  simp only [covers] at hx
  cases ok <;> simp [findHandler.go, hx, h0, g1, g2, hcell, hobj, hy1, hy2, hok2, VmOp.dirties, VmOp.acts]
/-- from the thrown object over the frame to the handler, the search's end being known -/
theorem jc_go {a : Addr} {g : JFrame} {pc : Nat} {vm' : Vm} (X : Stand p l e R s m args below meth c T locs cells slots) (hg : g.method = m) (hW : s.WarmedH vm')
    (hf : ∀ (Q : Handler → Pre) (E : CtlPost) (d : Bool) (acts : List Action), wp (findHandler g a) Q E e d acts ((T.setTop g).pushFrame (.throwing a)) ↔ Q (.found pc) d acts (((T.setTop g).pushFrame (.throwing a)).setVm vm')) :
    Stand p l e R s m args below meth c (T.setVm vm') locs cells slots ∧ ∀ target, Steps p.tables e below ((T.setVm vm').setTop { g with pc := pc, stack := [.ref a] }) target → Steps p.tables e below ((T.setTop g).pushFrame (.throwing a)) target := by
  subst hg
  refine ⟨X.noted hW, fun target hrest => ?_⟩
  obtain ⟨hgo, hw⟩ := X.here.throwing a
  refine Steps.head hgo hw ?_
  have hstep : ∀ (S : State) (r : List Frame), (∀ (Q : Handler → Pre) (E : CtlPost) (d : Bool) (acts : List Action), wp (findHandler g a) Q E e d acts S ↔ Q (.found pc) d acts (S.setVm vm')) →
      (stepThrowing e S a (.java g :: r)).Is ((S.setVm vm').setFrames (.java { g with pc := pc, stack := [.ref a] } :: r)) [] := by
    intro S r hS
    simp only [stepThrowing, searchFrame, vmDo]
    generalize hr : Sem.go _ e false [] S = res
    obtain ⟨as, rfl, ha⟩ := Sem.eq_ok_of hr (a := Handler.found pc) (s' := S.setVm vm') (acts' := []) (by simp [hS _ _ _ _])
    exact ⟨rfl, ha⟩
  rw [stepThread_throwing (frames_entered X.here.top _), (hstep _ _ hf).1]
  obtain ⟨g₀, hr⟩ := X.frames_eq
  have hr' : (T.setVm vm').frames = .java g₀ :: below := hr
  have sv : ∀ (u : State) (F G : List Frame), ((u.setFrames F).setVm vm').setFrames G = (u.setVm vm').setFrames G := fun u F G => by
    have h1 : (u.setFrames F).setVm vm' = (u.setVm vm').setFrames F := rfl
    rw [h1, State.setFrames_setFrames]
  rw [State.setTop_of_frames _ hr'] at hrest
  rw [hr, List.tail_cons, State.pushFrame, sv, State.setTop_of_frames _ hr, sv]
  exact hrest
variable {pc : Nat} {ls : Array Slot} {rest : List Value}
/-- caught by the first row of the table -/
theorem jc_first {own name E : String} {ce : Cell} {q : Addr} (hown : s.vm.findClass own = some m.cls) (x : ExceptionTableEntry) (suf : List ExceptionTableEntry) (hsplit : c.exceptionTable.toList = x :: suf) (hx : covers x pc = true) (h0 : x.catchType ≠ 0)
    (hlink : (Cond.classLink own x.catchType E).before args s = true) (hcell : H[q]? = some ce) (hv : ce.vm = .none) (hcl : s.vm.findClass E = some ce.cls)
    (kk : W p l e R s m args below meth c H locs cells slots Q (F0 m x.handlerPc ls [.ref q])) : vx_W p l e R s m args below meth c H locs cells slots Q (F0 m pc ls rest) q := by
  intro T hT X
  have hpl : e.platform.magicAccessors = ({} : Platform).magicAccessors := by rw [X.admits.platform]
  obtain ⟨k, hk, hlk⟩ := Cond.classLink_spec hown hlink e.platform hpl
  cases Option.some.inj (hcl.symm.trans hk)
  obtain ⟨dk, _, _, kt, hd, _, _, _, _, hkt, _, hopen⟩ := hlk.here
  obtain ⟨kt', hkt', -⟩ := X.warmed.alike.2.2 _ _ hkt
  obtain ⟨X', st⟩ := jc_go (a := q) (g := F0 m pc ls rest) (pc := x.handlerPc) (vm' := T.vm.noted m.cls x.catchType (.cls ce.cls)) X rfl (X.warmed.noted hd hopen (State.rightAt_cls hlk)) (fun Q E d acts => by
    rw [W.findHandler_eq (s := (T.setTop (F0 m pc ls rest)).pushFrame (.throwing q)) (f := F0 m pc ls rest) X.method' X.code, hsplit]
    exact (jc_row (s := (T.setTop (F0 m pc ls rest)).pushFrame (.throwing q)) (f := F0 m pc ls rest) true hx h0 (X.warmed.classLinks hlk) (by show T.heap[q]? = some ce; rw [hT]; exact hcell) (VmData.ne_statics_of (by rw [hv]; rfl)) ⟨kt', hkt'⟩ ⟨kt', hkt'⟩ (Vm.assignable_self _ _)).trans (by rw [if_pos rfl]; rfl))
  obtain ⟨t, a1, b1⟩ := kk (T.setVm (T.vm.noted m.cls x.catchType (.cls ce.cls))) hT X'
  exact ⟨t, st t a1, b1⟩
/-- caught by the second row: the first names a class that the object isn't of -/
theorem jc_second {own E N : String} {ce : Cell} {q : Addr} (hown : s.vm.findClass own = some m.cls) (z x : ExceptionTableEntry) (suf : List ExceptionTableEntry) (hsplit : c.exceptionTable.toList = z :: x :: suf) (hz : covers z pc = true) (hx : covers x pc = true) (h9 : z.catchType ≠ 0) (h0 : x.catchType ≠ 0)
    (hlink9 : (Cond.classLink own z.catchType N).before args s = true) (hno : va_Nc E N s) (hlink : (Cond.classLink own x.catchType E).before args s = true) (hcell : H[q]? = some ce) (hv : ce.vm = .none) (hcl : s.vm.findClass E = some ce.cls)
    (kk : W p l e R s m args below meth c H locs cells slots Q (F0 m x.handlerPc ls [.ref q])) : vx_W p l e R s m args below meth c H locs cells slots Q (F0 m pc ls rest) q := by
  intro T hT X
  have hpl : e.platform.magicAccessors = ({} : Platform).magicAccessors := by rw [X.admits.platform]
  obtain ⟨k, hk, hlk⟩ := Cond.classLink_spec hown hlink e.platform hpl
  cases Option.some.inj (hcl.symm.trans hk)
  obtain ⟨k9, hk9, hlk9⟩ := Cond.classLink_spec hown hlink9 e.platform hpl
  obtain ⟨c8, t8, e1, e2, e3⟩ := hno
  cases Option.some.inj (e1.symm.trans hcl)
  cases Option.some.inj (e2.symm.trans hk9)
  obtain ⟨dk, _, _, kt, hd, _, _, _, _, hkt, _, hopen⟩ := hlk.here
  obtain ⟨dk9, _, _, kt9, hd9, _, _, _, _, hkt9, _, hopen9⟩ := hlk9.here
  obtain ⟨kt', hkt', -⟩ := X.warmed.alike.2.2 _ _ hkt
  obtain ⟨kt9', hkt9', -⟩ := X.warmed.alike.2.2 _ _ hkt9
  have W1 : s.WarmedH (T.vm.noted m.cls z.catchType (.cls k9)) := X.warmed.noted hd9 hopen9 (State.rightAt_cls hlk9)
  obtain ⟨kt1, hkt1, -⟩ := W1.alike.2.2 _ _ hkt
  obtain ⟨X', st⟩ := jc_go (a := q) (g := F0 m pc ls rest) (pc := x.handlerPc) (vm' := (T.vm.noted m.cls z.catchType (.cls k9)).noted m.cls x.catchType (.cls ce.cls)) X rfl (W1.noted hd hopen (State.rightAt_cls hlk)) (fun Q E d acts => by
    rw [W.findHandler_eq (s := (T.setTop (F0 m pc ls rest)).pushFrame (.throwing q)) (f := F0 m pc ls rest) X.method' X.code, hsplit]
    refine (jc_row (s := (T.setTop (F0 m pc ls rest)).pushFrame (.throwing q)) (f := F0 m pc ls rest) false hz h9 (X.warmed.classLinks hlk9) (by show T.heap[q]? = some ce; rw [hT]; exact hcell) (VmData.ne_statics_of (by rw [hv]; rfl)) ⟨kt', hkt'⟩ ⟨kt9', hkt9'⟩ (by show T.vm.assignable _ _ = false; rw [X.warmed.alike.assignable]; exact e3)).trans ?_
    rw [if_neg (by decide)]
    exact (jc_row (s := ((T.setTop (F0 m pc ls rest)).pushFrame (.throwing q)).setVm (T.vm.noted m.cls z.catchType (.cls k9))) (f := F0 m pc ls rest) true hx h0 (W1.classLinks hlk) (by show T.heap[q]? = some ce; rw [hT]; exact hcell) (VmData.ne_statics_of (by rw [hv]; rfl)) ⟨kt1, hkt1⟩ ⟨kt1, hkt1⟩ (Vm.assignable_self _ _)).trans (by rw [if_pos rfl]; rfl))
  obtain ⟨t, a1, b1⟩ := kk (T.setVm ((T.vm.noted m.cls z.catchType (.cls k9)).noted m.cls x.catchType (.cls ce.cls))) hT X'
  exact ⟨t, st t a1, b1⟩
end JC
/-! rows of our own over the kit: a method that only reads, a method that writes the cells that it is given, a call that surely throws -/
/-- the nest's words: private fields and methods of nest mates that the class uses -/
def jF : List (String × Nat × String × String × String × String) := [("JoinDesk$Cursor", 100, "JoinDesk$Position", "leftFrom", "I", "JoinDesk"), ("JoinDesk$Cursor", 103, "JoinDesk$Position", "rightFrom", "I", "JoinDesk"), ("JoinDesk$Cursor", 40, "JoinDesk$Position", "leftAt", "I", "JoinDesk"), ("JoinDesk$Cursor", 43, "JoinDesk$Position", "rightAt", "I", "JoinDesk"), ("JoinDesk$Cursor", 54, "JoinDesk$Position", "passed", "I", "JoinDesk"), ("JoinDesk$Cursor", 75, "JoinDesk$Position", "leftTo", "I", "JoinDesk"), ("JoinDesk$Cursor", 78, "JoinDesk$Position", "rightTo", "I", "JoinDesk"), ("JoinDesk$GroupBook", 68, "JoinDesk$Span", "least", "J", "JoinDesk"), ("JoinDesk$GroupBook", 72, "JoinDesk$Span", "greatest", "J", "JoinDesk"), ("JoinDesk$GroupBook", 75, "JoinDesk$Span", "rows", "I", "JoinDesk"), ("JoinDesk$GroupBook", 78, "JoinDesk$Span", "sum", "J", "JoinDesk")]
def jM : List (String × Nat × MethodName × String) := [("JoinDesk$Cursor", 85, ⟨"JoinDesk", "pairsBefore", "(LJoinDesk$Table;LJoinDesk$Table;III)I"⟩, "JoinDesk"), ("JoinDesk$GroupBook", 22, ⟨"JoinDesk$Span", "<init>", "()V"⟩, "JoinDesk"), ("JoinDesk$GroupBook", 41, ⟨"JoinDesk", "isBelow", "(II)Z"⟩, "JoinDesk")]
/-- the nest's words hold, and cQ is the array of cL's -/
def jN (cL cQ : ClassId) (U : State) : Prop := (∀ q ∈ jF, va_Nw (.fieldLinkNest q.1 q.2.1 q.2.2.1 q.2.2.2.1 q.2.2.2.2.1 q.2.2.2.2.2) U) ∧ (∀ q ∈ jM, va_Nw (.methodLinkNest q.1 q.2.1 q.2.2.1 q.2.2.2) U) ∧ ∃ k, U.vm.classes[cQ]? = some k ∧ k.kind = .array cL (.array .long)
theorem jN.warm {cL cQ : ClassId} {s U : State} (hW : s.WarmedH U.vm) (h : jN cL cQ s) : jN cL cQ U := by
  refine ⟨fun q hq => va_Nw.warmF hW (h.1 q hq), fun q hq => va_Nw.warmM hW (h.2.1 q hq), ?_⟩
  obtain ⟨k, h1, h2⟩ := h.2.2
  obtain ⟨k', h3, h4⟩ := hW.alike.2.2 _ _ h1
  exact ⟨k', h3, by rw [h4]; exact h2⟩
theorem jN.same {cL cQ : ClassId} {s U : State} (hv : s.vm = U.vm) (h : jN cL cQ s) : jN cL cQ U := by
  refine ⟨fun q hq => va_Nw.same rfl hv (h.1 q hq), fun q hq => va_Nw.same rfl hv (h.2.1 q hq), ?_⟩
  rw [← hv]
  exact h.2.2
/-- the array classes that the worlds know -/
abbrev jT (cI cL cQ : ClassId) : List (ClassId × FieldType) := [(cI, .int), (cL, .long), (cQ, .array .long)]
/-- a truth value as the machine has it -/
def jb (b : Bool) : Int32 := if b then 1 else 0
theorem jb_n (b : Bool) : narrow .boolean (.int (jb b)) = .int (jb b) := by cases b <;> rfl
theorem jb_f (b : Bool) : fits .boolean (.int (jb b)) = true := by cases b <;> rfl
section JA
variable {p : Program} {l : Launch} {e : Env} {R : Room} {s : State} {m : MethodId} {args : Array Value} {below : List Frame} {meth : Method} {c : Code} {H : Heap} {locs : List Loc} {cells slots : Nat} {Q : State → Prop}
variable {D : va_G} {cl : List vw_C} {tys : List (ClassId × FieldType)} {cL cQ : ClassId} {w wc : va_W}
variable {y : MethodName} {bytes cc : ByteArray} {maxL nL mc ms n index : Nat} {ret : Option FieldType} {ws : List Cond} {rm : Room} {Ts : List Cond} {own C : String} {b : Addr} {As rest st0 : List Value} {pc : Nat} {ls : Array Slot} {A : Nat → Prop} {H0 : Heap}
theorem jw_fm {is : List Nat} (hs : is.map (fun i => w[i]?) = wc.map some) : is.filterMap (fun i => w[i]?) = wc := by
  have h := congrArg (List.filterMap id) hs
  simpa [List.filterMap_map, Function.comp_def] using h
/-- the start of a method that reads the cells wc -/
def jr_P (D : va_G) (cl : List vw_C) (tys : List (ClassId × FieldType)) (cL cQ : ClassId) (av : List Value) (wc : va_W) : Array Value → State → Prop := va_Pc av (fun U => va_P D cl wc U.heap ∧ va_K D cl tys U ∧ jN cL cQ U)
/-- the start of a method that may write the cells wc; the heap has sz cells -/
def jw_P (D : va_G) (cl : List vw_C) (tys : List (ClassId × FieldType)) (cL cQ : ClassId) (av : List Value) (wc : va_W) (sz : Nat) : Array Value → State → Prop := va_Pc av (fun U => U.heap.size = sz ∧ va_P D cl wc U.heap ∧ va_K D cl tys U ∧ jN cL cQ U ∧ va_D (fun _ => True) wc)
/-- the cells behind it -/
def jw_B {S : Type} (D : va_G) (cl : List vw_C) (A : Nat → Prop) (w1 : S → va_W) : S → State → Prop := fun u t => va_P D cl (w1 u) t.heap ∧ va_D A (w1 u)
theorem jr_blind {av : List Value} : FrameBlind (jr_P D cl tys cL cQ av wc) := fun a U g mk q => by
  obtain ⟨q0, qP, qK, qN⟩ := q
  exact ⟨q0, qP, va_K.moved (u := U) (U := U.calling g mk a) (Vm.Alike.refl U.vm) qK, jN.same (s := U) rfl qN⟩
theorem jw_blind {av : List Value} {sz : Nat} : FrameBlind (jw_P D cl tys cL cQ av wc sz) := fun a U g mk q => by
  obtain ⟨q0, q1, qP, qK, qN, qD⟩ := q
  exact ⟨q0, q1, qP, va_K.moved (u := U) (U := U.calling g mk a) (Vm.Alike.refl U.vm) qK, jN.same (s := U) rfl qN, qD⟩
theorem jr_S (hK : va_K D cl tys s) (hN : jN cL cQ s) (hP : va_P D cl w H) (is : List Nat) (hs : is.filterMap (fun i => w[i]?) = wc) : PreS s H (jr_P D cl tys cL cQ As wc) As :=
  ⟨jr_blind, fun U hU hW => ⟨rfl, by rw [hU]; exact hP.sub is hs, va_K.moved hW.alike hK, hN.warm hW⟩⟩
theorem jr_V (hK : va_K D cl tys s) (hN : jN cL cQ s) (hP : va_P D cl w H) (is : List Nat) (hs : is.filterMap (fun i => w[i]?) = wc) (ci q0 : Nat) {q : vw_C} {fs : List Value} (hc : cl[ci]? = some q) (hq : q.1 = C) (he : w[q0]? = some (b, .inr (ci, fs))) : PreV s H C b (jr_P D cl tys cL cQ (.ref b :: As) wc) As :=
  ⟨jr_blind, by rw [← hq]; exact va_recv hK hP hc he, fun U hU hW => ⟨rfl, by rw [hU]; exact hP.sub is hs, va_K.moved hW.alike hK, hN.warm hW⟩⟩
theorem jw_S (hK : va_K D cl tys s) (hN : jN cL cQ s) (hP : va_P D cl w H) (hD : va_D A w) (is : List Nat) (hn : va_nd is = true) (hs : is.map (fun i => w[i]?) = wc.map some) : PreS s H (jw_P D cl tys cL cQ As wc H.size) As :=
  ⟨jw_blind, fun U hU hW => ⟨rfl, by rw [hU], by rw [hU]; exact hP.sub is (jw_fm hs), va_K.moved hW.alike hK, hN.warm hW, (hD.sub is hn hs).weaken (fun _ _ _ _ => trivial)⟩⟩
theorem jw_V (hK : va_K D cl tys s) (hN : jN cL cQ s) (hP : va_P D cl w H) (hD : va_D A w) (is : List Nat) (hn : va_nd is = true) (hs : is.map (fun i => w[i]?) = wc.map some) (ci q0 : Nat) {q : vw_C} {fs : List Value} (hc : cl[ci]? = some q) (hq : q.1 = C) (he : w[q0]? = some (b, .inr (ci, fs))) : PreV s H C b (jw_P D cl tys cL cQ (.ref b :: As) wc H.size) As :=
  ⟨jw_blind, by rw [← hq]; exact va_recv hK hP hc he, fun U hU hW => ⟨rfl, by rw [hU], by rw [hU]; exact hP.sub is (jw_fm hs), va_K.moved hW.alike hK, hN.warm hW, (hD.sub is hn hs).weaken (fun _ _ _ _ => trivial)⟩⟩
/-- a reader's answer that is a cell's address -/
def jr_Sr (post : Nat → Prop) : Array Value → State → Outcome → State → Prop := fun _ st o t => ∃ r : Nat, o = .returned (some (.ref r)) ∧ post r ∧ t.heap = st.heap
theorem jr_callr {post : Nat → Prop} {a : Array Value} (hr : CallRun p l e R s m args below meth c H locs cells slots 0 0 (F0 m pc ls st0) rest (jr_Sr post a) (fun _ => False))
    (kk : ∀ r : Nat, post r → W p l e R s m args below meth c H locs cells slots Q (F0 m (pc + 3) ls (.ref r :: rest))) : W p l e R s m args below meth c H locs cells slots Q (F0 m pc ls st0) := by
  refine va_csr (a := a) (post := post) (ad := fun k => .ref k) ?_ kk
  intro T hT X
  obtain ⟨v, st₀, t, T', L, h0, X', hL, e1, ⟨r, hv, hp, hh⟩, st⟩ := hr T hT X
  exact ⟨v, st₀, t, T', L, h0, X', hL, e1, ⟨r, hv, hp, hh⟩, st⟩
/-- behind a call that wrote: the callee's cells and the rest -/
theorem jw_v {S : Type} {post : S → Prop} {w1 : S → va_W} {wr : va_W} {a : Array Value} (hr : va_Run p l e R s m args below meth c H locs cells slots mc ms (F0 m pc ls st0) rest (va_Qv post (jw_B D cl (va_A wc H.size) w1) (va_A wc H.size) a) (va_A wc H.size))
    (hP : va_P D cl w H) (hD : va_D A w) (hS : va_S A H0 H locs) (hA : ∀ q, H0.size ≤ q → A q) (isC isR : List Nat) (hC : isC.map (fun i => w[i]?) = wc.map some) (hR : isR.map (fun i => w[i]?) = wr.map some) (hn : va_nd isR = true) (hdis : ∀ i ∈ isR, i ∉ isC)
    (kk : ∀ (u : S) (H1 : Heap) (locs1 : List Loc), post u → va_P D cl (wr ++ w1 u) H1 → va_D A (wr ++ w1 u) → va_S A H0 H1 locs1 → W p l e R s m args below meth c H1 locs1 (cells + mc) (slots + ms) Q (F0 m (pc + 3) ls rest)) : W p l e R s m args below meth c H locs cells slots Q (F0 m pc ls st0) := by
  have hF := va_free (wc := wc) hD hS hA isC hC
  refine va_callv hr hS (fun q _ h => hF q h) hF (fun u t H1 locs1 ht hvm hp hB hz hk hS1 => ?_)
  obtain ⟨hP1, hD1⟩ := hB
  rw [ht] at hP1
  obtain ⟨hP2, hD2⟩ := va_join (wr := wr) (w1 := w1 u) hP hD isC isR hC hR hn hdis hk hF hP1 hD1
  exact kk u H1 locs1 hp hP2 hD2 hS1
theorem jw_i {S : Type} {post : Int32 → S → Prop} {w1 : S → va_W} {wr : va_W} {a : Array Value} (hr : va_Run p l e R s m args below meth c H locs cells slots mc ms (F0 m pc ls st0) rest (va_Qi post (jw_B D cl (va_A wc H.size) w1) (va_A wc H.size) a) (va_A wc H.size))
    (hP : va_P D cl w H) (hD : va_D A w) (hS : va_S A H0 H locs) (hA : ∀ q, H0.size ≤ q → A q) (isC isR : List Nat) (hC : isC.map (fun i => w[i]?) = wc.map some) (hR : isR.map (fun i => w[i]?) = wr.map some) (hn : va_nd isR = true) (hdis : ∀ i ∈ isR, i ∉ isC)
    (kk : ∀ (r : Int32) (u : S) (H1 : Heap) (locs1 : List Loc), post r u → va_P D cl (wr ++ w1 u) H1 → va_D A (wr ++ w1 u) → va_S A H0 H1 locs1 → W p l e R s m args below meth c H1 locs1 (cells + mc) (slots + ms) Q (F0 m (pc + 3) ls (.int r :: rest))) : W p l e R s m args below meth c H locs cells slots Q (F0 m pc ls st0) := by
  have hF := va_free (wc := wc) hD hS hA isC hC
  refine va_calli hr hS (fun q _ h => hF q h) hF (fun r u t H1 locs1 ht hvm hp hB hz hk hS1 => ?_)
  obtain ⟨hP1, hD1⟩ := hB
  rw [ht] at hP1
  obtain ⟨hP2, hD2⟩ := va_join (wr := wr) (w1 := w1 u) hP hD isC isR hC hR hn hdis hk hF hP1 hD1
  exact kk r u H1 locs1 hp hP2 hD2 hS1
theorem jw_l {S : Type} {post : Int64 → S → Prop} {w1 : S → va_W} {wr : va_W} {a : Array Value} (hr : va_Run p l e R s m args below meth c H locs cells slots mc ms (F0 m pc ls st0) rest (va_Ql post (jw_B D cl (va_A wc H.size) w1) (va_A wc H.size) a) (va_A wc H.size))
    (hP : va_P D cl w H) (hD : va_D A w) (hS : va_S A H0 H locs) (hA : ∀ q, H0.size ≤ q → A q) (isC isR : List Nat) (hC : isC.map (fun i => w[i]?) = wc.map some) (hR : isR.map (fun i => w[i]?) = wr.map some) (hn : va_nd isR = true) (hdis : ∀ i ∈ isR, i ∉ isC)
    (kk : ∀ (r : Int64) (u : S) (H1 : Heap) (locs1 : List Loc), post r u → va_P D cl (wr ++ w1 u) H1 → va_D A (wr ++ w1 u) → va_S A H0 H1 locs1 → W p l e R s m args below meth c H1 locs1 (cells + mc) (slots + ms) Q (F0 m (pc + 3) ls (.long r :: rest))) : W p l e R s m args below meth c H locs cells slots Q (F0 m pc ls st0) := by
  have hF := va_free (wc := wc) hD hS hA isC hC
  refine va_calll hr hS (fun q _ h => hF q h) hF (fun r u t H1 locs1 ht hvm hp hB hz hk hS1 => ?_)
  obtain ⟨hP1, hD1⟩ := hB
  rw [ht] at hP1
  obtain ⟨hP2, hD2⟩ := va_join (wr := wr) (w1 := w1 u) hP hD isC isR hC hR hn hdis hk hF hP1 hD1
  exact kk r u H1 locs1 hp hP2 hD2 hS1
/-- a new int array, of the class that the tables have -/
theorem jx_newi {atype : ArrayType} (hexec : p.tables.exec = Jvm.exec) (hb : c.code = cc) (harr : (Cond.arrayClass (newarray.typeOf atype)).before args s = true) (hty : newarray.typeOf atype = .int) (hK : va_K D cl tys s) (hP : va_P D cl w H) (hD : va_D A w) (hS : va_S A H0 H locs) (hA : ∀ q, H0.size ≤ q → A q)
    (t0 : Nat) {cA : ClassId} (ht : tys[t0]? = some (cA, .int)) {n : Int32} {N' : Nat} (hn : ¬ n < 0) (hN : n.toNatClampNeg = N') (hbytes : N' * 4 ≤ 536870912) (hcells : cells + 1 ≤ R.cells) (hslots : slots + N' ≤ R.slots) (hdg : decode cc pc = .ok (.newarray atype, 2))
    (kk : ∀ (q : Nat) (H1 : Heap), va_P D cl (w ++ [(q, .inl (cA, N', .inl fun _ => 0))]) H1 → va_D A (w ++ [(q, .inl (cA, N', .inl fun _ => 0))]) → va_S A H0 H1 locs →
      W p l e R s m args below meth c H1 locs (cells + 1) (slots + N') Q (F0 m (pc + 2) ls (.ref q :: rest))) : W p l e R s m args below meth c H locs cells slots Q (F0 m pc ls (.int n :: rest)) := by
  refine va_newa (a0 := (N', .inl fun _ => 0)) hexec hb harr hty hK hP hD hS hA (fun cA => rfl) hn hN hbytes hcells hslots hdg (fun q cB H1 hK1 hP1 hD1 hS1 => ?_)
  have h1 := (hK.2 t0 _ ht).2
  have h2 := (hK1.2 tys.length (cB, .int) (by simp)).2
  have h3 : cB = cA := Option.some.inj (h2.symm.trans h1)
  subst h3
  exact kk q H1 hP1 hD1 hS1
theorem jx_newl {atype : ArrayType} (hexec : p.tables.exec = Jvm.exec) (hb : c.code = cc) (harr : (Cond.arrayClass (newarray.typeOf atype)).before args s = true) (hty : newarray.typeOf atype = .long) (hK : va_K D cl tys s) (hP : va_P D cl w H) (hD : va_D A w) (hS : va_S A H0 H locs) (hA : ∀ q, H0.size ≤ q → A q)
    (t0 : Nat) {cA : ClassId} (ht : tys[t0]? = some (cA, .long)) {n : Int32} {N' : Nat} (hn : ¬ n < 0) (hN : n.toNatClampNeg = N') (hbytes : N' * 8 ≤ 536870912) (hcells : cells + 1 ≤ R.cells) (hslots : slots + N' ≤ R.slots) (hdg : decode cc pc = .ok (.newarray atype, 2))
    (kk : ∀ (q : Nat) (H1 : Heap), va_P D cl (w ++ [(q, .inl (cA, N', .inr (.inl fun _ => 0)))]) H1 → va_D A (w ++ [(q, .inl (cA, N', .inr (.inl fun _ => 0)))]) → va_S A H0 H1 locs →
      W p l e R s m args below meth c H1 locs (cells + 1) (slots + N') Q (F0 m (pc + 2) ls (.ref q :: rest))) : W p l e R s m args below meth c H locs cells slots Q (F0 m pc ls (.int n :: rest)) := by
  refine va_newa (a0 := (N', .inr (.inl fun _ => 0))) hexec hb harr hty hK hP hD hS hA (fun cA => rfl) hn hN hbytes hcells hslots hdg (fun q cB H1 hK1 hP1 hD1 hS1 => ?_)
  have h1 := (hK.2 t0 _ ht).2
  have h2 := (hK1.2 tys.length (cB, .long) (by simp)).2
  have h3 : cB = cA := Option.some.inj (h2.symm.trans h1)
  subst h3
  exact kk q H1 hP1 hD1 hS1
/-- where a call has thrown E0 and no cell that was there has changed -/
def jx_X (E0 : String) : String → State → State → Prop := fun E st t => E = E0 ∧ va_F (fun q => st.heap.size ≤ q) st t
theorem jx_thr {E0 : String} (hr : vx_Run p l e R s m args below meth c H locs cells slots mc ms (F0 m pc ls st0) rest (fun _ _ _ => False) (jx_X E0) (fun _ => False))
    (kx : ∀ (ce : Cell) (q9 : Addr) (H1 : Heap), H.size ≤ H1.size → (∀ q : Nat, q < H.size → H1[q]? = H[q]?) → H1[q9]? = some ce → ce.vm = .none → s.vm.findClass E0 = some ce.cls → vx_W p l e R s m args below meth c H1 locs (cells + mc) (slots + ms) Q (F0 m pc ls rest) q9) :
    W p l e R s m args below meth c H locs cells slots Q (F0 m pc ls st0) := by
  intro T hT X
  rcases hr T hT X with ⟨v, st₀, t, T', L, h0, X', hL, e1, e2, hF, st⟩ | ⟨q, st₀, t, T', L, E, ce, h0, X', hL, e1, e2, ⟨hE, hz, hk⟩, hce, hcv, hcl, st⟩
  · exact hF.elim
  · subst hE
    have hL0 : L = [] := List.eq_nil_iff_forall_not_mem.mpr hL
    subst hL0
    rw [List.append_nil] at X'
    rw [h0] at hz hk
    obtain ⟨t2, a1, b1⟩ := kx ce q T'.heap (by rw [e1]; exact hz) (fun q h => by rw [e1]; exact hk q h (Nat.not_le.mpr h)) (by rw [e1]; exact hce) hcv hcl T' rfl X'
    exact ⟨t2, st.trans a1, b1⟩
/-- it goes on to the caller, nothing written here -/
theorem jx_out {E0 : String} {Qc : Array Value → State → Outcome → State → Prop} {q : Addr} {ce : Cell} (hout : ∀ x ∈ c.exceptionTable.toList, False) (hlocks : meth.locks = false) (hz : s.heap.size ≤ H.size) (hk : ∀ q : Nat, q < s.heap.size → H[q]? = s.heap[q]?) (hcell : H[q]? = some ce) (hv : ce.vm = .none) (hcl : s.vm.findClass E0 = some ce.cls) (hc : cells ≤ mc) (hs : slots ≤ ms) :
    vx_W p l e R s m args below meth c H [] cells slots (vx_MQ below Qc (jx_X E0) args s mc ms (fun _ => False)) (F0 m pc ls rest) q :=
  vx_out (fun x hx => (hout x hx).elim) hlocks hcell hv hcl (fun t ht _ => ⟨rfl, by rw [ht]; exact hz, fun q h _ => by rw [ht]; exact hk q h⟩) (fun z hz => nomatch hz) hc hs
end JA
end
section
/-! new long[5][k]: our own rows. The outer array stands at h, its five rows behind it. -/
section JM
/-- the outer array when i rows are in -/
def jm_o (cQ : ClassId) (h i : Nat) : Cell := arrV cQ 5 (fun j => va_rf (if j < i then some (h + 1 + j) else none))
def jm_r (cL : ClassId) (k : Nat) : Cell := arrV cL k (fun _ => .long 0)
/-- the state when i rows are in -/
def jm_s (S : State) (cQ cL : ClassId) (k : Nat) : Nat → State
  | 0 => S.pushCell (jm_o cQ S.heap.size 0)
  | i + 1 => ((jm_s S cQ cL k i).pushCell (jm_r cL k)).setCell S.heap.size (jm_o cQ S.heap.size (i + 1))
theorem jm_o0 (cQ : ClassId) (h : Nat) : jm_o cQ h 0 = { cls := cQ, slots := Array.replicate 5 .null, vm := .none } := by
  rw [arrV_new]
  exact congrArg (arrV cQ 5) (funext fun j => by simp [va_rf])
theorem jm_oS (cQ : ClassId) (h i : Nat) : (jm_o cQ h i).setSlot i (.ref (h + 1 + i)) = jm_o cQ h (i + 1) := by
  unfold jm_o
  rw [arrV_store]
  refine congrArg (arrV cQ 5) (funext fun j => ?_)
  rcases Nat.lt_trichotomy j i with q | q | q
  · simp [updV, Nat.ne_of_lt q, q, Nat.lt_succ_of_lt q]
  · subst q
    simp [updV, va_rf]
  · simp [updV, Nat.ne_of_gt q, show ¬ j < i by omega, show ¬ j < i + 1 by omega]
theorem jm_r0 (cL : ClassId) (k : Nat) : jm_r cL k = { cls := cL, slots := Array.replicate k (.long 0), vm := .none } := (arrV_new _ _ _).symm
theorem jm_osz (cQ : ClassId) (h i : Nat) : (jm_o cQ h i).slots.size = 5 := arrV_size _ _ _
theorem jm_rsz (cL : ClassId) (k : Nat) : (jm_r cL k).slots.size = k := arrV_size _ _ _
theorem jm_facts (S : State) (cQ cL : ClassId) (k : Nat) : ∀ i, (jm_s S cQ cL k i).heap.size = S.heap.size + 1 + i ∧ (jm_s S cQ cL k i).heap[S.heap.size]? = some (jm_o cQ S.heap.size i) ∧ (jm_s S cQ cL k i).vm = S.vm ∧ (jm_s S cQ cL k i).slotsUsed = S.slotsUsed + 5 + i * k
  | 0 => ⟨by simp [jm_s], by simp [jm_s], rfl, by simp [jm_s, jm_osz]⟩
  | i + 1 => by
    obtain ⟨a, b, d, u⟩ := jm_facts S cQ cL k i
    have hlt : S.heap.size < (jm_s S cQ cL k i).heap.size := by omega
    have hb : ((jm_s S cQ cL k i).pushCell (jm_r cL k)).heap[S.heap.size]? = some (jm_o cQ S.heap.size i) := by rw [State.heap_pushCell_of_lt (h := hlt)]; exact b
    refine ⟨?_, State.heap_setCell_self hb, by simp [jm_s, d], ?_⟩
    · simp [jm_s, State.setCell, a]; omega
    · simp [jm_s, u, jm_rsz, Nat.succ_mul]; omega
theorem jm_top (S : State) (f : JFrame) (cQ cL : ClassId) (k : Nat) : ∀ i, jm_s (S.setTop f) cQ cL k i = (jm_s S cQ cL k i).setTop f
  | 0 => rfl
  | i + 1 => by simp only [jm_s, jm_top S f cQ cL k i, State.heap_setTop, State.pushCell_setTop, State.setCell_setTop]
theorem jm_old (S : State) (cQ cL : ClassId) (k : Nat) {a : Addr} (ha : a < S.heap.size) : ∀ i, (jm_s S cQ cL k i).heap[a]? = S.heap[a]?
  | 0 => State.heap_pushCell_of_lt _ _ ha
  | i + 1 => by
    have f1 := (jm_facts S cQ cL k i).1
    have hlt : a < (jm_s S cQ cL k i).heap.size := Nat.lt_of_lt_of_le ha (by rw [f1]; omega)
    show (((jm_s S cQ cL k i).pushCell (jm_r cL k)).setCell S.heap.size _).heap[a]? = _
    rw [State.heap_setCell_other (Nat.ne_of_gt ha), State.heap_pushCell_of_lt (h := hlt)]
    exact jm_old S cQ cL k ha i
theorem jm_row (S : State) (cQ cL : ClassId) (k : Nat) : ∀ i j, j < i → (jm_s S cQ cL k i).heap[S.heap.size + 1 + j]? = some (jm_r cL k)
  | 0, _, h => absurd h (Nat.not_lt_zero _)
  | i + 1, j, h => by
    have f1 := (jm_facts S cQ cL k i).1
    show (((jm_s S cQ cL k i).pushCell (jm_r cL k)).setCell S.heap.size _).heap[S.heap.size + 1 + j]? = _
    rw [State.heap_setCell_other (show S.heap.size ≠ S.heap.size + 1 + j by omega)]
    rcases Nat.lt_or_ge j i with hj | hj
    · have hlt : S.heap.size + 1 + j < (jm_s S cQ cL k i).heap.size := by rw [f1]; omega
      rw [State.heap_pushCell_of_lt (h := hlt)]
      exact jm_row S cQ cL k i j hj
    · obtain rfl : j = i := by omega
      rw [← f1]
      exact State.heap_pushCell_size _ _
section
variable {E : CtlPost} {e : Env} {d : Bool} {acts : List Action} {s : State}
theorem jm_newArray {q comp : ClassId} {z : Class} {ty : FieldType} {len : Nat} {v : Value} (hz : s.vm.classes[q]? = some z) (hk : z.kind = .array comp ty) (h1 : ¬ len > e.platform.arrayLengthLimit) (h2 : ¬ len * componentBytes ty > e.platform.maxHeapBytes) (hv : fits ty v = true) (hd : v.isDefault = true) {Q : Addr → Pre}
    (h3 : s.heap.size < e.platform.maxCells) (h4 : s.slotsUsed + len ≤ e.platform.maxSlots) (hq : Q s.heap.size d acts (s.pushCell { cls := q, slots := Array.replicate len v, vm := .none })) : wp (Jvm.newArray q len v) Q E e d acts s := by
  have hfit : ∀ i x, (Array.replicate len v)[i]? = some x → s.fitsSlot q .none i x = true := by
    intro i x hx
    simp only [Array.getElem?_replicate] at hx
    split at hx
    · cases hx; simp [State.fitsSlot, State.slotType?, hz, hk, hv]
    · cases hx
  have hact : allocActs (Array.replicate len v) s.heap.size acts = acts := by
    have hall : ((Array.replicate len v).all (·.isDefault)) = true := by
      rw [Array.all_replicate]; split <;> simp [hd]
    unfold allocActs; rw [if_pos hall]
  simp only [Jvm.newArray, Jvm.arrayFits, wp_bind', W.ask, W.ite, h1, if_false, wp_pure', W.theClass, hz, hk, h2, W.alloc, W.stop, Option.some.injEq, exists_eq_left', Array.size_replicate, hact]
  rw [if_neg (by omega)]
  exact ⟨h3, h4, hfit, hq⟩
theorem jm_make {cQ cL c0 : ClassId} {kQ kL : Class} {n : Int32} (hkQ : s.vm.classes[cQ]? = some kQ) (hQ : kQ.kind = .array cL (.array .long)) (hkL : s.vm.classes[cL]? = some kL) (hL : kL.kind = .array c0 .long) (hn : ¬ n < 0)
    (hl1 : ¬ 5 > e.platform.arrayLengthLimit) (hh1 : ¬ 5 * componentBytes (.array .long) > e.platform.maxHeapBytes) (hl2 : ¬ n.toNatClampNeg > e.platform.arrayLengthLimit) (hh2 : ¬ n.toNatClampNeg * componentBytes .long > e.platform.maxHeapBytes)
    (hc : s.heap.size + 6 ≤ e.platform.maxCells) (hs : s.slotsUsed + 5 + 5 * n.toNatClampNeg ≤ e.platform.maxSlots) {Q : Addr → Pre} (hq : ∀ d' acts', Q s.heap.size d' acts' (jm_s s cQ cL n.toNatClampNeg 5)) :
    wp (multianewarray.make cQ [5, n]) Q E e d acts s := by
  have hfind : ([n].find? (· < 0)) = none := by simp [hn]
  rw [multianewarray.make]
  simp only [wp_bind', W.ite, show ¬ (5 : Int32) < 0 by decide, if_false, wp_pure', W.theClass, hkQ, hQ, Option.some.injEq, exists_eq_left', show (5 : Int32).toNatClampNeg = 5 by decide]
  refine jm_newArray hkQ hQ hl1 hh1 rfl rfl (by omega) (by omega) ?_
  simp only [hfind]
  rw [ite_self, wp_bind', Std.Legacy.Range.forIn_eq_forIn_range']
  rw [show ([:5] : Std.Legacy.Range).size = 5 from rfl]
  show wp (forIn (List.range' 0 5 1) PUnit.unit _) _ E e d acts _
  rw [← jm_o0 cQ s.heap.size]
  refine wp_forIn_inv (fun rest s' => ∃ i, i ≤ 5 ∧ rest = List.range' i (5 - i) ∧ s' = jm_s s cQ cL n.toNatClampNeg i) _ _ ⟨0, by omega, rfl, rfl⟩ ?_ ?_
  · rintro x rest s' d' acts' Q' ⟨i, hi, hl, rfl⟩ hnext
    have hlt : i < 5 := by
      rcases Nat.lt_or_ge i 5 with h | h
      · exact h
      · rw [show 5 - i = 0 by omega] at hl; simp at hl
    rw [show 5 - i = (5 - (i + 1)) + 1 by omega, List.range'_succ] at hl
    obtain ⟨rfl, hrest⟩ := List.cons.inj hl
    obtain ⟨f1, f2, f3, f4⟩ := jm_facts s cQ cL n.toNatClampNeg x
    have hm : x * n.toNatClampNeg + n.toNatClampNeg ≤ 5 * n.toNatClampNeg := by
      have := Nat.mul_le_mul_right n.toNatClampNeg (show x + 1 ≤ 5 from hlt)
      rw [Nat.succ_mul] at this; exact this
    simp only [wp_bind']
    rw [multianewarray.make]
    simp only [wp_bind', W.ite, hn, if_false, wp_pure', W.theClass, f3, hkL, hL, Option.some.injEq, exists_eq_left']
    refine jm_newArray (by rw [f3]; exact hkL) hL hl2 hh2 rfl rfl (by rw [f1]; omega) (by rw [f4]; omega) ?_
    rw [show ({ cls := cL, slots := Array.replicate n.toNatClampNeg (defaultValue .long), vm := .none } : Cell) = jm_r cL n.toNatClampNeg from (jm_r0 ..).symm]
    have hlt0 : s.heap.size < (jm_s s cQ cL n.toNatClampNeg x).heap.size := by rw [f1]; omega
    simp only [wp_bind', W.writeLoc, wp_pure']
    refine ⟨jm_o cQ s.heap.size x, by rw [State.heap_pushCell_of_lt (h := hlt0)]; exact f2, (by intro h; cases h), by rw [jm_osz]; exact hlt, ?_, hnext _ _ _ ⟨x + 1, hlt, hrest, ?_⟩⟩
    · show State.fitsSlot _ cQ .none x _ = true
      simp [State.fitsSlot, State.slotType?, f3, hkQ, hQ, fits]
    · rw [f1, jm_oS]; rfl
  · rintro s' d' acts' ⟨i, hi, hl, rfl⟩
    obtain rfl : i = 5 := by
      rcases Nat.lt_or_ge i 5 with h | h
      · rw [show 5 - i = (5 - (i + 1)) + 1 by omega, List.range'_succ] at hl; cases hl
      · omega
    simp only [wp_pure']
    exact hq _ _
end
variable {p : Program} {l : Launch} {e : Env} {R : Room} {s : State} {m : MethodId} {args : Array Value} {below : List Frame} {meth : Method} {c : Code} {T : State} {H : Heap} {locs : List Loc} {cells slots : Nat} {Q : State → Prop}
theorem jm_stand (X : Stand p l e R s m args below meth c T locs cells slots) (cQ cL : ClassId) (k : Nat) : ∀ i, Stand p l e R s m args below meth c (jm_s T cQ cL k i) (locs ++ (List.range i).map fun j => ⟨T.heap.size, j⟩) (cells + 1 + i) (slots + 5 + i * k)
  | 0 => by
    have h := X.pushed (jm_o cQ T.heap.size 0)
    rw [jm_osz] at h
    simpa [jm_s] using h
  | i + 1 => by
    obtain ⟨f1, f2, f3, f4⟩ := jm_facts T cQ cL k i
    have hlt0 : T.heap.size < (jm_s T cQ cL k i).heap.size := by rw [f1]; omega
    have hcell : ((jm_s T cQ cL k i).pushCell (jm_r cL k)).heap[T.heap.size]? = some (jm_o cQ T.heap.size i) := by rw [State.heap_pushCell_of_lt (h := hlt0)]; exact f2
    have h := ((jm_stand X cQ cL k i).pushed (jm_r cL k)).stored hcell i (.ref (T.heap.size + 1 + i))
    rw [jm_rsz, jm_oS] at h
    have e2 : (locs ++ (List.range (i + 1)).map fun j => (⟨T.heap.size, j⟩ : Loc)) = (locs ++ (List.range i).map fun j => (⟨T.heap.size, j⟩ : Loc)) ++ [⟨T.heap.size, i⟩] := by simp [List.range_succ, List.append_assoc]
    rw [e2, show slots + 5 + (i + 1) * k = slots + 5 + i * k + k by rw [Nat.succ_mul]; omega]
    exact h
/-- what the tables say of the array of arrays -/
theorem jm_over {args : Array Value} {U : State} (h : (Cond.arrayOver (.array .long)).before args U = true) : ∃ comp q k, U.vm.findClass "[J" = some comp ∧ U.vm.classes[q]? = some k ∧ k.kind = .array comp (.array .long) ∧ U.vm.findClass "[[J" = some q := by
  simp only [Cond.before, Cond.holds, Cond.value, beq_iff_eq] at h
  cases hc : U.vm.findClass (FieldType.array .long).toString with
  | none => simp [hc] at h
  | some comp =>
    simp only [hc, Option.bind_some, Option.bind_eq_some_iff, Option.map_eq_some_iff] at h
    obtain ⟨q, hi, k, hk, hb⟩ := h
    obtain ⟨hlt, hp, -⟩ := Array.findIdx?_eq_some_iff_getElem.mp hi
    have hkk : U.vm.classes[q] = k := (Array.getElem?_eq_some_iff.mp hk).2
    rw [hkk] at hp
    cases hkind : k.kind with
    | array component ty =>
      rw [hkind] at hb hp
      simp at hb hp
      exact ⟨comp, q, k, hc, hk, by rw [hkind, hp, hb.1], hb.2⟩
    | _ => rw [hkind] at hb; simp at hb
theorem jm_D {A : Nat → Prop} {ws new : va_W} {N : Nat} (hD : va_D A ws) (hlt : ∀ (k : Nat) (x : Nat × va_E), ws[k]? = some x → x.1 < N) (hnew : ∀ (k : Nat) (x : Nat × va_E), new[k]? = some x → x.1 = N + k) (hA : ∀ q, N ≤ q → A q) : va_D A (ws ++ new) := by
  refine ⟨fun i j x y hi hj hxy => ?_, fun k x hx => ?_⟩
  · by_cases h1 : i < ws.length <;> by_cases h2 : j < ws.length
    · rw [List.getElem?_append_left h1] at hi
      rw [List.getElem?_append_left h2] at hj
      exact hD.1 i j x y hi hj hxy
    · rw [List.getElem?_append_left h1] at hi
      rw [List.getElem?_append_right (by omega)] at hj
      have := hlt _ _ hi
      have := hnew _ _ hj
      omega
    · rw [List.getElem?_append_right (by omega)] at hi
      rw [List.getElem?_append_left h2] at hj
      have := hlt _ _ hj
      have := hnew _ _ hi
      omega
    · rw [List.getElem?_append_right (by omega)] at hi hj
      have := hnew _ _ hi
      have := hnew _ _ hj
      omega
  · by_cases h1 : k < ws.length
    · rw [List.getElem?_append_left h1] at hx
      exact hD.2 k x hx
    · rw [List.getElem?_append_right (by omega)] at hx
      have := hnew _ _ hx
      exact hA _ (by omega)
/-- the cells of a new grid at q -/
def jm_w (cQ cL : ClassId) (K q : Nat) : va_W := [(q, .inl (cQ, 5, .inr (.inr (.inr (.inr fun j => if j < 5 then some (q + 1 + j) else none))))), (q + 1, .inl (cL, K, .inr (.inl fun _ => 0))), (q + 2, .inl (cL, K, .inr (.inl fun _ => 0))), (q + 3, .inl (cL, K, .inr (.inl fun _ => 0))), (q + 4, .inl (cL, K, .inr (.inl fun _ => 0))), (q + 5, .inl (cL, K, .inr (.inl fun _ => 0)))]
theorem jm_new {cc : ByteArray} {pc : Nat} {ls : Array Slot} {rest : List Value} {D : va_G} {cl : List vw_C} {A : Nat → Prop} {tys : List (ClassId × FieldType)} {w : va_W} {H0 : Heap} {cQ cL : ClassId} (hexec : p.tables.exec = Jvm.exec) (hb : c.code = cc) {own : String} {index : Nat} (hown : s.vm.findClass own = some m.cls) (hclink : (Cond.classLink own index "[[J").before args s = true)
    (hQ : ∃ k, s.vm.classes[cQ]? = some k ∧ k.kind = .array cL (.array .long)) (harr : (Cond.arrayClass .long).before args s = true) (hK : va_K D cl tys s) (tL tQ : Nat) (htL : tys[tL]? = some (cL, .long)) (htQ : tys[tQ]? = some (cQ, .array .long)) (hP : va_P D cl w H) (hD : va_D A w) (hS : va_S A H0 H locs) (hA : ∀ q, H0.size ≤ q → A q)
    {n : Int32} {K : Nat} (hn : ¬ n < 0) (hN : n.toNatClampNeg = K) (hK4 : K ≤ 400) (hcells : cells + 6 ≤ R.cells) (hslots : slots + (5 + 5 * K) ≤ R.slots) (hdg : decode cc pc = .ok (.multianewarray index 2, 4))
    (kk : ∀ (q : Nat) (H1 : Heap), va_P D cl (w ++ jm_w cQ cL K q) H1 → va_D A (w ++ jm_w cQ cL K q) → va_S A H0 H1 locs → W p l e R s m args below meth c H1 locs (cells + 6) (slots + (5 + 5 * K)) Q (F0 m (pc + 4) ls (.ref q :: rest))) :
    W p l e R s m args below meth c H locs cells slots Q (F0 m pc ls (.int n :: .int 5 :: rest)) := by
  subst hN
  intro T hT X
  have hpl : e.platform.magicAccessors = ({} : Platform).magicAccessors := by rw [X.admits.platform]
  obtain ⟨kQ, hkQ, hkindQ⟩ := hQ
  obtain ⟨cL', kL, c0, hfL, hkL, hkindL⟩ := Cond.arrayClass_spec harr
  have hL1 : s.vm.findClass ("[" ++ FieldType.long.toString) = some cL := (hK.2 tL _ htL).2
  cases Option.some.inj (hfL.symm.trans hL1)
  have hQ1 : s.vm.findClass ("[" ++ (FieldType.array .long).toString) = some cQ := (hK.2 tQ _ htQ).2
  obtain ⟨q0, hfc0, hcl⟩ := Cond.classLink_spec hown hclink e.platform hpl
  have hq0 : q0 = cQ := Option.some.inj (hfc0.symm.trans hQ1)
  subst hq0
  obtain ⟨hg₁, hwarm₁, hready₁⟩ := State.classEntry (e := e) X.warmed hcl
  generalize T.vm.noted m.cls index (.cls q0) = vm₁ at hg₁ hwarm₁ hready₁
  obtain ⟨kQ₁, hkQ₁, heQ⟩ := hwarm₁.alike.2.2 _ _ hkQ
  obtain ⟨kL₁, hkL₁, heL⟩ := hwarm₁.alike.2.2 _ _ hkL
  have hkindQ₁ : kQ₁.kind = .array cL (.array .long) := by rw [heQ]; exact hkindQ
  have hkindL₁ : kL₁.kind = .array c0 .long := by rw [heL]; exact hkindL
  have X₁ := X.noted hwarm₁
  obtain ⟨hr1, hr2⟩ := X.roomAbove hcells hslots
  have XF := jm_stand X₁ q0 cL n.toNatClampNeg 5
  have XG : Stand p l e R s m args below meth c (jm_s (T.setVm vm₁) q0 cL n.toNatClampNeg 5) locs (cells + 1 + 5) (slots + 5 + 5 * n.toNatClampNeg) := XF.dropFresh (fun x hx => by
    obtain ⟨j, -, rfl⟩ := List.mem_map.mp hx
    exact X₁.same.2.1)
  have hTh : (T.setVm vm₁).heap = H := hT
  obtain ⟨f1, f2, f3, f4⟩ := jm_facts (T.setVm vm₁) q0 cL n.toNatClampNeg 5
  have hold : ∀ x : Nat, x < H.size → (jm_s (T.setVm vm₁) q0 cL n.toNatClampNeg 5).heap[x]? = H[x]? := fun x hx => by
    rw [jm_old (T.setVm vm₁) q0 cL n.toNatClampNeg (by rw [hTh]; exact hx) 5, hTh]
  have hrow : ∀ j, j < 5 → (jm_s (T.setVm vm₁) q0 cL n.toNatClampNeg 5).heap[H.size + 1 + j]? = some (vp_cell cL (n.toNatClampNeg, .inr (.inl fun _ => 0))) := fun j hj => by
    have := jm_row (T.setVm vm₁) q0 cL n.toNatClampNeg 5 j hj
    rw [hTh] at this
    exact this
  rw [hTh] at f1 f2
  have hout : (jm_s (T.setVm vm₁) q0 cL n.toNatClampNeg 5).heap[H.size]? = some (vp_cell q0 (5, .inr (.inr (.inr (.inr fun j => if j < 5 then some (H.size + 1 + j) else none))))) := by
    rw [f2, vp_cell_q]
    rfl
  have hP1 : va_P D cl (w ++ jm_w q0 cL n.toNatClampNeg H.size) (jm_s (T.setVm vm₁) q0 cL n.toNatClampNeg 5).heap := by
    refine (hP.kept (fun k x hx => hold x.1 ((hP k x hx).lt))).app (fun k x hx => ?_)
    match k, hx with
    | 0, hx => cases hx; exact hout
    | 1, hx => cases hx; exact hrow 0 (by decide)
    | 2, hx => cases hx; exact hrow 1 (by decide)
    | 3, hx => cases hx; exact hrow 2 (by decide)
    | 4, hx => cases hx; exact hrow 3 (by decide)
    | 5, hx => cases hx; exact hrow 4 (by decide)
    | k + 6, hx => simp [jm_w] at hx
  have hD1 : va_D A (w ++ jm_w q0 cL n.toNatClampNeg H.size) := by
    refine jm_D hD (fun k x hx => (hP k x hx).lt) (fun k x hx => ?_) (fun q hq => hA q (Nat.le_trans hS.1 hq))
    match k, hx with
    | 0, hx => cases hx; rfl
    | 1, hx => cases hx; rfl
    | 2, hx => cases hx; rfl
    | 3, hx => cases hx; rfl
    | 4, hx => cases hx; rfl
    | 5, hx => cases hx; rfl
    | k + 6, hx => simp [jm_w] at hx
  obtain ⟨t, a1, b1⟩ := kk H.size _ hP1 hD1 ⟨by rw [f1]; have := hS.1; omega, fun x h1 h2 => (hold x (Nat.lt_of_lt_of_le h1 hS.1)).trans (hS.2.1 x h1 h2), hS.2.2⟩ _ rfl (by rw [show cells + 6 = cells + 1 + 5 by omega, show slots + (5 + 5 * n.toNatClampNeg) = slots + 5 + 5 * n.toNatClampNeg by omega]; exact XG)
  refine ⟨t, ?_, b1⟩
  have hdg' : decode c.code pc = .ok (.multianewarray index 2, 4) := by rw [hb]; exact hdg
  have hl1 : ¬ 5 > e.platform.arrayLengthLimit := by rw [Launch.admits_arrayLengthLimit X.admits]; omega
  have hh1 : ¬ 5 * componentBytes (.array .long) > e.platform.maxHeapBytes := by
    rw [Launch.admits_maxHeapBytes X.admits]; show ¬ 5 * 4 > 536870912; omega
  have hl2 : ¬ n.toNatClampNeg > e.platform.arrayLengthLimit := by rw [Launch.admits_arrayLengthLimit X.admits]; omega
  have hh2 : ¬ n.toNatClampNeg * componentBytes .long > e.platform.maxHeapBytes := by
    rw [Launch.admits_maxHeapBytes X.admits]; show ¬ n.toNatClampNeg * 8 > 536870912; omega
  jvm_step X.here [hexec, hdg']
  simp only [multianewarray.sem, wp_bind', W.resolveClassAt_links (State.method?_setTop (F0 m pc ls (.int n :: .int 5 :: rest)) X.here.top) hg₁]
  rw [W.popN, if_neg (by decide)]
  refine ⟨F0 m pc ls (.int n :: .int 5 :: rest), State.topJava?_setTop' (s := T.setVm vm₁) _ X.here.top, [.int 5, .int n], rest, rfl, rfl, ?_⟩
  simp only [List.mapM_cons, List.mapM_nil, wp_bind', wp_pure']
  refine jm_make (kQ := kQ₁) (kL := kL₁) (c0 := c0) hkQ₁ hkindQ₁ hkL₁ hkindL₁ hn hl1 hh1 hl2 hh2 (by show T.heap.size + 6 ≤ _; omega) (by show T.slotsUsed + 5 + _ ≤ _; omega) (fun d' acts' => ?_)
  have eS : ((T.setTop (F0 m pc ls (.int n :: .int 5 :: rest))).setVm vm₁).setTop (F0 m pc ls rest) = (T.setVm vm₁).setTop (F0 m pc ls rest) := by
    show ((T.setVm vm₁).setTop _).setTop _ = _
    rw [State.setTop_setTop]
  rw [eS, jm_top]
  simp only [wp_bind', W.mark, W.pushRef, State.topJava?_setTop' _ XG.here.top, Option.some.injEq, exists_eq_left', State.setTop_setTop, State.heap_setTop]
  intro acts
  simp [jvm, XG.here.top]
  rw [show T.heap.size = H.size by rw [hT]]
  exact a1
end JM
end
section
/-! ===== BEGIN printed: names, fields, word lists, decode rows ===== -/
def RX0 : String := "JoinDesk$Cursor"
def TX0 : u_T := fun k => match k with
  | 0 => ("JoinDesk$Cursor", "left", "LJoinDesk$Table;", true)
  | 1 => ("JoinDesk$Cursor", "right", "LJoinDesk$Table;", true)
  | 2 => ("JoinDesk$Cursor", "here", "LJoinDesk$Position;", true)
  | 3 => ("JoinDesk$Cursor", "marked", "LJoinDesk$Position;", true)
  | 4 => ("JoinDesk$Cursor", "hasMark", "Z", false)
  | 5 => ("JoinDesk$Cursor", "kind", "I", false)
  | _ => ("JoinDesk$Cursor", "cells", "J", false)
def tyX0 : Nat → FieldType := fun k => match k with
  | 0 => .object "JoinDesk$Table"
  | 1 => .object "JoinDesk$Table"
  | 2 => .object "JoinDesk$Position"
  | 3 => .object "JoinDesk$Position"
  | 4 => .boolean
  | 5 => .int
  | _ => .long
abbrev wsX00 : List Cond := u_ws RX0 TX0 7
theorem nmX0 : ∀ a, a < 7 → ∀ b, b < 7 → a ≠ b → (TX0 a).2.1 ≠ (TX0 b).2.1 := by decide +kernel
theorem tyX0_ok : ∀ k, k < 7 → parseFieldDescriptor (TX0 k).2.2.1 = some (tyX0 k) := by decide +kernel
abbrev cX0_init : ByteArray := prog_2_method_1_code
def yX0_init : MethodName := ⟨RX0, "<init>", "(LJoinDesk$Table;LJoinDesk$Table;)V"⟩
abbrev cX0_kindInUse : ByteArray := prog_2_method_2_code
def yX0_kindInUse : MethodName := ⟨RX0, "kindInUse", "()I"⟩
abbrev cX0_cellsRead : ByteArray := prog_2_method_3_code
def yX0_cellsRead : MethodName := ⟨RX0, "cellsRead", "()J"⟩
abbrev cX0_hasMark : ByteArray := prog_2_method_4_code
def yX0_hasMark : MethodName := ⟨RX0, "hasMark", "()Z"⟩
abbrev cX0_leftPlace : ByteArray := prog_2_method_5_code
def yX0_leftPlace : MethodName := ⟨RX0, "leftPlace", "()I"⟩
abbrev cX0_rightPlace : ByteArray := prog_2_method_6_code
def yX0_rightPlace : MethodName := ⟨RX0, "rightPlace", "()I"⟩
abbrev cX0_useKind : ByteArray := prog_2_method_7_code
def yX0_useKind : MethodName := ⟨RX0, "useKind", "(I)V"⟩
abbrev cX0_forgetMark : ByteArray := prog_2_method_8_code
def yX0_forgetMark : MethodName := ⟨RX0, "forgetMark", "()V"⟩
abbrev cX0_restart : ByteArray := prog_2_method_9_code
def yX0_restart : MethodName := ⟨RX0, "restart", "()V"⟩
abbrev cX0_setMark : ByteArray := prog_2_method_10_code
def yX0_setMark : MethodName := ⟨RX0, "setMark", "()I"⟩
abbrev cX0_goToMark : ByteArray := prog_2_method_11_code
def yX0_goToMark : MethodName := ⟨RX0, "goToMark", "()I"⟩
abbrev cX0_goOn : ByteArray := prog_2_method_12_code
def yX0_goOn : MethodName := ⟨RX0, "goOn", "()Z"⟩
abbrev cX0_goBefore : ByteArray := prog_2_method_13_code
def yX0_goBefore : MethodName := ⟨RX0, "goBefore", "(I)Z"⟩
abbrev cX0_rowsAhead : ByteArray := prog_2_method_14_code
def yX0_rowsAhead : MethodName := ⟨RX0, "rowsAhead", "()I"⟩
abbrev cX0_comeToNewKeys : ByteArray := prog_2_method_15_code
def yX0_comeToNewKeys : MethodName := ⟨RX0, "comeToNewKeys", "()V"⟩
abbrev cX0_firstOtherKey : ByteArray := prog_2_method_16_code
def yX0_firstOtherKey : MethodName := ⟨RX0, "firstOtherKey", "(LJoinDesk$Table;I)I"⟩
abbrev cX0_firstNotBelow : ByteArray := prog_2_method_17_code
def yX0_firstNotBelow : MethodName := ⟨RX0, "firstNotBelow", "(LJoinDesk$Table;I)I"⟩
abbrev cX0_readKey : ByteArray := prog_2_method_18_code
def yX0_readKey : MethodName := ⟨RX0, "readKey", "(LJoinDesk$Table;I)I"⟩
def RX1 : String := "JoinDesk$GroupBook"
def TX1 : u_T := fun k => match k with
  | 0 => ("JoinDesk$GroupBook", "room", "I", true)
  | 1 => ("JoinDesk$GroupBook", "facts", "[[J", true)
  | 2 => ("JoinDesk$GroupBook", "leftSpan", "LJoinDesk$Span;", true)
  | 3 => ("JoinDesk$GroupBook", "rightSpan", "LJoinDesk$Span;", true)
  | 4 => ("JoinDesk$GroupBook", "size", "I", false)
  | _ => ("JoinDesk$GroupBook", "told", "Z", false)
def tyX1 : Nat → FieldType := fun k => match k with
  | 0 => .int
  | 1 => .array (.array .long)
  | 2 => .object "JoinDesk$Span"
  | 3 => .object "JoinDesk$Span"
  | 4 => .int
  | _ => .boolean
abbrev wsX10 : List Cond := u_ws RX1 TX1 6
theorem nmX1 : ∀ a, a < 6 → ∀ b, b < 6 → a ≠ b → (TX1 a).2.1 ≠ (TX1 b).2.1 := by decide +kernel
theorem tyX1_ok : ∀ k, k < 6 → parseFieldDescriptor (TX1 k).2.2.1 = some (tyX1 k) := by decide +kernel
abbrev cX1_init : ByteArray := prog_3_method_1_code
def yX1_init : MethodName := ⟨RX1, "<init>", "(I)V"⟩
abbrev cX1_room : ByteArray := prog_3_method_2_code
def yX1_room : MethodName := ⟨RX1, "room", "()I"⟩
abbrev cX1_isTold : ByteArray := prog_3_method_3_code
def yX1_isTold : MethodName := ⟨RX1, "isTold", "()Z"⟩
abbrev cX1_has : ByteArray := prog_3_method_4_code
def yX1_has : MethodName := ⟨RX1, "has", "(I)Z"⟩
abbrev cX1_forget : ByteArray := prog_3_method_5_code
def yX1_forget : MethodName := ⟨RX1, "forget", "()V"⟩
abbrev cX1_fact : ByteArray := prog_3_method_6_code
def yX1_fact : MethodName := ⟨RX1, "fact", "(II)J"⟩
abbrev cX1_tell : ByteArray := prog_3_method_7_code
def yX1_tell : MethodName := ⟨RX1, "tell", "(LJoinDesk$Table;LJoinDesk$Table;)I"⟩
abbrev cX1_write : ByteArray := prog_3_method_8_code
def yX1_write : MethodName := ⟨RX1, "write", "(II)V"⟩
def RX2 : String := "JoinDesk$Position"
def TX2 : u_T := fun k => match k with
  | 0 => ("JoinDesk$Position", "leftFrom", "I", false)
  | 1 => ("JoinDesk$Position", "leftTo", "I", false)
  | 2 => ("JoinDesk$Position", "rightFrom", "I", false)
  | 3 => ("JoinDesk$Position", "rightTo", "I", false)
  | 4 => ("JoinDesk$Position", "leftAt", "I", false)
  | 5 => ("JoinDesk$Position", "rightAt", "I", false)
  | _ => ("JoinDesk$Position", "passed", "I", false)
def tyX2 : Nat → FieldType := fun k => match k with
  | 0 => .int
  | 1 => .int
  | 2 => .int
  | 3 => .int
  | 4 => .int
  | 5 => .int
  | _ => .int
abbrev wsX20 : List Cond := u_ws RX2 TX2 7
theorem nmX2 : ∀ a, a < 7 → ∀ b, b < 7 → a ≠ b → (TX2 a).2.1 ≠ (TX2 b).2.1 := by decide +kernel
theorem tyX2_ok : ∀ k, k < 7 → parseFieldDescriptor (TX2 k).2.2.1 = some (tyX2 k) := by decide +kernel
abbrev cX2_init : ByteArray := prog_4_method_1_code
def yX2_init : MethodName := ⟨RX2, "<init>", "()V"⟩
abbrev cX2_copy : ByteArray := prog_4_method_2_code
def yX2_copy : MethodName := ⟨RX2, "copy", "(LJoinDesk$Position;)V"⟩
abbrev cX2_stand : ByteArray := prog_4_method_3_code
def yX2_stand : MethodName := ⟨RX2, "stand", "(III)V"⟩
abbrev cX2_hasLeftRows : ByteArray := prog_4_method_4_code
def yX2_hasLeftRows : MethodName := ⟨RX2, "hasLeftRows", "()Z"⟩
abbrev cX2_hasRightRows : ByteArray := prog_4_method_5_code
def yX2_hasRightRows : MethodName := ⟨RX2, "hasRightRows", "()Z"⟩
abbrev cX2_fits : ByteArray := prog_4_method_6_code
def yX2_fits : MethodName := ⟨RX2, "fits", "(I)Z"⟩
abbrev cX2_enterFirstPair : ByteArray := prog_4_method_7_code
def yX2_enterFirstPair : MethodName := ⟨RX2, "enterFirstPair", "()V"⟩
abbrev cX2_enterNextPair : ByteArray := prog_4_method_8_code
def yX2_enterNextPair : MethodName := ⟨RX2, "enterNextPair", "()Z"⟩
def RX3 : String := "JoinDesk$Span"
def TX3 : u_T := fun k => match k with
  | 0 => ("JoinDesk$Span", "rows", "I", false)
  | 1 => ("JoinDesk$Span", "sum", "J", false)
  | 2 => ("JoinDesk$Span", "least", "J", false)
  | _ => ("JoinDesk$Span", "greatest", "J", false)
def tyX3 : Nat → FieldType := fun k => match k with
  | 0 => .int
  | 1 => .long
  | 2 => .long
  | _ => .long
abbrev wsX30 : List Cond := u_ws RX3 TX3 4
theorem nmX3 : ∀ a, a < 4 → ∀ b, b < 4 → a ≠ b → (TX3 a).2.1 ≠ (TX3 b).2.1 := by decide +kernel
theorem tyX3_ok : ∀ k, k < 4 → parseFieldDescriptor (TX3 k).2.2.1 = some (tyX3 k) := by decide +kernel
abbrev cX3_init : ByteArray := prog_5_method_1_code
def yX3_init : MethodName := ⟨RX3, "<init>", "()V"⟩
abbrev cX3_measure : ByteArray := prog_5_method_2_code
def yX3_measure : MethodName := ⟨RX3, "measure", "(LJoinDesk$Table;I)V"⟩
def RX4 : String := "JoinDesk$Table"
def TX4 : u_T := fun k => match k with
  | 0 => ("JoinDesk$Table", "room", "I", true)
  | 1 => ("JoinDesk$Table", "keys", "[I", true)
  | 2 => ("JoinDesk$Table", "values", "[I", true)
  | 3 => ("JoinDesk$Table", "order", "[I", true)
  | 4 => ("JoinDesk$Table", "partnerSums", "[I", true)
  | 5 => ("JoinDesk$Table", "loneSums", "[I", true)
  | 6 => ("JoinDesk$Table", "firstPartners", "[I", true)
  | 7 => ("JoinDesk$Table", "size", "I", false)
  | _ => ("JoinDesk$Table", "placed", "I", false)
def tyX4 : Nat → FieldType := fun k => match k with
  | 0 => .int
  | 1 => .array .int
  | 2 => .array .int
  | 3 => .array .int
  | 4 => .array .int
  | 5 => .array .int
  | 6 => .array .int
  | 7 => .int
  | _ => .int
abbrev wsX40 : List Cond := u_ws RX4 TX4 9
theorem nmX4 : ∀ a, a < 9 → ∀ b, b < 9 → a ≠ b → (TX4 a).2.1 ≠ (TX4 b).2.1 := by decide +kernel
theorem tyX4_ok : ∀ k, k < 9 → parseFieldDescriptor (TX4 k).2.2.1 = some (tyX4 k) := by decide +kernel
abbrev cX4_init : ByteArray := prog_6_method_1_code
def yX4_init : MethodName := ⟨RX4, "<init>", "(I)V"⟩
abbrev cX4_size : ByteArray := prog_6_method_2_code
def yX4_size : MethodName := ⟨RX4, "size", "()I"⟩
abbrev cX4_hasRoom : ByteArray := prog_6_method_3_code
def yX4_hasRoom : MethodName := ⟨RX4, "hasRoom", "()Z"⟩
abbrev cX4_has : ByteArray := prog_6_method_4_code
def yX4_has : MethodName := ⟨RX4, "has", "(I)Z"⟩
abbrev cX4_append : ByteArray := prog_6_method_5_code
def yX4_append : MethodName := ⟨RX4, "append", "(II)I"⟩
abbrev cX4_empty : ByteArray := prog_6_method_6_code
def yX4_empty : MethodName := ⟨RX4, "empty", "()V"⟩
abbrev cX4_keyAt : ByteArray := prog_6_method_7_code
def yX4_keyAt : MethodName := ⟨RX4, "keyAt", "(I)I"⟩
abbrev cX4_valueAt : ByteArray := prog_6_method_8_code
def yX4_valueAt : MethodName := ⟨RX4, "valueAt", "(I)I"⟩
abbrev cX4_numberAt : ByteArray := prog_6_method_9_code
def yX4_numberAt : MethodName := ⟨RX4, "numberAt", "(I)I"⟩
abbrev cX4_sortRows : ByteArray := prog_6_method_10_code
def yX4_sortRows : MethodName := ⟨RX4, "sortRows", "()V"⟩
abbrev cX4_putInOrder : ByteArray := prog_6_method_11_code
def yX4_putInOrder : MethodName := ⟨RX4, "putInOrder", "(I)V"⟩
abbrev cX4_findPartners : ByteArray := prog_6_method_12_code
def yX4_findPartners : MethodName := ⟨RX4, "findPartners", "(LJoinDesk$Table;)V"⟩
abbrev cX4_partnersBefore : ByteArray := prog_6_method_13_code
def yX4_partnersBefore : MethodName := ⟨RX4, "partnersBefore", "(I)I"⟩
abbrev cX4_loneBefore : ByteArray := prog_6_method_14_code
def yX4_loneBefore : MethodName := ⟨RX4, "loneBefore", "(I)I"⟩
abbrev cX4_firstPartnerOf : ByteArray := prog_6_method_15_code
def yX4_firstPartnerOf : MethodName := ⟨RX4, "firstPartnerOf", "(I)I"⟩
abbrev cX4_startsGroup : ByteArray := prog_6_method_16_code
def yX4_startsGroup : MethodName := ⟨RX4, "startsGroup", "(I)Z"⟩
abbrev cX4_groupStarts : ByteArray := prog_6_method_17_code
def yX4_groupStarts : MethodName := ⟨RX4, "groupStarts", "()I"⟩
def RX5 : String := "JoinDesk"
def TX5 : u_T := fun k => match k with
  | 0 => ("JoinDesk", "left", "LJoinDesk$Table;", true)
  | 1 => ("JoinDesk", "right", "LJoinDesk$Table;", true)
  | 2 => ("JoinDesk", "cursor", "LJoinDesk$Cursor;", true)
  | 3 => ("JoinDesk", "book", "LJoinDesk$GroupBook;", true)
  | _ => ("JoinDesk", "prepared", "Z", false)
def tyX5 : Nat → FieldType := fun k => match k with
  | 0 => .object "JoinDesk$Table"
  | 1 => .object "JoinDesk$Table"
  | 2 => .object "JoinDesk$Cursor"
  | 3 => .object "JoinDesk$GroupBook"
  | _ => .boolean
abbrev wsX50 : List Cond := u_ws RX5 TX5 5
theorem nmX5 : ∀ a, a < 5 → ∀ b, b < 5 → a ≠ b → (TX5 a).2.1 ≠ (TX5 b).2.1 := by decide +kernel
theorem tyX5_ok : ∀ k, k < 5 → parseFieldDescriptor (TX5 k).2.2.1 = some (tyX5 k) := by decide +kernel
abbrev cX5_init : ByteArray := prog_1_method_1_code
def yX5_init : MethodName := ⟨RX5, "<init>", "(III)V"⟩
abbrev cX5_add : ByteArray := prog_1_method_2_code
def yX5_add : MethodName := ⟨RX5, "add", "(ZII)I"⟩
abbrev cX5_prepare : ByteArray := prog_1_method_3_code
def yX5_prepare : MethodName := ⟨RX5, "prepare", "()V"⟩
abbrev cX5_kind : ByteArray := prog_1_method_4_code
def yX5_kind : MethodName := ⟨RX5, "kind", "(I)V"⟩
abbrev cX5_next : ByteArray := prog_1_method_5_code
def yX5_next : MethodName := ⟨RX5, "next", "()Z"⟩
abbrev cX5_pair : ByteArray := prog_1_method_6_code
def yX5_pair : MethodName := ⟨RX5, "pair", "(I)I"⟩
abbrev cX5_mark : ByteArray := prog_1_method_7_code
def yX5_mark : MethodName := ⟨RX5, "mark", "()I"⟩
abbrev cX5_back : ByteArray := prog_1_method_8_code
def yX5_back : MethodName := ⟨RX5, "back", "()I"⟩
abbrev cX5_seek : ByteArray := prog_1_method_9_code
def yX5_seek : MethodName := ⟨RX5, "seek", "(I)Z"⟩
abbrev cX5_rewind : ByteArray := prog_1_method_10_code
def yX5_rewind : MethodName := ⟨RX5, "rewind", "()V"⟩
abbrev cX5_count : ByteArray := prog_1_method_11_code
def yX5_count : MethodName := ⟨RX5, "count", "(I)J"⟩
abbrev cX5_rows : ByteArray := prog_1_method_12_code
def yX5_rows : MethodName := ⟨RX5, "rows", "(ZZ)I"⟩
abbrev cX5_groups : ByteArray := prog_1_method_13_code
def yX5_groups : MethodName := ⟨RX5, "groups", "()I"⟩
abbrev cX5_group : ByteArray := prog_1_method_14_code
def yX5_group : MethodName := ⟨RX5, "group", "(II)J"⟩
abbrev cX5_sorted : ByteArray := prog_1_method_15_code
def yX5_sorted : MethodName := ⟨RX5, "sorted", "(ZII)I"⟩
abbrev cX5_about : ByteArray := prog_1_method_16_code
def yX5_about : MethodName := ⟨RX5, "about", "(I)J"⟩
abbrev cX5_clear : ByteArray := prog_1_method_17_code
def yX5_clear : MethodName := ⟨RX5, "clear", "()V"⟩
abbrev cX5_tableOf : ByteArray := prog_1_method_18_code
def yX5_tableOf : MethodName := ⟨RX5, "tableOf", "(Z)LJoinDesk$Table;"⟩
abbrev cX5_roomFor : ByteArray := prog_1_method_19_code
def yX5_roomFor : MethodName := ⟨RX5, "roomFor", "(I)I"⟩
abbrev cX5_isBelow : ByteArray := prog_1_method_20_code
def yX5_isBelow : MethodName := ⟨RX5, "isBelow", "(II)Z"⟩
abbrev cX5_requireArgument : ByteArray := prog_1_method_21_code
def yX5_requireArgument : MethodName := ⟨RX5, "requireArgument", "(Z)V"⟩
abbrev cX5_requireState : ByteArray := prog_1_method_22_code
def yX5_requireState : MethodName := ⟨RX5, "requireState", "(Z)V"⟩
abbrev cX5_pairsBefore : ByteArray := prog_1_method_23_code
def yX5_pairsBefore : MethodName := ⟨RX5, "pairsBefore", "(LJoinDesk$Table;LJoinDesk$Table;III)I"⟩
def RX6 : String := "JoinDeskModel"
def TX6 : u_T := fun k => match k with
  | 0 => ("JoinDeskModel", "code", "I", false)
  | 1 => ("JoinDeskModel", "most", "[I", true)
  | 2 => ("JoinDeskModel", "room", "I", true)
  | 3 => ("JoinDeskModel", "keys", "[I", true)
  | 4 => ("JoinDeskModel", "values", "[I", true)
  | 5 => ("JoinDeskModel", "order", "[I", true)
  | 6 => ("JoinDeskModel", "many", "[I", true)
  | 7 => ("JoinDeskModel", "prepared", "Z", false)
  | 8 => ("JoinDeskModel", "grouped", "Z", false)
  | 9 => ("JoinDeskModel", "kind", "I", false)
  | 10 => ("JoinDeskModel", "cells", "J", false)
  | 11 => ("JoinDeskModel", "at", "[I", true)
  | 12 => ("JoinDeskModel", "marked", "Z", false)
  | 13 => ("JoinDeskModel", "least", "J", false)
  | _ => ("JoinDeskModel", "greatest", "J", false)
def tyX6 : Nat → FieldType := fun k => match k with
  | 0 => .int
  | 1 => .array .int
  | 2 => .int
  | 3 => .array .int
  | 4 => .array .int
  | 5 => .array .int
  | 6 => .array .int
  | 7 => .boolean
  | 8 => .boolean
  | 9 => .int
  | 10 => .long
  | 11 => .array .int
  | 12 => .boolean
  | 13 => .long
  | _ => .long
abbrev wsX60 : List Cond := u_ws RX6 TX6 15
theorem nmX6 : ∀ a, a < 15 → ∀ b, b < 15 → a ≠ b → (TX6 a).2.1 ≠ (TX6 b).2.1 := by decide +kernel
theorem tyX6_ok : ∀ k, k < 15 → parseFieldDescriptor (TX6 k).2.2.1 = some (tyX6 k) := by decide +kernel
abbrev cX6_init : ByteArray := prog_8_method_1_code
def yX6_init : MethodName := ⟨RX6, "<init>", "(III)V"⟩
abbrev cX6_between : ByteArray := prog_8_method_2_code
def yX6_between : MethodName := ⟨RX6, "between", "(I)I"⟩
abbrev cX6_thrown : ByteArray := prog_8_method_3_code
def yX6_thrown : MethodName := ⟨RX6, "thrown", "()I"⟩
abbrev cX6_refuses : ByteArray := prog_8_method_4_code
def yX6_refuses : MethodName := ⟨RX6, "refuses", "(I)Z"⟩
abbrev cX6_key : ByteArray := prog_8_method_5_code
def yX6_key : MethodName := ⟨RX6, "key", "(II)I"⟩
abbrev cX6_value : ByteArray := prog_8_method_6_code
def yX6_value : MethodName := ⟨RX6, "value", "(II)I"⟩
abbrev cX6_begins : ByteArray := prog_8_method_7_code
def yX6_begins : MethodName := ⟨RX6, "begins", "()V"⟩
abbrev cX6_add : ByteArray := prog_8_method_8_code
def yX6_add : MethodName := ⟨RX6, "add", "(ZII)I"⟩
abbrev cX6_prepare : ByteArray := prog_8_method_9_code
def yX6_prepare : MethodName := ⟨RX6, "prepare", "()V"⟩
abbrev cX6_kind : ByteArray := prog_8_method_10_code
def yX6_kind : MethodName := ⟨RX6, "kind", "(I)V"⟩
abbrev cX6_tells : ByteArray := prog_8_method_11_code
def yX6_tells : MethodName := ⟨RX6, "tells", "(II)Z"⟩
abbrev cX6_goes : ByteArray := prog_8_method_12_code
def yX6_goes : MethodName := ⟨RX6, "goes", "(I)V"⟩
abbrev cX6_steps : ByteArray := prog_8_method_13_code
def yX6_steps : MethodName := ⟨RX6, "steps", "()Z"⟩
abbrev cX6_next : ByteArray := prog_8_method_14_code
def yX6_next : MethodName := ⟨RX6, "next", "()Z"⟩
abbrev cX6_pair : ByteArray := prog_8_method_15_code
def yX6_pair : MethodName := ⟨RX6, "pair", "(I)I"⟩
abbrev cX6_mark : ByteArray := prog_8_method_16_code
def yX6_mark : MethodName := ⟨RX6, "mark", "()I"⟩
abbrev cX6_back : ByteArray := prog_8_method_17_code
def yX6_back : MethodName := ⟨RX6, "back", "()I"⟩
abbrev cX6_rowsOf : ByteArray := prog_8_method_18_code
def yX6_rowsOf : MethodName := ⟨RX6, "rowsOf", "(II)I"⟩
abbrev cX6_pairs : ByteArray := prog_8_method_19_code
def yX6_pairs : MethodName := ⟨RX6, "pairs", "(IZJ)J"⟩
abbrev cX6_seek : ByteArray := prog_8_method_20_code
def yX6_seek : MethodName := ⟨RX6, "seek", "(I)Z"⟩
abbrev cX6_rewind : ByteArray := prog_8_method_21_code
def yX6_rewind : MethodName := ⟨RX6, "rewind", "()V"⟩
abbrev cX6_count : ByteArray := prog_8_method_22_code
def yX6_count : MethodName := ⟨RX6, "count", "(I)J"⟩
abbrev cX6_rows : ByteArray := prog_8_method_23_code
def yX6_rows : MethodName := ⟨RX6, "rows", "(ZZ)I"⟩
abbrev cX6_groupAt : ByteArray := prog_8_method_24_code
def yX6_groupAt : MethodName := ⟨RX6, "groupAt", "(I)I"⟩
abbrev cX6_groups : ByteArray := prog_8_method_25_code
def yX6_groups : MethodName := ⟨RX6, "groups", "()I"⟩
abbrev cX6_group : ByteArray := prog_8_method_26_code
def yX6_group : MethodName := ⟨RX6, "group", "(II)J"⟩
abbrev cX6_sorted : ByteArray := prog_8_method_27_code
def yX6_sorted : MethodName := ⟨RX6, "sorted", "(ZII)I"⟩
abbrev cX6_about : ByteArray := prog_8_method_28_code
def yX6_about : MethodName := ⟨RX6, "about", "(I)J"⟩
abbrev cX6_clear : ByteArray := prog_8_method_29_code
def yX6_clear : MethodName := ⟨RX6, "clear", "()V"⟩
def RJ9 : String := "java/lang/Math"
def TJ9 : u_T := fun k => match k with
  | _ => ("", "", "", false)
def tyJ9 : Nat → FieldType := fun k => match k with
  | _ => .int
abbrev wsJ90 : List Cond := u_ws RJ9 TJ9 0
theorem nmJ9 : ∀ a, a < 0 → ∀ b, b < 0 → a ≠ b → (TJ9 a).2.1 ≠ (TJ9 b).2.1 := by decide +kernel
theorem tyJ9_ok : ∀ k, k < 0 → parseFieldDescriptor (TJ9 k).2.2.1 = some (tyJ9 k) := by decide +kernel
abbrev cJ9_max_7cf53 : ByteArray := prog_12_method_65_code
def yJ9_max_7cf53 : MethodName := ⟨RJ9, "max", "(II)I"⟩
abbrev cJ9_max_f86c9 : ByteArray := prog_12_method_66_code
def yJ9_max_f86c9 : MethodName := ⟨RJ9, "max", "(JJ)J"⟩
abbrev cJ9_min_7cf53 : ByteArray := prog_12_method_69_code
def yJ9_min_7cf53 : MethodName := ⟨RJ9, "min", "(II)I"⟩
abbrev cJ9_min_f86c9 : ByteArray := prog_12_method_70_code
def yJ9_min_f86c9 : MethodName := ⟨RJ9, "min", "(JJ)J"⟩
def RJ0 : String := "java/lang/String"
def TJ0 : u_T := fun k => match k with
  | _ => ("", "", "", false)
def tyJ0 : Nat → FieldType := fun k => match k with
  | _ => .int
abbrev wsJ00 : List Cond := u_ws RJ0 TJ0 0
theorem nmJ0 : ∀ a, a < 0 → ∀ b, b < 0 → a ≠ b → (TJ0 a).2.1 ≠ (TJ0 b).2.1 := by decide +kernel
theorem tyJ0_ok : ∀ k, k < 0 → parseFieldDescriptor (TJ0 k).2.2.1 = some (tyJ0 k) := by decide +kernel
def RL : String := "JoinDeskLaw"
abbrev cL_cell : ByteArray := method_2_code
def yL_cell : MethodName := ⟨RL, "cell", "([II)I"⟩
abbrev cL_add : ByteArray := method_3_code
def yL_add : MethodName := ⟨RL, "add", "(LJoinDesk;ZII[J)I"⟩
abbrev cL_kind : ByteArray := method_4_code
def yL_kind : MethodName := ⟨RL, "kind", "(LJoinDesk;I)I"⟩
abbrev cL_next : ByteArray := method_5_code
def yL_next : MethodName := ⟨RL, "next", "(LJoinDesk;[J)I"⟩
abbrev cL_pair : ByteArray := method_6_code
def yL_pair : MethodName := ⟨RL, "pair", "(LJoinDesk;I[J)I"⟩
abbrev cL_mark : ByteArray := method_7_code
def yL_mark : MethodName := ⟨RL, "mark", "(LJoinDesk;[J)I"⟩
abbrev cL_back : ByteArray := method_8_code
def yL_back : MethodName := ⟨RL, "back", "(LJoinDesk;[J)I"⟩
abbrev cL_seek : ByteArray := method_9_code
def yL_seek : MethodName := ⟨RL, "seek", "(LJoinDesk;I[J)I"⟩
abbrev cL_rewind : ByteArray := method_10_code
def yL_rewind : MethodName := ⟨RL, "rewind", "(LJoinDesk;)I"⟩
abbrev cL_count : ByteArray := method_11_code
def yL_count : MethodName := ⟨RL, "count", "(LJoinDesk;I[J)I"⟩
abbrev cL_rows : ByteArray := method_12_code
def yL_rows : MethodName := ⟨RL, "rows", "(LJoinDesk;ZZ[J)I"⟩
abbrev cL_groups : ByteArray := method_13_code
def yL_groups : MethodName := ⟨RL, "groups", "(LJoinDesk;[J)I"⟩
abbrev cL_group : ByteArray := method_14_code
def yL_group : MethodName := ⟨RL, "group", "(LJoinDesk;II[J)I"⟩
abbrev cL_sorted : ByteArray := method_15_code
def yL_sorted : MethodName := ⟨RL, "sorted", "(LJoinDesk;ZII[J)I"⟩
abbrev cL_about : ByteArray := method_16_code
def yL_about : MethodName := ⟨RL, "about", "(LJoinDesk;I[J)I"⟩
abbrev cL_law : ByteArray := code
def yL_law : MethodName := ⟨RL, "law", "([I)Z"⟩
def wsX2_init : List Cond := .code yX2_init cX2_init 1 none :: ([.methodLink RX2 3 objectInit, .instanceMethod objectInit, .code objectInit ⟨#[0xb1]⟩ 1 none, .fieldLink RX2 9 "JoinDesk$Position" "leftAt" "I", .fieldLink RX2 15 "JoinDesk$Position" "rightAt" "I"] ++ wsX20)
def wsX0_init : List Cond := .code yX0_init cX0_init 3 none :: ([.methodLink RX0 3 objectInit, .instanceMethod objectInit, .code objectInit ⟨#[0xb1]⟩ 1 none, .fieldLink RX0 9 "JoinDesk$Cursor" "left" "LJoinDesk$Table;", .fieldLink RX0 15 "JoinDesk$Cursor" "right" "LJoinDesk$Table;", .classLink RX0 18 RX2, .instantiable RX2 7, .initialized RX2, .fieldLink RX0 21 "JoinDesk$Cursor" "here" "LJoinDesk$Position;", .fieldLink RX0 25 "JoinDesk$Cursor" "marked" "LJoinDesk$Position;", .fieldLink RX0 28 "JoinDesk$Cursor" "hasMark" "Z", .fieldLink RX0 32 "JoinDesk$Cursor" "kind" "I", .fieldLink RX0 36 "JoinDesk$Cursor" "cells" "J", .methodLink RX0 20 yX2_init, .instanceMethod yX2_init, .code yX2_init cX2_init 1 none, .methodLink RX2 3 objectInit, .fieldLink RX2 9 "JoinDesk$Position" "leftAt" "I", .fieldLink RX2 15 "JoinDesk$Position" "rightAt" "I"] ++ wsX00 ++ wsX20)
def wsX0_kindInUse : List Cond := .code yX0_kindInUse cX0_kindInUse 1 (some .int) :: ([.fieldLink RX0 32 "JoinDesk$Cursor" "kind" "I"] ++ wsX00)
def wsX0_cellsRead : List Cond := .code yX0_cellsRead cX0_cellsRead 1 (some .long) :: ([.fieldLink RX0 36 "JoinDesk$Cursor" "cells" "J"] ++ wsX00)
def wsX0_hasMark : List Cond := .code yX0_hasMark cX0_hasMark 1 (some .boolean) :: ([.fieldLink RX0 28 "JoinDesk$Cursor" "hasMark" "Z"] ++ wsX00)
def wsX0_leftPlace : List Cond := .code yX0_leftPlace cX0_leftPlace 1 (some .int) :: ([.fieldLink RX0 21 "JoinDesk$Cursor" "here" "LJoinDesk$Position;"] ++ wsX00 ++ wsX20)
def wsX0_rightPlace : List Cond := .code yX0_rightPlace cX0_rightPlace 1 (some .int) :: ([.fieldLink RX0 21 "JoinDesk$Cursor" "here" "LJoinDesk$Position;"] ++ wsX00 ++ wsX20)
def wsX0_useKind : List Cond := .code yX0_useKind cX0_useKind 2 none :: ([.fieldLink RX0 32 "JoinDesk$Cursor" "kind" "I"] ++ wsX00)
def wsX0_forgetMark : List Cond := .code yX0_forgetMark cX0_forgetMark 1 none :: ([.fieldLink RX0 28 "JoinDesk$Cursor" "hasMark" "Z"] ++ wsX00)
def wsX2_stand : List Cond := .code yX2_stand cX2_stand 4 none :: ([.fieldLink RX2 18 "JoinDesk$Position" "leftFrom" "I", .fieldLink RX2 21 "JoinDesk$Position" "leftTo" "I", .fieldLink RX2 24 "JoinDesk$Position" "rightFrom" "I", .fieldLink RX2 27 "JoinDesk$Position" "rightTo" "I", .fieldLink RX2 9 "JoinDesk$Position" "leftAt" "I", .fieldLink RX2 15 "JoinDesk$Position" "rightAt" "I", .fieldLink RX2 30 "JoinDesk$Position" "passed" "I"] ++ wsX20)
def wsX0_restart : List Cond := .code yX0_restart cX0_restart 1 none :: ([.fieldLink RX0 21 "JoinDesk$Cursor" "here" "LJoinDesk$Position;", .fieldLink RX0 36 "JoinDesk$Cursor" "cells" "J", .methodLink RX0 46 yX2_stand, .instanceMethod yX2_stand, .selects RX2 yX2_stand yX2_stand, .initialized RX2, .code yX2_stand cX2_stand 4 none, .fieldLink RX2 18 "JoinDesk$Position" "leftFrom" "I", .fieldLink RX2 21 "JoinDesk$Position" "leftTo" "I", .fieldLink RX2 24 "JoinDesk$Position" "rightFrom" "I", .fieldLink RX2 27 "JoinDesk$Position" "rightTo" "I", .fieldLink RX2 9 "JoinDesk$Position" "leftAt" "I", .fieldLink RX2 15 "JoinDesk$Position" "rightAt" "I", .fieldLink RX2 30 "JoinDesk$Position" "passed" "I"] ++ wsX00 ++ wsX20)
def wsX2_copy : List Cond := .code yX2_copy cX2_copy 2 none :: ([.fieldLink RX2 18 "JoinDesk$Position" "leftFrom" "I", .fieldLink RX2 21 "JoinDesk$Position" "leftTo" "I", .fieldLink RX2 24 "JoinDesk$Position" "rightFrom" "I", .fieldLink RX2 27 "JoinDesk$Position" "rightTo" "I", .fieldLink RX2 9 "JoinDesk$Position" "leftAt" "I", .fieldLink RX2 15 "JoinDesk$Position" "rightAt" "I", .fieldLink RX2 30 "JoinDesk$Position" "passed" "I"] ++ wsX20)
def wsX0_setMark : List Cond := .code yX0_setMark cX0_setMark 1 (some .int) :: ([.fieldLink RX0 25 "JoinDesk$Cursor" "marked" "LJoinDesk$Position;", .fieldLink RX0 21 "JoinDesk$Cursor" "here" "LJoinDesk$Position;", .fieldLink RX0 28 "JoinDesk$Cursor" "hasMark" "Z", .methodLink RX0 50 yX2_copy, .instanceMethod yX2_copy, .selects RX2 yX2_copy yX2_copy, .initialized RX2, .code yX2_copy cX2_copy 2 none, .fieldLink RX2 18 "JoinDesk$Position" "leftFrom" "I", .fieldLink RX2 21 "JoinDesk$Position" "leftTo" "I", .fieldLink RX2 24 "JoinDesk$Position" "rightFrom" "I", .fieldLink RX2 27 "JoinDesk$Position" "rightTo" "I", .fieldLink RX2 9 "JoinDesk$Position" "leftAt" "I", .fieldLink RX2 15 "JoinDesk$Position" "rightAt" "I", .fieldLink RX2 30 "JoinDesk$Position" "passed" "I"] ++ wsX00 ++ wsX20)
def wsX0_goToMark : List Cond := .code yX0_goToMark cX0_goToMark 1 (some .int) :: ([.fieldLink RX0 21 "JoinDesk$Cursor" "here" "LJoinDesk$Position;", .fieldLink RX0 25 "JoinDesk$Cursor" "marked" "LJoinDesk$Position;", .methodLink RX0 50 yX2_copy, .instanceMethod yX2_copy, .selects RX2 yX2_copy yX2_copy, .initialized RX2, .code yX2_copy cX2_copy 2 none, .fieldLink RX2 18 "JoinDesk$Position" "leftFrom" "I", .fieldLink RX2 21 "JoinDesk$Position" "leftTo" "I", .fieldLink RX2 24 "JoinDesk$Position" "rightFrom" "I", .fieldLink RX2 27 "JoinDesk$Position" "rightTo" "I", .fieldLink RX2 9 "JoinDesk$Position" "leftAt" "I", .fieldLink RX2 15 "JoinDesk$Position" "rightAt" "I", .fieldLink RX2 30 "JoinDesk$Position" "passed" "I"] ++ wsX00 ++ wsX20)
def wsX2_hasRightRows : List Cond := .code yX2_hasRightRows cX2_hasRightRows 1 (some .boolean) :: ([.fieldLink RX2 24 "JoinDesk$Position" "rightFrom" "I", .fieldLink RX2 27 "JoinDesk$Position" "rightTo" "I"] ++ wsX20)
def wsX2_enterNextPair : List Cond := .code yX2_enterNextPair cX2_enterNextPair 1 (some .boolean) :: ([.fieldLink RX2 15 "JoinDesk$Position" "rightAt" "I", .fieldLink RX2 27 "JoinDesk$Position" "rightTo" "I", .fieldLink RX2 9 "JoinDesk$Position" "leftAt" "I", .fieldLink RX2 21 "JoinDesk$Position" "leftTo" "I", .fieldLink RX2 24 "JoinDesk$Position" "rightFrom" "I", .fieldLink RX2 30 "JoinDesk$Position" "passed" "I", .methodLink RX2 33 yX2_hasRightRows, .instanceMethod yX2_hasRightRows, .selects RX2 yX2_hasRightRows yX2_hasRightRows, .initialized RX2, .code yX2_hasRightRows cX2_hasRightRows 1 (some .boolean)] ++ wsX20)
def wsX4_size : List Cond := .code yX4_size cX4_size 1 (some .int) :: ([.fieldLink RX4 34 "JoinDesk$Table" "size" "I"] ++ wsX40)
def wsX0_rowsAhead : List Cond := .code yX0_rowsAhead cX0_rowsAhead 1 (some .int) :: ([.fieldLink RX0 9 "JoinDesk$Cursor" "left" "LJoinDesk$Table;", .fieldLink RX0 21 "JoinDesk$Cursor" "here" "LJoinDesk$Position;", .fieldLink RX0 15 "JoinDesk$Cursor" "right" "LJoinDesk$Table;", .methodLink RX0 89 yX4_size, .instanceMethod yX4_size, .selects RX4 yX4_size yX4_size, .initialized RX4, .code yX4_size cX4_size 1 (some .int), .fieldLink RX4 34 "JoinDesk$Table" "size" "I"] ++ wsX00 ++ wsX20 ++ wsX40)
def wsX4_has : List Cond := .code yX4_has cX4_has 2 (some .boolean) :: ([.fieldLink RX4 34 "JoinDesk$Table" "size" "I"] ++ wsX40)
def wsX4_keyAt : List Cond := .code yX4_keyAt cX4_keyAt 2 (some .int) :: ([.fieldLink RX4 15 "JoinDesk$Table" "keys" "[I", .fieldLink RX4 22 "JoinDesk$Table" "order" "[I", .methodLink RX4 44 yX4_has, .instanceMethod yX4_has, .selects RX4 yX4_has yX4_has, .initialized RX4, .code yX4_has cX4_has 2 (some .boolean), .fieldLink RX4 34 "JoinDesk$Table" "size" "I"] ++ wsX40)
def wsX0_readKey : List Cond := .code yX0_readKey cX0_readKey 3 (some .int) :: ([.fieldLink RX0 36 "JoinDesk$Cursor" "cells" "J", .methodLink RX0 109 yX4_keyAt, .instanceMethod yX4_keyAt, .selects RX4 yX4_keyAt yX4_keyAt, .initialized RX4, .code yX4_keyAt cX4_keyAt 2 (some .int), .fieldLink RX4 15 "JoinDesk$Table" "keys" "[I", .fieldLink RX4 22 "JoinDesk$Table" "order" "[I", .methodLink RX4 44 yX4_has, .instanceMethod yX4_has, .selects RX4 yX4_has yX4_has, .code yX4_has cX4_has 2 (some .boolean), .fieldLink RX4 34 "JoinDesk$Table" "size" "I"] ++ wsX00 ++ wsX40)
def wsX0_firstOtherKey : List Cond := .code yX0_firstOtherKey cX0_firstOtherKey 5 (some .int) :: ([.methodLink RX0 97 yX0_readKey, .instanceMethod yX0_readKey, .selects RX0 yX0_readKey yX0_readKey, .initialized RX0, .code yX0_readKey cX0_readKey 3 (some .int), .fieldLink RX0 36 "JoinDesk$Cursor" "cells" "J", .methodLink RX0 109 yX4_keyAt, .instanceMethod yX4_keyAt, .selects RX4 yX4_keyAt yX4_keyAt, .initialized RX4, .code yX4_keyAt cX4_keyAt 2 (some .int), .fieldLink RX4 15 "JoinDesk$Table" "keys" "[I", .fieldLink RX4 22 "JoinDesk$Table" "order" "[I", .methodLink RX4 44 yX4_has, .instanceMethod yX4_has, .selects RX4 yX4_has yX4_has, .code yX4_has cX4_has 2 (some .boolean), .fieldLink RX4 34 "JoinDesk$Table" "size" "I", .methodLink RX0 89 yX4_size, .instanceMethod yX4_size, .selects RX4 yX4_size yX4_size, .code yX4_size cX4_size 1 (some .int)] ++ wsX00 ++ wsX40)
def wsX0_comeToNewKeys_r1 : List Cond := [Cond.fieldLink RX0 9 "JoinDesk$Cursor" "left" "LJoinDesk$Table;", Cond.fieldLink RX0 21 "JoinDesk$Cursor" "here" "LJoinDesk$Position;", Cond.fieldLink RX0 15 "JoinDesk$Cursor" "right" "LJoinDesk$Table;", Cond.methodLink RX0 94 yX4_has, Cond.instanceMethod yX4_has, Cond.selects RX4 yX4_has yX4_has, Cond.initialized RX4, Cond.code yX4_has cX4_has 2 (some .boolean), Cond.fieldLink RX4 34 "JoinDesk$Table" "size" "I", Cond.methodLink RX0 97 yX0_readKey, Cond.instanceMethod yX0_readKey, Cond.selects RX0 yX0_readKey yX0_readKey, Cond.initialized RX0, Cond.code yX0_readKey cX0_readKey 3 (some .int), Cond.fieldLink RX0 36 "JoinDesk$Cursor" "cells" "J", Cond.methodLink RX0 109 yX4_keyAt, Cond.instanceMethod yX4_keyAt, Cond.selects RX4 yX4_keyAt yX4_keyAt, Cond.code yX4_keyAt cX4_keyAt 2 (some .int), Cond.fieldLink RX4 15 "JoinDesk$Table" "keys" "[I", Cond.fieldLink RX4 22 "JoinDesk$Table" "order" "[I", Cond.methodLink RX4 44 yX4_has, Cond.methodLink RX0 106 yX0_firstOtherKey, Cond.instanceMethod yX0_firstOtherKey]
def wsX0_comeToNewKeys_r2 : List Cond := [Cond.selects RX0 yX0_firstOtherKey yX0_firstOtherKey, Cond.code yX0_firstOtherKey cX0_firstOtherKey 5 (some .int), Cond.methodLink RX0 89 yX4_size, Cond.instanceMethod yX4_size, Cond.selects RX4 yX4_size yX4_size, Cond.code yX4_size cX4_size 1 (some .int)]
def wsX0_comeToNewKeys : List Cond := .code yX0_comeToNewKeys cX0_comeToNewKeys 5 none :: ((wsX0_comeToNewKeys_r1 ++ wsX0_comeToNewKeys_r2) ++ wsX00 ++ wsX20 ++ wsX40)
def wsX2_hasLeftRows : List Cond := .code yX2_hasLeftRows cX2_hasLeftRows 1 (some .boolean) :: ([.fieldLink RX2 18 "JoinDesk$Position" "leftFrom" "I", .fieldLink RX2 21 "JoinDesk$Position" "leftTo" "I"] ++ wsX20)
def wsX2_fits : List Cond := .code yX2_fits cX2_fits 2 (some .boolean) :: ([.methodLink RX2 33 yX2_hasRightRows, .instanceMethod yX2_hasRightRows, .selects RX2 yX2_hasRightRows yX2_hasRightRows, .initialized RX2, .code yX2_hasRightRows cX2_hasRightRows 1 (some .boolean), .fieldLink RX2 24 "JoinDesk$Position" "rightFrom" "I", .fieldLink RX2 27 "JoinDesk$Position" "rightTo" "I", .methodLink RX2 37 yX2_hasLeftRows, .instanceMethod yX2_hasLeftRows, .selects RX2 yX2_hasLeftRows yX2_hasLeftRows, .code yX2_hasLeftRows cX2_hasLeftRows 1 (some .boolean), .fieldLink RX2 18 "JoinDesk$Position" "leftFrom" "I", .fieldLink RX2 21 "JoinDesk$Position" "leftTo" "I"] ++ wsX20)
def wsX2_enterFirstPair : List Cond := .code yX2_enterFirstPair cX2_enterFirstPair 1 none :: ([.fieldLink RX2 18 "JoinDesk$Position" "leftFrom" "I", .fieldLink RX2 9 "JoinDesk$Position" "leftAt" "I", .fieldLink RX2 24 "JoinDesk$Position" "rightFrom" "I", .fieldLink RX2 15 "JoinDesk$Position" "rightAt" "I", .fieldLink RX2 30 "JoinDesk$Position" "passed" "I", .methodLink RX2 37 yX2_hasLeftRows, .instanceMethod yX2_hasLeftRows, .selects RX2 yX2_hasLeftRows yX2_hasLeftRows, .initialized RX2, .code yX2_hasLeftRows cX2_hasLeftRows 1 (some .boolean), .fieldLink RX2 21 "JoinDesk$Position" "leftTo" "I", .methodLink RX2 33 yX2_hasRightRows, .instanceMethod yX2_hasRightRows, .selects RX2 yX2_hasRightRows yX2_hasRightRows, .code yX2_hasRightRows cX2_hasRightRows 1 (some .boolean), .fieldLink RX2 27 "JoinDesk$Position" "rightTo" "I"] ++ wsX20)
def wsX0_goOn_r1 : List Cond := [Cond.fieldLink RX0 21 "JoinDesk$Cursor" "here" "LJoinDesk$Position;", Cond.fieldLink RX0 32 "JoinDesk$Cursor" "kind" "I", Cond.methodLink RX0 57 yX2_enterNextPair, Cond.instanceMethod yX2_enterNextPair, Cond.selects RX2 yX2_enterNextPair yX2_enterNextPair, Cond.initialized RX2, Cond.code yX2_enterNextPair cX2_enterNextPair 1 (some .boolean), Cond.fieldLink RX2 15 "JoinDesk$Position" "rightAt" "I", Cond.fieldLink RX2 27 "JoinDesk$Position" "rightTo" "I", Cond.fieldLink RX2 9 "JoinDesk$Position" "leftAt" "I", Cond.fieldLink RX2 21 "JoinDesk$Position" "leftTo" "I", Cond.fieldLink RX2 24 "JoinDesk$Position" "rightFrom" "I", Cond.fieldLink RX2 30 "JoinDesk$Position" "passed" "I", Cond.methodLink RX2 33 yX2_hasRightRows, Cond.instanceMethod yX2_hasRightRows, Cond.selects RX2 yX2_hasRightRows yX2_hasRightRows, Cond.code yX2_hasRightRows cX2_hasRightRows 1 (some .boolean), Cond.methodLink RX0 61 yX0_rowsAhead, Cond.instanceMethod yX0_rowsAhead, Cond.selects RX0 yX0_rowsAhead yX0_rowsAhead, Cond.initialized RX0, Cond.code yX0_rowsAhead cX0_rowsAhead 1 (some .int), Cond.fieldLink RX0 9 "JoinDesk$Cursor" "left" "LJoinDesk$Table;", Cond.fieldLink RX0 15 "JoinDesk$Cursor" "right" "LJoinDesk$Table;"]
def wsX0_goOn_r2 : List Cond := [Cond.methodLink RX0 89 yX4_size, Cond.instanceMethod yX4_size, Cond.selects RX4 yX4_size yX4_size, Cond.initialized RX4, Cond.code yX4_size cX4_size 1 (some .int), Cond.fieldLink RX4 34 "JoinDesk$Table" "size" "I", Cond.methodLink RX0 65 yX0_comeToNewKeys, Cond.instanceMethod yX0_comeToNewKeys, Cond.selects RX0 yX0_comeToNewKeys yX0_comeToNewKeys, Cond.code yX0_comeToNewKeys cX0_comeToNewKeys 5 none, Cond.methodLink RX0 94 yX4_has, Cond.instanceMethod yX4_has, Cond.selects RX4 yX4_has yX4_has, Cond.code yX4_has cX4_has 2 (some .boolean), Cond.methodLink RX0 97 yX0_readKey, Cond.instanceMethod yX0_readKey, Cond.selects RX0 yX0_readKey yX0_readKey, Cond.code yX0_readKey cX0_readKey 3 (some .int), Cond.fieldLink RX0 36 "JoinDesk$Cursor" "cells" "J", Cond.methodLink RX0 109 yX4_keyAt, Cond.instanceMethod yX4_keyAt, Cond.selects RX4 yX4_keyAt yX4_keyAt, Cond.code yX4_keyAt cX4_keyAt 2 (some .int), Cond.fieldLink RX4 15 "JoinDesk$Table" "keys" "[I"]
def wsX0_goOn_r3 : List Cond := [Cond.fieldLink RX4 22 "JoinDesk$Table" "order" "[I", Cond.methodLink RX4 44 yX4_has, Cond.methodLink RX0 106 yX0_firstOtherKey, Cond.instanceMethod yX0_firstOtherKey, Cond.selects RX0 yX0_firstOtherKey yX0_firstOtherKey, Cond.code yX0_firstOtherKey cX0_firstOtherKey 5 (some .int), Cond.methodLink RX0 68 yX2_fits, Cond.instanceMethod yX2_fits, Cond.selects RX2 yX2_fits yX2_fits, Cond.code yX2_fits cX2_fits 2 (some .boolean), Cond.methodLink RX2 37 yX2_hasLeftRows, Cond.instanceMethod yX2_hasLeftRows, Cond.selects RX2 yX2_hasLeftRows yX2_hasLeftRows, Cond.code yX2_hasLeftRows cX2_hasLeftRows 1 (some .boolean), Cond.fieldLink RX2 18 "JoinDesk$Position" "leftFrom" "I", Cond.methodLink RX0 72 yX2_enterFirstPair, Cond.instanceMethod yX2_enterFirstPair, Cond.selects RX2 yX2_enterFirstPair yX2_enterFirstPair, Cond.code yX2_enterFirstPair cX2_enterFirstPair 1 none, Cond.methodLink RX0 46 yX2_stand, Cond.instanceMethod yX2_stand, Cond.selects RX2 yX2_stand yX2_stand, Cond.code yX2_stand cX2_stand 4 none]
def wsX0_goOn : List Cond := .code yX0_goOn cX0_goOn 2 (some .boolean) :: ((wsX0_goOn_r1 ++ (wsX0_goOn_r2 ++ wsX0_goOn_r3)) ++ wsX00 ++ wsX20 ++ wsX40)
def wsX0_firstNotBelow : List Cond := .code yX0_firstNotBelow cX0_firstNotBelow 7 (some .int) :: ([.methodLink RX0 89 yX4_size, .instanceMethod yX4_size, .selects RX4 yX4_size yX4_size, .initialized RX4, .code yX4_size cX4_size 1 (some .int), .fieldLink RX4 34 "JoinDesk$Table" "size" "I", .methodLink RX0 97 yX0_readKey, .instanceMethod yX0_readKey, .selects RX0 yX0_readKey yX0_readKey, .initialized RX0, .code yX0_readKey cX0_readKey 3 (some .int), .fieldLink RX0 36 "JoinDesk$Cursor" "cells" "J", .methodLink RX0 109 yX4_keyAt, .instanceMethod yX4_keyAt, .selects RX4 yX4_keyAt yX4_keyAt, .code yX4_keyAt cX4_keyAt 2 (some .int), .fieldLink RX4 15 "JoinDesk$Table" "keys" "[I", .fieldLink RX4 22 "JoinDesk$Table" "order" "[I", .methodLink RX4 44 yX4_has, .instanceMethod yX4_has, .selects RX4 yX4_has yX4_has, .code yX4_has cX4_has 2 (some .boolean)] ++ wsX40 ++ wsX00)
def wsX4_partnersBefore : List Cond := .code yX4_partnersBefore cX4_partnersBefore 2 (some .int) :: ([.fieldLink RX4 34 "JoinDesk$Table" "size" "I", .fieldLink RX4 25 "JoinDesk$Table" "partnerSums" "[I"] ++ wsX40)
def wsX4_loneBefore : List Cond := .code yX4_loneBefore cX4_loneBefore 2 (some .int) :: ([.fieldLink RX4 34 "JoinDesk$Table" "size" "I", .fieldLink RX4 28 "JoinDesk$Table" "loneSums" "[I"] ++ wsX40)
def wsX5_pairsBefore : List Cond := .code yX5_pairsBefore cX5_pairsBefore 6 (some .int) :: ([.methodLink RX5 185 yX4_partnersBefore, .instanceMethod yX4_partnersBefore, .selects RX4 yX4_partnersBefore yX4_partnersBefore, .initialized RX4, .code yX4_partnersBefore cX4_partnersBefore 2 (some .int), .fieldLink RX4 34 "JoinDesk$Table" "size" "I", .fieldLink RX4 25 "JoinDesk$Table" "partnerSums" "[I", .methodLink RX5 129 yX4_loneBefore, .instanceMethod yX4_loneBefore, .selects RX4 yX4_loneBefore yX4_loneBefore, .code yX4_loneBefore cX4_loneBefore 2 (some .int), .fieldLink RX4 28 "JoinDesk$Table" "loneSums" "[I"] ++ wsX40)
def wsX0_goBefore_r1 : List Cond := [Cond.fieldLink RX0 9 "JoinDesk$Cursor" "left" "LJoinDesk$Table;", Cond.fieldLink RX0 15 "JoinDesk$Cursor" "right" "LJoinDesk$Table;", Cond.fieldLink RX0 32 "JoinDesk$Cursor" "kind" "I", Cond.fieldLink RX0 21 "JoinDesk$Cursor" "here" "LJoinDesk$Position;", Cond.methodLink RX0 81 yX0_firstNotBelow, Cond.instanceMethod yX0_firstNotBelow, Cond.selects RX0 yX0_firstNotBelow yX0_firstNotBelow, Cond.initialized RX0, Cond.code yX0_firstNotBelow cX0_firstNotBelow 7 (some .int), Cond.methodLink RX0 89 yX4_size, Cond.instanceMethod yX4_size, Cond.selects RX4 yX4_size yX4_size, Cond.initialized RX4, Cond.code yX4_size cX4_size 1 (some .int), Cond.fieldLink RX4 34 "JoinDesk$Table" "size" "I", Cond.methodLink RX0 97 yX0_readKey, Cond.instanceMethod yX0_readKey, Cond.selects RX0 yX0_readKey yX0_readKey, Cond.code yX0_readKey cX0_readKey 3 (some .int), Cond.fieldLink RX0 36 "JoinDesk$Cursor" "cells" "J", Cond.methodLink RX0 109 yX4_keyAt, Cond.instanceMethod yX4_keyAt, Cond.selects RX4 yX4_keyAt yX4_keyAt, Cond.code yX4_keyAt cX4_keyAt 2 (some .int)]
def wsX0_goBefore_r2 : List Cond := [Cond.fieldLink RX4 15 "JoinDesk$Table" "keys" "[I", Cond.fieldLink RX4 22 "JoinDesk$Table" "order" "[I", Cond.methodLink RX4 44 yX4_has, Cond.instanceMethod yX4_has, Cond.selects RX4 yX4_has yX4_has, Cond.code yX4_has cX4_has 2 (some .boolean), Cond.static yX5_pairsBefore, Cond.initialized RX5, Cond.code yX5_pairsBefore cX5_pairsBefore 6 (some .int), Cond.methodLink RX5 185 yX4_partnersBefore, Cond.instanceMethod yX4_partnersBefore, Cond.selects RX4 yX4_partnersBefore yX4_partnersBefore, Cond.code yX4_partnersBefore cX4_partnersBefore 2 (some .int), Cond.fieldLink RX4 25 "JoinDesk$Table" "partnerSums" "[I", Cond.methodLink RX5 129 yX4_loneBefore, Cond.instanceMethod yX4_loneBefore, Cond.selects RX4 yX4_loneBefore yX4_loneBefore, Cond.code yX4_loneBefore cX4_loneBefore 2 (some .int), Cond.fieldLink RX4 28 "JoinDesk$Table" "loneSums" "[I", Cond.methodLink RX0 46 yX2_stand, Cond.instanceMethod yX2_stand, Cond.selects RX2 yX2_stand yX2_stand, Cond.initialized RX2, Cond.code yX2_stand cX2_stand 4 none]
def wsX0_goBefore_r3 : List Cond := [Cond.fieldLink RX2 18 "JoinDesk$Position" "leftFrom" "I", Cond.fieldLink RX2 21 "JoinDesk$Position" "leftTo" "I", Cond.fieldLink RX2 24 "JoinDesk$Position" "rightFrom" "I", Cond.fieldLink RX2 27 "JoinDesk$Position" "rightTo" "I", Cond.fieldLink RX2 9 "JoinDesk$Position" "leftAt" "I", Cond.fieldLink RX2 15 "JoinDesk$Position" "rightAt" "I", Cond.fieldLink RX2 30 "JoinDesk$Position" "passed" "I"]
def wsX0_goBefore : List Cond := .code yX0_goBefore cX0_goBefore 5 (some .boolean) :: ((wsX0_goBefore_r1 ++ (wsX0_goBefore_r2 ++ wsX0_goBefore_r3)) ++ wsX00 ++ wsX40 ++ wsX20)
def wsX3_init : List Cond := .code yX3_init cX3_init 1 none :: ([.methodLink RX3 1 objectInit, .instanceMethod objectInit, .code objectInit ⟨#[0xb1]⟩ 1 none])
def wsX1_init : List Cond := .code yX1_init cX1_init 2 none :: ([.methodLink RX1 3 objectInit, .instanceMethod objectInit, .code objectInit ⟨#[0xb1]⟩ 1 none, .fieldLink RX1 9 "JoinDesk$GroupBook" "room" "I", .classLink RX1 15 "[[J", .arrayClass .long, .fieldLink RX1 17 "JoinDesk$GroupBook" "facts" "[[J", .classLink RX1 20 RX3, .instantiable RX3 4, .initialized RX3, .fieldLink RX1 23 "JoinDesk$GroupBook" "leftSpan" "LJoinDesk$Span;", .fieldLink RX1 27 "JoinDesk$GroupBook" "rightSpan" "LJoinDesk$Span;", .fieldLink RX1 30 "JoinDesk$GroupBook" "size" "I", .fieldLink RX1 33 "JoinDesk$GroupBook" "told" "Z", .instanceMethod yX3_init, .code yX3_init cX3_init 1 none, .methodLink RX3 1 objectInit] ++ wsX10 ++ wsX30)
def wsX1_room : List Cond := .code yX1_room cX1_room 1 (some .int) :: ([.fieldLink RX1 9 "JoinDesk$GroupBook" "room" "I"] ++ wsX10)
def wsX1_isTold : List Cond := .code yX1_isTold cX1_isTold 1 (some .boolean) :: ([.fieldLink RX1 33 "JoinDesk$GroupBook" "told" "Z"] ++ wsX10)
def wsX1_has : List Cond := .code yX1_has cX1_has 2 (some .boolean) :: ([.fieldLink RX1 30 "JoinDesk$GroupBook" "size" "I"] ++ wsX10)
def wsX1_forget : List Cond := .code yX1_forget cX1_forget 1 none :: ([.fieldLink RX1 30 "JoinDesk$GroupBook" "size" "I", .fieldLink RX1 33 "JoinDesk$GroupBook" "told" "Z"] ++ wsX10)
def wsX5_isBelow : List Cond := .code yX5_isBelow cX5_isBelow 2 (some .boolean) :: ([])
def wsX1_fact : List Cond := .code yX1_fact cX1_fact 3 (some .long) :: ([.fieldLink RX1 17 "JoinDesk$GroupBook" "facts" "[[J", .methodLink RX1 37 yX1_has, .instanceMethod yX1_has, .selects RX1 yX1_has yX1_has, .initialized RX1, .code yX1_has cX1_has 2 (some .boolean), .fieldLink RX1 30 "JoinDesk$GroupBook" "size" "I", .static yX5_isBelow, .initialized RX5, .code yX5_isBelow cX5_isBelow 2 (some .boolean)] ++ wsX10)
def wsX4_startsGroup : List Cond := .code yX4_startsGroup cX4_startsGroup 3 (some .boolean) :: ([.methodLink RX4 52 yX4_keyAt, .instanceMethod yX4_keyAt, .selects RX4 yX4_keyAt yX4_keyAt, .initialized RX4, .code yX4_keyAt cX4_keyAt 2 (some .int), .fieldLink RX4 15 "JoinDesk$Table" "keys" "[I", .fieldLink RX4 22 "JoinDesk$Table" "order" "[I", .methodLink RX4 44 yX4_has, .instanceMethod yX4_has, .selects RX4 yX4_has yX4_has, .code yX4_has cX4_has 2 (some .boolean), .fieldLink RX4 34 "JoinDesk$Table" "size" "I", .methodLink RX4 56 yX4_partnersBefore, .instanceMethod yX4_partnersBefore, .selects RX4 yX4_partnersBefore yX4_partnersBefore, .code yX4_partnersBefore cX4_partnersBefore 2 (some .int), .fieldLink RX4 25 "JoinDesk$Table" "partnerSums" "[I"] ++ wsX40)
def wsX4_valueAt : List Cond := .code yX4_valueAt cX4_valueAt 2 (some .int) :: ([.fieldLink RX4 19 "JoinDesk$Table" "values" "[I", .fieldLink RX4 22 "JoinDesk$Table" "order" "[I", .methodLink RX4 44 yX4_has, .instanceMethod yX4_has, .selects RX4 yX4_has yX4_has, .initialized RX4, .code yX4_has cX4_has 2 (some .boolean), .fieldLink RX4 34 "JoinDesk$Table" "size" "I"] ++ wsX40)
def wsX3_measure_r1 : List Cond := [Cond.fieldLink RX3 7 "JoinDesk$Span" "rows" "I", Cond.fieldLink RX3 13 "JoinDesk$Span" "sum" "J", Cond.fieldLink RX3 23 "JoinDesk$Span" "least" "J", Cond.fieldLink RX3 26 "JoinDesk$Span" "greatest" "J", Cond.methodLink RX3 36 Lib.MathLoose.min_long.x, Cond.static Lib.MathLoose.min_long.x, Cond.initialized "java/lang/Math", Cond.code Lib.MathLoose.min_long.x Lib.MathLoose.min_long.code 4 (some .long), Cond.methodLink RX3 42 Lib.MathLoose.max_long.x, Cond.static Lib.MathLoose.max_long.x, Cond.code Lib.MathLoose.max_long.x Lib.MathLoose.max_long.code 4 (some .long), Cond.methodLink RX3 17 yX4_valueAt, Cond.instanceMethod yX4_valueAt, Cond.selects RX4 yX4_valueAt yX4_valueAt, Cond.initialized RX4, Cond.code yX4_valueAt cX4_valueAt 2 (some .int), Cond.fieldLink RX4 19 "JoinDesk$Table" "values" "[I", Cond.fieldLink RX4 22 "JoinDesk$Table" "order" "[I", Cond.methodLink RX4 44 yX4_has, Cond.instanceMethod yX4_has, Cond.selects RX4 yX4_has yX4_has, Cond.code yX4_has cX4_has 2 (some .boolean), Cond.fieldLink RX4 34 "JoinDesk$Table" "size" "I", Cond.methodLink RX3 29 yX4_keyAt]
def wsX3_measure_r2 : List Cond := [Cond.instanceMethod yX4_keyAt, Cond.selects RX4 yX4_keyAt yX4_keyAt, Cond.code yX4_keyAt cX4_keyAt 2 (some .int), Cond.fieldLink RX4 15 "JoinDesk$Table" "keys" "[I", Cond.methodLink RX3 32 yX4_size, Cond.instanceMethod yX4_size, Cond.selects RX4 yX4_size yX4_size, Cond.code yX4_size cX4_size 1 (some .int)]
def wsX3_measure : List Cond := .code yX3_measure cX3_measure 7 none :: ((wsX3_measure_r1 ++ wsX3_measure_r2) ++ wsX30 ++ wsX40)
def wsX4_firstPartnerOf : List Cond := .code yX4_firstPartnerOf cX4_firstPartnerOf 2 (some .int) :: ([.fieldLink RX4 31 "JoinDesk$Table" "firstPartners" "[I", .methodLink RX4 44 yX4_has, .instanceMethod yX4_has, .selects RX4 yX4_has yX4_has, .initialized RX4, .code yX4_has cX4_has 2 (some .boolean), .fieldLink RX4 34 "JoinDesk$Table" "size" "I"] ++ wsX40)
def wsX1_write : List Cond := .code yX1_write cX1_write 11 none :: ([.fieldLink RX1 23 "JoinDesk$GroupBook" "leftSpan" "LJoinDesk$Span;", .fieldLink RX1 27 "JoinDesk$GroupBook" "rightSpan" "LJoinDesk$Span;", .fieldLink RX1 17 "JoinDesk$GroupBook" "facts" "[[J", .methodLink RX1 81 Lib.MathLoose.min_long.x, .static Lib.MathLoose.min_long.x, .initialized "java/lang/Math", .code Lib.MathLoose.min_long.x Lib.MathLoose.min_long.code 4 (some .long), .methodLink RX1 87 Lib.MathLoose.max_long.x, .static Lib.MathLoose.max_long.x, .code Lib.MathLoose.max_long.x Lib.MathLoose.max_long.code 4 (some .long)] ++ wsX10 ++ wsX30)
def wsX1_tell_r1 : List Cond := [Cond.fieldLink RX1 30 "JoinDesk$GroupBook" "size" "I", Cond.fieldLink RX1 9 "JoinDesk$GroupBook" "room" "I", Cond.fieldLink RX1 23 "JoinDesk$GroupBook" "leftSpan" "LJoinDesk$Span;", Cond.fieldLink RX1 27 "JoinDesk$GroupBook" "rightSpan" "LJoinDesk$Span;", Cond.fieldLink RX1 33 "JoinDesk$GroupBook" "told" "Z", Cond.methodLink RX1 45 yX4_size, Cond.instanceMethod yX4_size, Cond.selects RX4 yX4_size yX4_size, Cond.initialized RX4, Cond.code yX4_size cX4_size 1 (some .int), Cond.fieldLink RX4 34 "JoinDesk$Table" "size" "I", Cond.methodLink RX1 50 yX4_startsGroup, Cond.instanceMethod yX4_startsGroup, Cond.selects RX4 yX4_startsGroup yX4_startsGroup, Cond.code yX4_startsGroup cX4_startsGroup 3 (some .boolean), Cond.methodLink RX4 52 yX4_keyAt, Cond.instanceMethod yX4_keyAt, Cond.selects RX4 yX4_keyAt yX4_keyAt, Cond.code yX4_keyAt cX4_keyAt 2 (some .int), Cond.fieldLink RX4 15 "JoinDesk$Table" "keys" "[I", Cond.fieldLink RX4 22 "JoinDesk$Table" "order" "[I", Cond.methodLink RX4 44 yX4_has, Cond.instanceMethod yX4_has, Cond.selects RX4 yX4_has yX4_has]
def wsX1_tell_r2 : List Cond := [Cond.code yX4_has cX4_has 2 (some .boolean), Cond.methodLink RX4 56 yX4_partnersBefore, Cond.instanceMethod yX4_partnersBefore, Cond.selects RX4 yX4_partnersBefore yX4_partnersBefore, Cond.code yX4_partnersBefore cX4_partnersBefore 2 (some .int), Cond.fieldLink RX4 25 "JoinDesk$Table" "partnerSums" "[I", Cond.methodLink RX1 53 yX3_measure, Cond.instanceMethod yX3_measure, Cond.selects RX3 yX3_measure yX3_measure, Cond.initialized RX3, Cond.code yX3_measure cX3_measure 7 none, Cond.fieldLink RX3 7 "JoinDesk$Span" "rows" "I", Cond.fieldLink RX3 13 "JoinDesk$Span" "sum" "J", Cond.fieldLink RX3 23 "JoinDesk$Span" "least" "J", Cond.fieldLink RX3 26 "JoinDesk$Span" "greatest" "J", Cond.methodLink RX3 36 Lib.MathLoose.min_long.x, Cond.static Lib.MathLoose.min_long.x, Cond.initialized "java/lang/Math", Cond.code Lib.MathLoose.min_long.x Lib.MathLoose.min_long.code 4 (some .long), Cond.methodLink RX3 42 Lib.MathLoose.max_long.x, Cond.static Lib.MathLoose.max_long.x, Cond.code Lib.MathLoose.max_long.x Lib.MathLoose.max_long.code 4 (some .long), Cond.methodLink RX3 17 yX4_valueAt, Cond.instanceMethod yX4_valueAt]
def wsX1_tell_r3 : List Cond := [Cond.selects RX4 yX4_valueAt yX4_valueAt, Cond.code yX4_valueAt cX4_valueAt 2 (some .int), Cond.fieldLink RX4 19 "JoinDesk$Table" "values" "[I", Cond.methodLink RX3 29 yX4_keyAt, Cond.methodLink RX3 32 yX4_size, Cond.methodLink RX1 57 yX4_firstPartnerOf, Cond.instanceMethod yX4_firstPartnerOf, Cond.selects RX4 yX4_firstPartnerOf yX4_firstPartnerOf, Cond.code yX4_firstPartnerOf cX4_firstPartnerOf 2 (some .int), Cond.fieldLink RX4 31 "JoinDesk$Table" "firstPartners" "[I", Cond.methodLink RX1 61 yX4_keyAt, Cond.methodLink RX1 64 yX1_write, Cond.instanceMethod yX1_write, Cond.selects RX1 yX1_write yX1_write, Cond.initialized RX1, Cond.code yX1_write cX1_write 11 none, Cond.fieldLink RX1 17 "JoinDesk$GroupBook" "facts" "[[J", Cond.methodLink RX1 81 Lib.MathLoose.min_long.x, Cond.methodLink RX1 87 Lib.MathLoose.max_long.x]
def wsX1_tell : List Cond := .code yX1_tell cX1_tell 4 (some .int) :: ((wsX1_tell_r1 ++ (wsX1_tell_r2 ++ wsX1_tell_r3)) ++ wsX10 ++ wsX40 ++ wsX30)
def wsX4_init : List Cond := .code yX4_init cX4_init 2 none :: ([.methodLink RX4 3 objectInit, .instanceMethod objectInit, .code objectInit ⟨#[0xb1]⟩ 1 none, .fieldLink RX4 9 "JoinDesk$Table" "room" "I", .arrayClass .int, .fieldLink RX4 15 "JoinDesk$Table" "keys" "[I", .fieldLink RX4 19 "JoinDesk$Table" "values" "[I", .fieldLink RX4 22 "JoinDesk$Table" "order" "[I", .fieldLink RX4 25 "JoinDesk$Table" "partnerSums" "[I", .fieldLink RX4 28 "JoinDesk$Table" "loneSums" "[I", .fieldLink RX4 31 "JoinDesk$Table" "firstPartners" "[I", .fieldLink RX4 34 "JoinDesk$Table" "size" "I", .fieldLink RX4 37 "JoinDesk$Table" "placed" "I"] ++ wsX40)
def wsX4_hasRoom : List Cond := .code yX4_hasRoom cX4_hasRoom 1 (some .boolean) :: ([.fieldLink RX4 34 "JoinDesk$Table" "size" "I", .fieldLink RX4 9 "JoinDesk$Table" "room" "I"] ++ wsX40)
def wsX4_append : List Cond := .code yX4_append cX4_append 3 (some .int) :: ([.fieldLink RX4 15 "JoinDesk$Table" "keys" "[I", .fieldLink RX4 34 "JoinDesk$Table" "size" "I", .fieldLink RX4 19 "JoinDesk$Table" "values" "[I", .methodLink RX4 40 yX4_hasRoom, .instanceMethod yX4_hasRoom, .selects RX4 yX4_hasRoom yX4_hasRoom, .initialized RX4, .code yX4_hasRoom cX4_hasRoom 1 (some .boolean), .fieldLink RX4 9 "JoinDesk$Table" "room" "I"] ++ wsX40)
def wsX4_empty : List Cond := .code yX4_empty cX4_empty 1 none :: ([.fieldLink RX4 34 "JoinDesk$Table" "size" "I", .fieldLink RX4 37 "JoinDesk$Table" "placed" "I"] ++ wsX40)
def wsX4_numberAt : List Cond := .code yX4_numberAt cX4_numberAt 2 (some .int) :: ([.fieldLink RX4 22 "JoinDesk$Table" "order" "[I", .methodLink RX4 44 yX4_has, .instanceMethod yX4_has, .selects RX4 yX4_has yX4_has, .initialized RX4, .code yX4_has cX4_has 2 (some .boolean), .fieldLink RX4 34 "JoinDesk$Table" "size" "I"] ++ wsX40)
def wsX4_putInOrder : List Cond := .code yX4_putInOrder cX4_putInOrder 3 none :: ([.fieldLink RX4 15 "JoinDesk$Table" "keys" "[I", .fieldLink RX4 22 "JoinDesk$Table" "order" "[I"] ++ wsX40)
def wsX4_sortRows : List Cond := .code yX4_sortRows cX4_sortRows 2 none :: ([.fieldLink RX4 37 "JoinDesk$Table" "placed" "I", .fieldLink RX4 34 "JoinDesk$Table" "size" "I", .methodLink RX4 48 yX4_putInOrder, .instanceMethod yX4_putInOrder, .selects RX4 yX4_putInOrder yX4_putInOrder, .initialized RX4, .code yX4_putInOrder cX4_putInOrder 3 none, .fieldLink RX4 15 "JoinDesk$Table" "keys" "[I", .fieldLink RX4 22 "JoinDesk$Table" "order" "[I"] ++ wsX40)
def wsX4_findPartners : List Cond := .code yX4_findPartners cX4_findPartners 6 none :: ([.fieldLink RX4 34 "JoinDesk$Table" "size" "I", .fieldLink RX4 31 "JoinDesk$Table" "firstPartners" "[I", .fieldLink RX4 25 "JoinDesk$Table" "partnerSums" "[I", .fieldLink RX4 28 "JoinDesk$Table" "loneSums" "[I", .methodLink RX4 52 yX4_keyAt, .instanceMethod yX4_keyAt, .selects RX4 yX4_keyAt yX4_keyAt, .initialized RX4, .code yX4_keyAt cX4_keyAt 2 (some .int), .fieldLink RX4 15 "JoinDesk$Table" "keys" "[I", .fieldLink RX4 22 "JoinDesk$Table" "order" "[I", .methodLink RX4 44 yX4_has, .instanceMethod yX4_has, .selects RX4 yX4_has yX4_has, .code yX4_has cX4_has 2 (some .boolean)] ++ wsX40)
def wsX4_groupStarts : List Cond := .code yX4_groupStarts cX4_groupStarts 3 (some .int) :: ([.fieldLink RX4 34 "JoinDesk$Table" "size" "I", .methodLink RX4 59 yX4_startsGroup, .instanceMethod yX4_startsGroup, .selects RX4 yX4_startsGroup yX4_startsGroup, .initialized RX4, .code yX4_startsGroup cX4_startsGroup 3 (some .boolean), .methodLink RX4 52 yX4_keyAt, .instanceMethod yX4_keyAt, .selects RX4 yX4_keyAt yX4_keyAt, .code yX4_keyAt cX4_keyAt 2 (some .int), .fieldLink RX4 15 "JoinDesk$Table" "keys" "[I", .fieldLink RX4 22 "JoinDesk$Table" "order" "[I", .methodLink RX4 44 yX4_has, .instanceMethod yX4_has, .selects RX4 yX4_has yX4_has, .code yX4_has cX4_has 2 (some .boolean), .methodLink RX4 56 yX4_partnersBefore, .instanceMethod yX4_partnersBefore, .selects RX4 yX4_partnersBefore yX4_partnersBefore, .code yX4_partnersBefore cX4_partnersBefore 2 (some .int), .fieldLink RX4 25 "JoinDesk$Table" "partnerSums" "[I"] ++ wsX40)
def wsX5_roomFor : List Cond := .code yX5_roomFor cX5_roomFor 1 (some .int) :: ([.methodLink RX5 167 Lib.Math.min.name, .static Lib.Math.min.name, .initialized "java/lang/Math", .code Lib.Math.min.name Lib.Math.min.code 2 (some .int), .methodLink RX5 172 Lib.Math.max.name, .static Lib.Math.max.name, .code Lib.Math.max.name Lib.Math.max.code 2 (some .int)])
def wsX5_init_r1 : List Cond := [Cond.methodLink RX5 1 objectInit, Cond.instanceMethod objectInit, Cond.code objectInit ⟨#[0xb1]⟩ 1 none, Cond.classLink RX5 7 RX4, Cond.instantiable RX4 9, Cond.initialized RX4, Cond.fieldLink RX5 18 "JoinDesk" "left" "LJoinDesk$Table;", Cond.fieldLink RX5 22 "JoinDesk" "right" "LJoinDesk$Table;", Cond.classLink RX5 25 RX0, Cond.instantiable RX0 7, Cond.initialized RX0, Cond.fieldLink RX5 30 "JoinDesk" "cursor" "LJoinDesk$Cursor;", Cond.classLink RX5 34 RX1, Cond.instantiable RX1 6, Cond.initialized RX1, Cond.fieldLink RX5 37 "JoinDesk" "book" "LJoinDesk$GroupBook;", Cond.fieldLink RX5 41 "JoinDesk" "prepared" "Z", Cond.methodLink RX5 9 yX5_roomFor, Cond.static yX5_roomFor, Cond.initialized RX5, Cond.code yX5_roomFor cX5_roomFor 1 (some .int), Cond.methodLink RX5 167 Lib.Math.min.name, Cond.static Lib.Math.min.name, Cond.initialized "java/lang/Math"]
def wsX5_init_r2 : List Cond := [Cond.code Lib.Math.min.name Lib.Math.min.code 2 (some .int), Cond.methodLink RX5 172 Lib.Math.max.name, Cond.static Lib.Math.max.name, Cond.code Lib.Math.max.name Lib.Math.max.code 2 (some .int), Cond.methodLink RX5 15 yX4_init, Cond.instanceMethod yX4_init, Cond.code yX4_init cX4_init 2 none, Cond.methodLink RX4 3 objectInit, Cond.fieldLink RX4 9 "JoinDesk$Table" "room" "I", Cond.arrayClass .int, Cond.fieldLink RX4 15 "JoinDesk$Table" "keys" "[I", Cond.fieldLink RX4 19 "JoinDesk$Table" "values" "[I", Cond.fieldLink RX4 22 "JoinDesk$Table" "order" "[I", Cond.fieldLink RX4 25 "JoinDesk$Table" "partnerSums" "[I", Cond.fieldLink RX4 28 "JoinDesk$Table" "loneSums" "[I", Cond.fieldLink RX4 31 "JoinDesk$Table" "firstPartners" "[I", Cond.fieldLink RX4 34 "JoinDesk$Table" "size" "I", Cond.fieldLink RX4 37 "JoinDesk$Table" "placed" "I", Cond.methodLink RX5 27 yX0_init, Cond.instanceMethod yX0_init, Cond.code yX0_init cX0_init 3 none, Cond.methodLink RX0 3 objectInit, Cond.fieldLink RX0 9 "JoinDesk$Cursor" "left" "LJoinDesk$Table;", Cond.fieldLink RX0 15 "JoinDesk$Cursor" "right" "LJoinDesk$Table;"]
def wsX5_init_r3 : List Cond := [Cond.classLink RX0 18 RX2, Cond.instantiable RX2 7, Cond.initialized RX2, Cond.fieldLink RX0 21 "JoinDesk$Cursor" "here" "LJoinDesk$Position;", Cond.fieldLink RX0 25 "JoinDesk$Cursor" "marked" "LJoinDesk$Position;", Cond.fieldLink RX0 28 "JoinDesk$Cursor" "hasMark" "Z", Cond.fieldLink RX0 32 "JoinDesk$Cursor" "kind" "I", Cond.fieldLink RX0 36 "JoinDesk$Cursor" "cells" "J", Cond.methodLink RX0 20 yX2_init, Cond.instanceMethod yX2_init, Cond.code yX2_init cX2_init 1 none, Cond.methodLink RX2 3 objectInit, Cond.fieldLink RX2 9 "JoinDesk$Position" "leftAt" "I", Cond.fieldLink RX2 15 "JoinDesk$Position" "rightAt" "I", Cond.methodLink RX5 36 yX1_init, Cond.instanceMethod yX1_init, Cond.code yX1_init cX1_init 2 none, Cond.methodLink RX1 3 objectInit, Cond.fieldLink RX1 9 "JoinDesk$GroupBook" "room" "I", Cond.classLink RX1 15 "[[J", Cond.arrayClass .long, Cond.fieldLink RX1 17 "JoinDesk$GroupBook" "facts" "[[J", Cond.classLink RX1 20 RX3, Cond.instantiable RX3 4]
def wsX5_init_r4 : List Cond := [Cond.initialized RX3, Cond.fieldLink RX1 23 "JoinDesk$GroupBook" "leftSpan" "LJoinDesk$Span;", Cond.fieldLink RX1 27 "JoinDesk$GroupBook" "rightSpan" "LJoinDesk$Span;", Cond.fieldLink RX1 30 "JoinDesk$GroupBook" "size" "I", Cond.fieldLink RX1 33 "JoinDesk$GroupBook" "told" "Z", Cond.instanceMethod yX3_init, Cond.code yX3_init cX3_init 1 none, Cond.methodLink RX3 1 objectInit]
def wsX5_init : List Cond := .code yX5_init cX5_init 6 none :: ((wsX5_init_r1 ++ (wsX5_init_r2 ++ (wsX5_init_r3 ++ wsX5_init_r4))) ++ wsX40 ++ wsX50 ++ wsX00 ++ wsX10 ++ wsX20 ++ wsX30)
def wsX5_tableOf : List Cond := .code yX5_tableOf cX5_tableOf 2 (some (.object "JoinDesk$Table")) :: ([.fieldLink RX5 18 "JoinDesk" "left" "LJoinDesk$Table;", .fieldLink RX5 22 "JoinDesk" "right" "LJoinDesk$Table;"] ++ wsX50)
def wsX5_requireState : List Cond := .code yX5_requireState cX5_requireState 1 none :: ([.classLink RX5 180 "java/lang/IllegalStateException", .initialized "java/lang/IllegalStateException"] ++ (vx_atS RX5 184 "java/lang/IllegalStateException" ["java/lang/RuntimeException", "java/lang/Exception"]).filter goodWord)
def wsX5_add_r1 : List Cond := [Cond.fieldLink RX5 41 "JoinDesk" "prepared" "Z", Cond.methodLink RX5 45 yX5_tableOf, Cond.instanceMethod yX5_tableOf, Cond.selects RX5 yX5_tableOf yX5_tableOf, Cond.initialized RX5, Cond.code yX5_tableOf cX5_tableOf 2 (some (.object "JoinDesk$Table")), Cond.fieldLink RX5 18 "JoinDesk" "left" "LJoinDesk$Table;", Cond.fieldLink RX5 22 "JoinDesk" "right" "LJoinDesk$Table;", Cond.methodLink RX5 49 yX4_hasRoom, Cond.instanceMethod yX4_hasRoom, Cond.selects RX4 yX4_hasRoom yX4_hasRoom, Cond.initialized RX4, Cond.code yX4_hasRoom cX4_hasRoom 1 (some .boolean), Cond.fieldLink RX4 34 "JoinDesk$Table" "size" "I", Cond.fieldLink RX4 9 "JoinDesk$Table" "room" "I", Cond.methodLink RX5 53 yX5_requireState, Cond.static yX5_requireState, Cond.code yX5_requireState cX5_requireState 1 none, Cond.classLink RX5 180 "java/lang/IllegalStateException", Cond.initialized "java/lang/IllegalStateException", Cond.methodLink RX5 57 yX4_append, Cond.instanceMethod yX4_append, Cond.selects RX4 yX4_append yX4_append, Cond.code yX4_append cX4_append 3 (some .int)]
def wsX5_add_r2 : List Cond := [Cond.fieldLink RX4 15 "JoinDesk$Table" "keys" "[I", Cond.fieldLink RX4 19 "JoinDesk$Table" "values" "[I", Cond.methodLink RX4 40 yX4_hasRoom]
def wsX5_add : List Cond := .code yX5_add cX5_add 5 (some .int) :: ((wsX5_add_r1 ++ wsX5_add_r2) ++ wsX50 ++ wsX40 ++ (vx_atS RX5 184 "java/lang/IllegalStateException" ["java/lang/RuntimeException", "java/lang/Exception"]).filter goodWord)
def wsX5_prepare_r1 : List Cond := [Cond.fieldLink RX5 18 "JoinDesk" "left" "LJoinDesk$Table;", Cond.fieldLink RX5 22 "JoinDesk" "right" "LJoinDesk$Table;", Cond.fieldLink RX5 30 "JoinDesk" "cursor" "LJoinDesk$Cursor;", Cond.fieldLink RX5 37 "JoinDesk" "book" "LJoinDesk$GroupBook;", Cond.fieldLink RX5 41 "JoinDesk" "prepared" "Z", Cond.methodLink RX5 61 yX4_sortRows, Cond.instanceMethod yX4_sortRows, Cond.selects RX4 yX4_sortRows yX4_sortRows, Cond.initialized RX4, Cond.code yX4_sortRows cX4_sortRows 2 none, Cond.fieldLink RX4 37 "JoinDesk$Table" "placed" "I", Cond.fieldLink RX4 34 "JoinDesk$Table" "size" "I", Cond.methodLink RX4 48 yX4_putInOrder, Cond.instanceMethod yX4_putInOrder, Cond.selects RX4 yX4_putInOrder yX4_putInOrder, Cond.code yX4_putInOrder cX4_putInOrder 3 none, Cond.fieldLink RX4 15 "JoinDesk$Table" "keys" "[I", Cond.fieldLink RX4 22 "JoinDesk$Table" "order" "[I", Cond.methodLink RX5 64 yX4_findPartners, Cond.instanceMethod yX4_findPartners, Cond.selects RX4 yX4_findPartners yX4_findPartners, Cond.code yX4_findPartners cX4_findPartners 6 none, Cond.fieldLink RX4 31 "JoinDesk$Table" "firstPartners" "[I", Cond.fieldLink RX4 25 "JoinDesk$Table" "partnerSums" "[I"]
def wsX5_prepare_r2 : List Cond := [Cond.fieldLink RX4 28 "JoinDesk$Table" "loneSums" "[I", Cond.methodLink RX4 52 yX4_keyAt, Cond.instanceMethod yX4_keyAt, Cond.selects RX4 yX4_keyAt yX4_keyAt, Cond.code yX4_keyAt cX4_keyAt 2 (some .int), Cond.methodLink RX4 44 yX4_has, Cond.instanceMethod yX4_has, Cond.selects RX4 yX4_has yX4_has, Cond.code yX4_has cX4_has 2 (some .boolean), Cond.methodLink RX5 68 yX0_restart, Cond.instanceMethod yX0_restart, Cond.selects RX0 yX0_restart yX0_restart, Cond.initialized RX0, Cond.code yX0_restart cX0_restart 1 none, Cond.fieldLink RX0 21 "JoinDesk$Cursor" "here" "LJoinDesk$Position;", Cond.fieldLink RX0 36 "JoinDesk$Cursor" "cells" "J", Cond.methodLink RX0 46 yX2_stand, Cond.instanceMethod yX2_stand, Cond.selects RX2 yX2_stand yX2_stand, Cond.initialized RX2, Cond.code yX2_stand cX2_stand 4 none, Cond.fieldLink RX2 18 "JoinDesk$Position" "leftFrom" "I", Cond.fieldLink RX2 21 "JoinDesk$Position" "leftTo" "I", Cond.fieldLink RX2 24 "JoinDesk$Position" "rightFrom" "I"]
def wsX5_prepare_r3 : List Cond := [Cond.fieldLink RX2 27 "JoinDesk$Position" "rightTo" "I", Cond.fieldLink RX2 9 "JoinDesk$Position" "leftAt" "I", Cond.fieldLink RX2 15 "JoinDesk$Position" "rightAt" "I", Cond.fieldLink RX2 30 "JoinDesk$Position" "passed" "I", Cond.methodLink RX5 71 yX0_forgetMark, Cond.instanceMethod yX0_forgetMark, Cond.selects RX0 yX0_forgetMark yX0_forgetMark, Cond.code yX0_forgetMark cX0_forgetMark 1 none, Cond.fieldLink RX0 28 "JoinDesk$Cursor" "hasMark" "Z", Cond.methodLink RX5 74 yX1_forget, Cond.instanceMethod yX1_forget, Cond.selects RX1 yX1_forget yX1_forget, Cond.initialized RX1, Cond.code yX1_forget cX1_forget 1 none, Cond.fieldLink RX1 30 "JoinDesk$GroupBook" "size" "I", Cond.fieldLink RX1 33 "JoinDesk$GroupBook" "told" "Z"]
def wsX5_prepare : List Cond := .code yX5_prepare cX5_prepare 1 none :: ((wsX5_prepare_r1 ++ (wsX5_prepare_r2 ++ wsX5_prepare_r3)) ++ wsX50 ++ wsX40 ++ wsX00 ++ wsX20 ++ wsX10)
def wsX5_requireArgument : List Cond := .code yX5_requireArgument cX5_requireArgument 1 none :: ([.classLink RX5 175 "java/lang/IllegalArgumentException", .initialized "java/lang/IllegalArgumentException"] ++ (vx_atS RX5 179 "java/lang/IllegalArgumentException" ["java/lang/RuntimeException", "java/lang/Exception"]).filter goodWord)
def wsX5_kind_r1 : List Cond := [Cond.fieldLink RX5 30 "JoinDesk" "cursor" "LJoinDesk$Cursor;", Cond.methodLink RX5 77 yX5_isBelow, Cond.static yX5_isBelow, Cond.initialized RX5, Cond.code yX5_isBelow cX5_isBelow 2 (some .boolean), Cond.methodLink RX5 81 yX5_requireArgument, Cond.static yX5_requireArgument, Cond.code yX5_requireArgument cX5_requireArgument 1 none, Cond.classLink RX5 175 "java/lang/IllegalArgumentException", Cond.initialized "java/lang/IllegalArgumentException", Cond.methodLink RX5 84 yX0_useKind, Cond.instanceMethod yX0_useKind, Cond.selects RX0 yX0_useKind yX0_useKind, Cond.initialized RX0, Cond.code yX0_useKind cX0_useKind 2 none, Cond.fieldLink RX0 32 "JoinDesk$Cursor" "kind" "I", Cond.methodLink RX5 68 yX0_restart, Cond.instanceMethod yX0_restart, Cond.selects RX0 yX0_restart yX0_restart, Cond.code yX0_restart cX0_restart 1 none, Cond.fieldLink RX0 21 "JoinDesk$Cursor" "here" "LJoinDesk$Position;", Cond.fieldLink RX0 36 "JoinDesk$Cursor" "cells" "J", Cond.methodLink RX0 46 yX2_stand, Cond.instanceMethod yX2_stand]
def wsX5_kind_r2 : List Cond := [Cond.selects RX2 yX2_stand yX2_stand, Cond.initialized RX2, Cond.code yX2_stand cX2_stand 4 none, Cond.fieldLink RX2 18 "JoinDesk$Position" "leftFrom" "I", Cond.fieldLink RX2 21 "JoinDesk$Position" "leftTo" "I", Cond.fieldLink RX2 24 "JoinDesk$Position" "rightFrom" "I", Cond.fieldLink RX2 27 "JoinDesk$Position" "rightTo" "I", Cond.fieldLink RX2 9 "JoinDesk$Position" "leftAt" "I", Cond.fieldLink RX2 15 "JoinDesk$Position" "rightAt" "I", Cond.fieldLink RX2 30 "JoinDesk$Position" "passed" "I", Cond.methodLink RX5 71 yX0_forgetMark, Cond.instanceMethod yX0_forgetMark, Cond.selects RX0 yX0_forgetMark yX0_forgetMark, Cond.code yX0_forgetMark cX0_forgetMark 1 none, Cond.fieldLink RX0 28 "JoinDesk$Cursor" "hasMark" "Z"]
def wsX5_kind : List Cond := .code yX5_kind cX5_kind 2 none :: ((wsX5_kind_r1 ++ wsX5_kind_r2) ++ wsX50 ++ wsX00 ++ wsX20 ++ (vx_atS RX5 179 "java/lang/IllegalArgumentException" ["java/lang/RuntimeException", "java/lang/Exception"]).filter goodWord)
def wsX5_next_r1 : List Cond := [Cond.fieldLink RX5 41 "JoinDesk" "prepared" "Z", Cond.fieldLink RX5 30 "JoinDesk" "cursor" "LJoinDesk$Cursor;", Cond.methodLink RX5 53 yX5_requireState, Cond.static yX5_requireState, Cond.initialized RX5, Cond.code yX5_requireState cX5_requireState 1 none, Cond.classLink RX5 180 "java/lang/IllegalStateException", Cond.initialized "java/lang/IllegalStateException", Cond.methodLink RX5 87 yX0_goOn, Cond.instanceMethod yX0_goOn, Cond.selects RX0 yX0_goOn yX0_goOn, Cond.initialized RX0, Cond.code yX0_goOn cX0_goOn 2 (some .boolean), Cond.fieldLink RX0 21 "JoinDesk$Cursor" "here" "LJoinDesk$Position;", Cond.fieldLink RX0 32 "JoinDesk$Cursor" "kind" "I", Cond.methodLink RX0 57 yX2_enterNextPair, Cond.instanceMethod yX2_enterNextPair, Cond.selects RX2 yX2_enterNextPair yX2_enterNextPair, Cond.initialized RX2, Cond.code yX2_enterNextPair cX2_enterNextPair 1 (some .boolean), Cond.fieldLink RX2 15 "JoinDesk$Position" "rightAt" "I", Cond.fieldLink RX2 27 "JoinDesk$Position" "rightTo" "I", Cond.fieldLink RX2 9 "JoinDesk$Position" "leftAt" "I", Cond.fieldLink RX2 21 "JoinDesk$Position" "leftTo" "I"]
def wsX5_next_r2 : List Cond := [Cond.fieldLink RX2 24 "JoinDesk$Position" "rightFrom" "I", Cond.fieldLink RX2 30 "JoinDesk$Position" "passed" "I", Cond.methodLink RX2 33 yX2_hasRightRows, Cond.instanceMethod yX2_hasRightRows, Cond.selects RX2 yX2_hasRightRows yX2_hasRightRows, Cond.code yX2_hasRightRows cX2_hasRightRows 1 (some .boolean), Cond.methodLink RX0 61 yX0_rowsAhead, Cond.instanceMethod yX0_rowsAhead, Cond.selects RX0 yX0_rowsAhead yX0_rowsAhead, Cond.code yX0_rowsAhead cX0_rowsAhead 1 (some .int), Cond.fieldLink RX0 9 "JoinDesk$Cursor" "left" "LJoinDesk$Table;", Cond.fieldLink RX0 15 "JoinDesk$Cursor" "right" "LJoinDesk$Table;", Cond.methodLink RX0 89 yX4_size, Cond.instanceMethod yX4_size, Cond.selects RX4 yX4_size yX4_size, Cond.initialized RX4, Cond.code yX4_size cX4_size 1 (some .int), Cond.fieldLink RX4 34 "JoinDesk$Table" "size" "I", Cond.methodLink RX0 65 yX0_comeToNewKeys, Cond.instanceMethod yX0_comeToNewKeys, Cond.selects RX0 yX0_comeToNewKeys yX0_comeToNewKeys, Cond.code yX0_comeToNewKeys cX0_comeToNewKeys 5 none, Cond.methodLink RX0 94 yX4_has, Cond.instanceMethod yX4_has]
def wsX5_next_r3 : List Cond := [Cond.selects RX4 yX4_has yX4_has, Cond.code yX4_has cX4_has 2 (some .boolean), Cond.methodLink RX0 97 yX0_readKey, Cond.instanceMethod yX0_readKey, Cond.selects RX0 yX0_readKey yX0_readKey, Cond.code yX0_readKey cX0_readKey 3 (some .int), Cond.fieldLink RX0 36 "JoinDesk$Cursor" "cells" "J", Cond.methodLink RX0 109 yX4_keyAt, Cond.instanceMethod yX4_keyAt, Cond.selects RX4 yX4_keyAt yX4_keyAt, Cond.code yX4_keyAt cX4_keyAt 2 (some .int), Cond.fieldLink RX4 15 "JoinDesk$Table" "keys" "[I", Cond.fieldLink RX4 22 "JoinDesk$Table" "order" "[I", Cond.methodLink RX4 44 yX4_has, Cond.methodLink RX0 106 yX0_firstOtherKey, Cond.instanceMethod yX0_firstOtherKey, Cond.selects RX0 yX0_firstOtherKey yX0_firstOtherKey, Cond.code yX0_firstOtherKey cX0_firstOtherKey 5 (some .int), Cond.methodLink RX0 68 yX2_fits, Cond.instanceMethod yX2_fits, Cond.selects RX2 yX2_fits yX2_fits, Cond.code yX2_fits cX2_fits 2 (some .boolean), Cond.methodLink RX2 37 yX2_hasLeftRows, Cond.instanceMethod yX2_hasLeftRows]
def wsX5_next_r4 : List Cond := [Cond.selects RX2 yX2_hasLeftRows yX2_hasLeftRows, Cond.code yX2_hasLeftRows cX2_hasLeftRows 1 (some .boolean), Cond.fieldLink RX2 18 "JoinDesk$Position" "leftFrom" "I", Cond.methodLink RX0 72 yX2_enterFirstPair, Cond.instanceMethod yX2_enterFirstPair, Cond.selects RX2 yX2_enterFirstPair yX2_enterFirstPair, Cond.code yX2_enterFirstPair cX2_enterFirstPair 1 none, Cond.methodLink RX0 46 yX2_stand, Cond.instanceMethod yX2_stand, Cond.selects RX2 yX2_stand yX2_stand, Cond.code yX2_stand cX2_stand 4 none]
def wsX5_next : List Cond := .code yX5_next cX5_next 1 (some .boolean) :: ((wsX5_next_r1 ++ (wsX5_next_r2 ++ (wsX5_next_r3 ++ wsX5_next_r4))) ++ wsX50 ++ wsX00 ++ wsX20 ++ wsX40 ++ (vx_atS RX5 184 "java/lang/IllegalStateException" ["java/lang/RuntimeException", "java/lang/Exception"]).filter goodWord)
def wsX5_pair_r1 : List Cond := [Cond.fieldLink RX5 41 "JoinDesk" "prepared" "Z", Cond.fieldLink RX5 30 "JoinDesk" "cursor" "LJoinDesk$Cursor;", Cond.fieldLink RX5 18 "JoinDesk" "left" "LJoinDesk$Table;", Cond.fieldLink RX5 22 "JoinDesk" "right" "LJoinDesk$Table;", Cond.methodLink RX5 77 yX5_isBelow, Cond.static yX5_isBelow, Cond.initialized RX5, Cond.code yX5_isBelow cX5_isBelow 2 (some .boolean), Cond.methodLink RX5 81 yX5_requireArgument, Cond.static yX5_requireArgument, Cond.code yX5_requireArgument cX5_requireArgument 1 none, Cond.classLink RX5 175 "java/lang/IllegalArgumentException", Cond.initialized "java/lang/IllegalArgumentException", Cond.methodLink RX5 90 yX0_leftPlace, Cond.instanceMethod yX0_leftPlace, Cond.selects RX0 yX0_leftPlace yX0_leftPlace, Cond.initialized RX0, Cond.code yX0_leftPlace cX0_leftPlace 1 (some .int), Cond.fieldLink RX0 21 "JoinDesk$Cursor" "here" "LJoinDesk$Position;", Cond.methodLink RX5 94 yX0_rightPlace, Cond.instanceMethod yX0_rightPlace, Cond.selects RX0 yX0_rightPlace yX0_rightPlace, Cond.code yX0_rightPlace cX0_rightPlace 1 (some .int), Cond.methodLink RX5 97 yX4_has]
def wsX5_pair_r2 : List Cond := [Cond.instanceMethod yX4_has, Cond.selects RX4 yX4_has yX4_has, Cond.initialized RX4, Cond.code yX4_has cX4_has 2 (some .boolean), Cond.fieldLink RX4 34 "JoinDesk$Table" "size" "I", Cond.methodLink RX5 101 yX4_keyAt, Cond.instanceMethod yX4_keyAt, Cond.selects RX4 yX4_keyAt yX4_keyAt, Cond.code yX4_keyAt cX4_keyAt 2 (some .int), Cond.fieldLink RX4 15 "JoinDesk$Table" "keys" "[I", Cond.fieldLink RX4 22 "JoinDesk$Table" "order" "[I", Cond.methodLink RX4 44 yX4_has, Cond.methodLink RX5 104 yX4_valueAt, Cond.instanceMethod yX4_valueAt, Cond.selects RX4 yX4_valueAt yX4_valueAt, Cond.code yX4_valueAt cX4_valueAt 2 (some .int), Cond.fieldLink RX4 19 "JoinDesk$Table" "values" "[I", Cond.methodLink RX5 107 yX4_numberAt, Cond.instanceMethod yX4_numberAt, Cond.selects RX4 yX4_numberAt yX4_numberAt, Cond.code yX4_numberAt cX4_numberAt 2 (some .int)]
def wsX5_pair : List Cond := .code yX5_pair cX5_pair 4 (some .int) :: ((wsX5_pair_r1 ++ wsX5_pair_r2) ++ wsX50 ++ wsX00 ++ wsX20 ++ wsX40 ++ (vx_atS RX5 179 "java/lang/IllegalArgumentException" ["java/lang/RuntimeException", "java/lang/Exception"]).filter goodWord)
def wsX5_mark_r1 : List Cond := [Cond.fieldLink RX5 41 "JoinDesk" "prepared" "Z", Cond.fieldLink RX5 30 "JoinDesk" "cursor" "LJoinDesk$Cursor;", Cond.methodLink RX5 53 yX5_requireState, Cond.static yX5_requireState, Cond.initialized RX5, Cond.code yX5_requireState cX5_requireState 1 none, Cond.classLink RX5 180 "java/lang/IllegalStateException", Cond.initialized "java/lang/IllegalStateException", Cond.methodLink RX5 110 yX0_setMark, Cond.instanceMethod yX0_setMark, Cond.selects RX0 yX0_setMark yX0_setMark, Cond.initialized RX0, Cond.code yX0_setMark cX0_setMark 1 (some .int), Cond.fieldLink RX0 25 "JoinDesk$Cursor" "marked" "LJoinDesk$Position;", Cond.fieldLink RX0 21 "JoinDesk$Cursor" "here" "LJoinDesk$Position;", Cond.fieldLink RX0 28 "JoinDesk$Cursor" "hasMark" "Z", Cond.methodLink RX0 50 yX2_copy, Cond.instanceMethod yX2_copy, Cond.selects RX2 yX2_copy yX2_copy, Cond.initialized RX2, Cond.code yX2_copy cX2_copy 2 none, Cond.fieldLink RX2 18 "JoinDesk$Position" "leftFrom" "I", Cond.fieldLink RX2 21 "JoinDesk$Position" "leftTo" "I", Cond.fieldLink RX2 24 "JoinDesk$Position" "rightFrom" "I"]
def wsX5_mark_r2 : List Cond := [Cond.fieldLink RX2 27 "JoinDesk$Position" "rightTo" "I", Cond.fieldLink RX2 9 "JoinDesk$Position" "leftAt" "I", Cond.fieldLink RX2 15 "JoinDesk$Position" "rightAt" "I", Cond.fieldLink RX2 30 "JoinDesk$Position" "passed" "I"]
def wsX5_mark : List Cond := .code yX5_mark cX5_mark 1 (some .int) :: ((wsX5_mark_r1 ++ wsX5_mark_r2) ++ wsX50 ++ wsX00 ++ wsX20 ++ (vx_atS RX5 184 "java/lang/IllegalStateException" ["java/lang/RuntimeException", "java/lang/Exception"]).filter goodWord)
def wsX5_back_r1 : List Cond := [Cond.fieldLink RX5 41 "JoinDesk" "prepared" "Z", Cond.fieldLink RX5 30 "JoinDesk" "cursor" "LJoinDesk$Cursor;", Cond.methodLink RX5 113 yX0_hasMark, Cond.instanceMethod yX0_hasMark, Cond.selects RX0 yX0_hasMark yX0_hasMark, Cond.initialized RX0, Cond.code yX0_hasMark cX0_hasMark 1 (some .boolean), Cond.fieldLink RX0 28 "JoinDesk$Cursor" "hasMark" "Z", Cond.methodLink RX5 53 yX5_requireState, Cond.static yX5_requireState, Cond.initialized RX5, Cond.code yX5_requireState cX5_requireState 1 none, Cond.classLink RX5 180 "java/lang/IllegalStateException", Cond.initialized "java/lang/IllegalStateException", Cond.methodLink RX5 116 yX0_goToMark, Cond.instanceMethod yX0_goToMark, Cond.selects RX0 yX0_goToMark yX0_goToMark, Cond.code yX0_goToMark cX0_goToMark 1 (some .int), Cond.fieldLink RX0 21 "JoinDesk$Cursor" "here" "LJoinDesk$Position;", Cond.fieldLink RX0 25 "JoinDesk$Cursor" "marked" "LJoinDesk$Position;", Cond.methodLink RX0 50 yX2_copy, Cond.instanceMethod yX2_copy, Cond.selects RX2 yX2_copy yX2_copy, Cond.initialized RX2]
def wsX5_back_r2 : List Cond := [Cond.code yX2_copy cX2_copy 2 none, Cond.fieldLink RX2 18 "JoinDesk$Position" "leftFrom" "I", Cond.fieldLink RX2 21 "JoinDesk$Position" "leftTo" "I", Cond.fieldLink RX2 24 "JoinDesk$Position" "rightFrom" "I", Cond.fieldLink RX2 27 "JoinDesk$Position" "rightTo" "I", Cond.fieldLink RX2 9 "JoinDesk$Position" "leftAt" "I", Cond.fieldLink RX2 15 "JoinDesk$Position" "rightAt" "I", Cond.fieldLink RX2 30 "JoinDesk$Position" "passed" "I"]
def wsX5_back : List Cond := .code yX5_back cX5_back 1 (some .int) :: ((wsX5_back_r1 ++ wsX5_back_r2) ++ wsX50 ++ wsX00 ++ wsX20 ++ (vx_atS RX5 184 "java/lang/IllegalStateException" ["java/lang/RuntimeException", "java/lang/Exception"]).filter goodWord)
def wsX5_seek_r1 : List Cond := [Cond.fieldLink RX5 41 "JoinDesk" "prepared" "Z", Cond.fieldLink RX5 30 "JoinDesk" "cursor" "LJoinDesk$Cursor;", Cond.methodLink RX5 53 yX5_requireState, Cond.static yX5_requireState, Cond.initialized RX5, Cond.code yX5_requireState cX5_requireState 1 none, Cond.classLink RX5 180 "java/lang/IllegalStateException", Cond.initialized "java/lang/IllegalStateException", Cond.methodLink RX5 119 yX0_goBefore, Cond.instanceMethod yX0_goBefore, Cond.selects RX0 yX0_goBefore yX0_goBefore, Cond.initialized RX0, Cond.code yX0_goBefore cX0_goBefore 5 (some .boolean), Cond.fieldLink RX0 9 "JoinDesk$Cursor" "left" "LJoinDesk$Table;", Cond.fieldLink RX0 15 "JoinDesk$Cursor" "right" "LJoinDesk$Table;", Cond.fieldLink RX0 32 "JoinDesk$Cursor" "kind" "I", Cond.fieldLink RX0 21 "JoinDesk$Cursor" "here" "LJoinDesk$Position;", Cond.methodLink RX0 81 yX0_firstNotBelow, Cond.instanceMethod yX0_firstNotBelow, Cond.selects RX0 yX0_firstNotBelow yX0_firstNotBelow, Cond.code yX0_firstNotBelow cX0_firstNotBelow 7 (some .int), Cond.methodLink RX0 89 yX4_size, Cond.instanceMethod yX4_size, Cond.selects RX4 yX4_size yX4_size]
def wsX5_seek_r2 : List Cond := [Cond.initialized RX4, Cond.code yX4_size cX4_size 1 (some .int), Cond.fieldLink RX4 34 "JoinDesk$Table" "size" "I", Cond.methodLink RX0 97 yX0_readKey, Cond.instanceMethod yX0_readKey, Cond.selects RX0 yX0_readKey yX0_readKey, Cond.code yX0_readKey cX0_readKey 3 (some .int), Cond.fieldLink RX0 36 "JoinDesk$Cursor" "cells" "J", Cond.methodLink RX0 109 yX4_keyAt, Cond.instanceMethod yX4_keyAt, Cond.selects RX4 yX4_keyAt yX4_keyAt, Cond.code yX4_keyAt cX4_keyAt 2 (some .int), Cond.fieldLink RX4 15 "JoinDesk$Table" "keys" "[I", Cond.fieldLink RX4 22 "JoinDesk$Table" "order" "[I", Cond.methodLink RX4 44 yX4_has, Cond.instanceMethod yX4_has, Cond.selects RX4 yX4_has yX4_has, Cond.code yX4_has cX4_has 2 (some .boolean), Cond.static yX5_pairsBefore, Cond.code yX5_pairsBefore cX5_pairsBefore 6 (some .int), Cond.methodLink RX5 185 yX4_partnersBefore, Cond.instanceMethod yX4_partnersBefore, Cond.selects RX4 yX4_partnersBefore yX4_partnersBefore, Cond.code yX4_partnersBefore cX4_partnersBefore 2 (some .int)]
def wsX5_seek_r3 : List Cond := [Cond.fieldLink RX4 25 "JoinDesk$Table" "partnerSums" "[I", Cond.methodLink RX5 129 yX4_loneBefore, Cond.instanceMethod yX4_loneBefore, Cond.selects RX4 yX4_loneBefore yX4_loneBefore, Cond.code yX4_loneBefore cX4_loneBefore 2 (some .int), Cond.fieldLink RX4 28 "JoinDesk$Table" "loneSums" "[I", Cond.methodLink RX0 46 yX2_stand, Cond.instanceMethod yX2_stand, Cond.selects RX2 yX2_stand yX2_stand, Cond.initialized RX2, Cond.code yX2_stand cX2_stand 4 none, Cond.fieldLink RX2 18 "JoinDesk$Position" "leftFrom" "I", Cond.fieldLink RX2 21 "JoinDesk$Position" "leftTo" "I", Cond.fieldLink RX2 24 "JoinDesk$Position" "rightFrom" "I", Cond.fieldLink RX2 27 "JoinDesk$Position" "rightTo" "I", Cond.fieldLink RX2 9 "JoinDesk$Position" "leftAt" "I", Cond.fieldLink RX2 15 "JoinDesk$Position" "rightAt" "I", Cond.fieldLink RX2 30 "JoinDesk$Position" "passed" "I"]
def wsX5_seek : List Cond := .code yX5_seek cX5_seek 2 (some .boolean) :: ((wsX5_seek_r1 ++ (wsX5_seek_r2 ++ wsX5_seek_r3)) ++ wsX50 ++ wsX00 ++ wsX40 ++ wsX20 ++ (vx_atS RX5 184 "java/lang/IllegalStateException" ["java/lang/RuntimeException", "java/lang/Exception"]).filter goodWord)
def wsX5_rewind_r1 : List Cond := [Cond.fieldLink RX5 41 "JoinDesk" "prepared" "Z", Cond.fieldLink RX5 30 "JoinDesk" "cursor" "LJoinDesk$Cursor;", Cond.methodLink RX5 53 yX5_requireState, Cond.static yX5_requireState, Cond.initialized RX5, Cond.code yX5_requireState cX5_requireState 1 none, Cond.classLink RX5 180 "java/lang/IllegalStateException", Cond.initialized "java/lang/IllegalStateException", Cond.methodLink RX5 68 yX0_restart, Cond.instanceMethod yX0_restart, Cond.selects RX0 yX0_restart yX0_restart, Cond.initialized RX0, Cond.code yX0_restart cX0_restart 1 none, Cond.fieldLink RX0 21 "JoinDesk$Cursor" "here" "LJoinDesk$Position;", Cond.fieldLink RX0 36 "JoinDesk$Cursor" "cells" "J", Cond.methodLink RX0 46 yX2_stand, Cond.instanceMethod yX2_stand, Cond.selects RX2 yX2_stand yX2_stand, Cond.initialized RX2, Cond.code yX2_stand cX2_stand 4 none, Cond.fieldLink RX2 18 "JoinDesk$Position" "leftFrom" "I", Cond.fieldLink RX2 21 "JoinDesk$Position" "leftTo" "I", Cond.fieldLink RX2 24 "JoinDesk$Position" "rightFrom" "I", Cond.fieldLink RX2 27 "JoinDesk$Position" "rightTo" "I"]
def wsX5_rewind_r2 : List Cond := [Cond.fieldLink RX2 9 "JoinDesk$Position" "leftAt" "I", Cond.fieldLink RX2 15 "JoinDesk$Position" "rightAt" "I", Cond.fieldLink RX2 30 "JoinDesk$Position" "passed" "I"]
def wsX5_rewind : List Cond := .code yX5_rewind cX5_rewind 1 none :: ((wsX5_rewind_r1 ++ wsX5_rewind_r2) ++ wsX50 ++ wsX00 ++ wsX20 ++ (vx_atS RX5 184 "java/lang/IllegalStateException" ["java/lang/RuntimeException", "java/lang/Exception"]).filter goodWord)
def wsX5_count_r1 : List Cond := [Cond.fieldLink RX5 41 "JoinDesk" "prepared" "Z", Cond.fieldLink RX5 18 "JoinDesk" "left" "LJoinDesk$Table;", Cond.fieldLink RX5 22 "JoinDesk" "right" "LJoinDesk$Table;", Cond.methodLink RX5 77 yX5_isBelow, Cond.static yX5_isBelow, Cond.initialized RX5, Cond.code yX5_isBelow cX5_isBelow 2 (some .boolean), Cond.methodLink RX5 81 yX5_requireArgument, Cond.static yX5_requireArgument, Cond.code yX5_requireArgument cX5_requireArgument 1 none, Cond.classLink RX5 175 "java/lang/IllegalArgumentException", Cond.initialized "java/lang/IllegalArgumentException", Cond.methodLink RX5 53 yX5_requireState, Cond.static yX5_requireState, Cond.code yX5_requireState cX5_requireState 1 none, Cond.classLink RX5 180 "java/lang/IllegalStateException", Cond.initialized "java/lang/IllegalStateException", Cond.methodLink RX5 122 yX4_size, Cond.instanceMethod yX4_size, Cond.selects RX4 yX4_size yX4_size, Cond.initialized RX4, Cond.code yX4_size cX4_size 1 (some .int), Cond.fieldLink RX4 34 "JoinDesk$Table" "size" "I", Cond.methodLink RX5 125 yX5_pairsBefore]
def wsX5_count_r2 : List Cond := [Cond.static yX5_pairsBefore, Cond.code yX5_pairsBefore cX5_pairsBefore 6 (some .int), Cond.methodLink RX5 185 yX4_partnersBefore, Cond.instanceMethod yX4_partnersBefore, Cond.selects RX4 yX4_partnersBefore yX4_partnersBefore, Cond.code yX4_partnersBefore cX4_partnersBefore 2 (some .int), Cond.fieldLink RX4 25 "JoinDesk$Table" "partnerSums" "[I", Cond.methodLink RX5 129 yX4_loneBefore, Cond.instanceMethod yX4_loneBefore, Cond.selects RX4 yX4_loneBefore yX4_loneBefore, Cond.code yX4_loneBefore cX4_loneBefore 2 (some .int), Cond.fieldLink RX4 28 "JoinDesk$Table" "loneSums" "[I"]
def wsX5_count : List Cond := .code yX5_count cX5_count 2 (some .long) :: ((wsX5_count_r1 ++ wsX5_count_r2) ++ wsX50 ++ wsX40 ++ (vx_atS RX5 179 "java/lang/IllegalArgumentException" ["java/lang/RuntimeException", "java/lang/Exception"]).filter goodWord ++ (vx_atS RX5 184 "java/lang/IllegalStateException" ["java/lang/RuntimeException", "java/lang/Exception"]).filter goodWord)
def wsX5_rows : List Cond := .code yX5_rows cX5_rows 5 (some .int) :: ([.fieldLink RX5 41 "JoinDesk" "prepared" "Z", .methodLink RX5 53 yX5_requireState, .static yX5_requireState, .initialized RX5, .code yX5_requireState cX5_requireState 1 none, .classLink RX5 180 "java/lang/IllegalStateException", .initialized "java/lang/IllegalStateException", .methodLink RX5 45 yX5_tableOf, .instanceMethod yX5_tableOf, .selects RX5 yX5_tableOf yX5_tableOf, .code yX5_tableOf cX5_tableOf 2 (some (.object "JoinDesk$Table")), .fieldLink RX5 18 "JoinDesk" "left" "LJoinDesk$Table;", .fieldLink RX5 22 "JoinDesk" "right" "LJoinDesk$Table;", .methodLink RX5 122 yX4_size, .instanceMethod yX4_size, .selects RX4 yX4_size yX4_size, .initialized RX4, .code yX4_size cX4_size 1 (some .int), .fieldLink RX4 34 "JoinDesk$Table" "size" "I", .methodLink RX5 129 yX4_loneBefore, .instanceMethod yX4_loneBefore, .selects RX4 yX4_loneBefore yX4_loneBefore, .code yX4_loneBefore cX4_loneBefore 2 (some .int), .fieldLink RX4 28 "JoinDesk$Table" "loneSums" "[I"] ++ wsX50 ++ wsX40 ++ (vx_atS RX5 184 "java/lang/IllegalStateException" ["java/lang/RuntimeException", "java/lang/Exception"]).filter goodWord)
def wsX5_groups_r1 : List Cond := [Cond.classLink RX5 138 "java/lang/UnsupportedOperationException", Cond.initialized "java/lang/UnsupportedOperationException", Cond.fieldLink RX5 41 "JoinDesk" "prepared" "Z", Cond.fieldLink RX5 18 "JoinDesk" "left" "LJoinDesk$Table;", Cond.fieldLink RX5 37 "JoinDesk" "book" "LJoinDesk$GroupBook;", Cond.fieldLink RX5 22 "JoinDesk" "right" "LJoinDesk$Table;", Cond.methodLink RX5 53 yX5_requireState, Cond.static yX5_requireState, Cond.initialized RX5, Cond.code yX5_requireState cX5_requireState 1 none, Cond.classLink RX5 180 "java/lang/IllegalStateException", Cond.initialized "java/lang/IllegalStateException", Cond.methodLink RX5 132 yX4_groupStarts, Cond.instanceMethod yX4_groupStarts, Cond.selects RX4 yX4_groupStarts yX4_groupStarts, Cond.initialized RX4, Cond.code yX4_groupStarts cX4_groupStarts 3 (some .int), Cond.fieldLink RX4 34 "JoinDesk$Table" "size" "I", Cond.methodLink RX4 59 yX4_startsGroup, Cond.instanceMethod yX4_startsGroup, Cond.selects RX4 yX4_startsGroup yX4_startsGroup, Cond.code yX4_startsGroup cX4_startsGroup 3 (some .boolean), Cond.methodLink RX4 52 yX4_keyAt, Cond.instanceMethod yX4_keyAt]
def wsX5_groups_r2 : List Cond := [Cond.selects RX4 yX4_keyAt yX4_keyAt, Cond.code yX4_keyAt cX4_keyAt 2 (some .int), Cond.fieldLink RX4 15 "JoinDesk$Table" "keys" "[I", Cond.fieldLink RX4 22 "JoinDesk$Table" "order" "[I", Cond.methodLink RX4 44 yX4_has, Cond.instanceMethod yX4_has, Cond.selects RX4 yX4_has yX4_has, Cond.code yX4_has cX4_has 2 (some .boolean), Cond.methodLink RX4 56 yX4_partnersBefore, Cond.instanceMethod yX4_partnersBefore, Cond.selects RX4 yX4_partnersBefore yX4_partnersBefore, Cond.code yX4_partnersBefore cX4_partnersBefore 2 (some .int), Cond.fieldLink RX4 25 "JoinDesk$Table" "partnerSums" "[I", Cond.methodLink RX5 135 yX1_room, Cond.instanceMethod yX1_room, Cond.selects RX1 yX1_room yX1_room, Cond.initialized RX1, Cond.code yX1_room cX1_room 1 (some .int), Cond.fieldLink RX1 9 "JoinDesk$GroupBook" "room" "I", Cond.methodLink RX5 145 yX1_tell, Cond.instanceMethod yX1_tell, Cond.selects RX1 yX1_tell yX1_tell, Cond.code yX1_tell cX1_tell 4 (some .int), Cond.fieldLink RX1 30 "JoinDesk$GroupBook" "size" "I"]
def wsX5_groups_r3 : List Cond := [Cond.fieldLink RX1 23 "JoinDesk$GroupBook" "leftSpan" "LJoinDesk$Span;", Cond.fieldLink RX1 27 "JoinDesk$GroupBook" "rightSpan" "LJoinDesk$Span;", Cond.fieldLink RX1 33 "JoinDesk$GroupBook" "told" "Z", Cond.methodLink RX1 45 yX4_size, Cond.instanceMethod yX4_size, Cond.selects RX4 yX4_size yX4_size, Cond.code yX4_size cX4_size 1 (some .int), Cond.methodLink RX1 50 yX4_startsGroup, Cond.methodLink RX1 53 yX3_measure, Cond.instanceMethod yX3_measure, Cond.selects RX3 yX3_measure yX3_measure, Cond.initialized RX3, Cond.code yX3_measure cX3_measure 7 none, Cond.fieldLink RX3 7 "JoinDesk$Span" "rows" "I", Cond.fieldLink RX3 13 "JoinDesk$Span" "sum" "J", Cond.fieldLink RX3 23 "JoinDesk$Span" "least" "J", Cond.fieldLink RX3 26 "JoinDesk$Span" "greatest" "J", Cond.methodLink RX3 36 Lib.MathLoose.min_long.x, Cond.static Lib.MathLoose.min_long.x, Cond.initialized "java/lang/Math", Cond.code Lib.MathLoose.min_long.x Lib.MathLoose.min_long.code 4 (some .long), Cond.methodLink RX3 42 Lib.MathLoose.max_long.x, Cond.static Lib.MathLoose.max_long.x, Cond.code Lib.MathLoose.max_long.x Lib.MathLoose.max_long.code 4 (some .long)]
def wsX5_groups_r4 : List Cond := [Cond.methodLink RX3 17 yX4_valueAt, Cond.instanceMethod yX4_valueAt, Cond.selects RX4 yX4_valueAt yX4_valueAt, Cond.code yX4_valueAt cX4_valueAt 2 (some .int), Cond.fieldLink RX4 19 "JoinDesk$Table" "values" "[I", Cond.methodLink RX3 29 yX4_keyAt, Cond.methodLink RX3 32 yX4_size, Cond.methodLink RX1 57 yX4_firstPartnerOf, Cond.instanceMethod yX4_firstPartnerOf, Cond.selects RX4 yX4_firstPartnerOf yX4_firstPartnerOf, Cond.code yX4_firstPartnerOf cX4_firstPartnerOf 2 (some .int), Cond.fieldLink RX4 31 "JoinDesk$Table" "firstPartners" "[I", Cond.methodLink RX1 61 yX4_keyAt, Cond.methodLink RX1 64 yX1_write, Cond.instanceMethod yX1_write, Cond.selects RX1 yX1_write yX1_write, Cond.code yX1_write cX1_write 11 none, Cond.fieldLink RX1 17 "JoinDesk$GroupBook" "facts" "[[J", Cond.methodLink RX1 81 Lib.MathLoose.min_long.x, Cond.methodLink RX1 87 Lib.MathLoose.max_long.x]
def wsX5_groups : List Cond := .code yX5_groups cX5_groups 1 (some .int) :: ((wsX5_groups_r1 ++ (wsX5_groups_r2 ++ (wsX5_groups_r3 ++ wsX5_groups_r4))) ++ wsX50 ++ wsX40 ++ wsX10 ++ wsX30 ++ (vx_atS RX5 142 "java/lang/UnsupportedOperationException" ["java/lang/RuntimeException", "java/lang/Exception"]).filter goodWord ++ (vx_atS RX5 184 "java/lang/IllegalStateException" ["java/lang/RuntimeException", "java/lang/Exception"]).filter goodWord)
def wsX5_group_r1 : List Cond := [Cond.fieldLink RX5 41 "JoinDesk" "prepared" "Z", Cond.fieldLink RX5 37 "JoinDesk" "book" "LJoinDesk$GroupBook;", Cond.methodLink RX5 149 yX1_isTold, Cond.instanceMethod yX1_isTold, Cond.selects RX1 yX1_isTold yX1_isTold, Cond.initialized RX1, Cond.code yX1_isTold cX1_isTold 1 (some .boolean), Cond.fieldLink RX1 33 "JoinDesk$GroupBook" "told" "Z", Cond.methodLink RX5 152 yX1_has, Cond.instanceMethod yX1_has, Cond.selects RX1 yX1_has yX1_has, Cond.code yX1_has cX1_has 2 (some .boolean), Cond.fieldLink RX1 30 "JoinDesk$GroupBook" "size" "I", Cond.methodLink RX5 77 yX5_isBelow, Cond.static yX5_isBelow, Cond.initialized RX5, Cond.code yX5_isBelow cX5_isBelow 2 (some .boolean), Cond.methodLink RX5 81 yX5_requireArgument, Cond.static yX5_requireArgument, Cond.code yX5_requireArgument cX5_requireArgument 1 none, Cond.classLink RX5 175 "java/lang/IllegalArgumentException", Cond.initialized "java/lang/IllegalArgumentException", Cond.methodLink RX5 53 yX5_requireState, Cond.static yX5_requireState]
def wsX5_group_r2 : List Cond := [Cond.code yX5_requireState cX5_requireState 1 none, Cond.classLink RX5 180 "java/lang/IllegalStateException", Cond.initialized "java/lang/IllegalStateException", Cond.methodLink RX5 153 yX1_fact, Cond.instanceMethod yX1_fact, Cond.selects RX1 yX1_fact yX1_fact, Cond.code yX1_fact cX1_fact 3 (some .long), Cond.fieldLink RX1 17 "JoinDesk$GroupBook" "facts" "[[J", Cond.methodLink RX1 37 yX1_has]
def wsX5_group : List Cond := .code yX5_group cX5_group 4 (some .long) :: ((wsX5_group_r1 ++ wsX5_group_r2) ++ wsX50 ++ wsX10 ++ (vx_atS RX5 179 "java/lang/IllegalArgumentException" ["java/lang/RuntimeException", "java/lang/Exception"]).filter goodWord ++ (vx_atS RX5 184 "java/lang/IllegalStateException" ["java/lang/RuntimeException", "java/lang/Exception"]).filter goodWord)
def wsX5_sorted_r1 : List Cond := [Cond.fieldLink RX5 41 "JoinDesk" "prepared" "Z", Cond.methodLink RX5 45 yX5_tableOf, Cond.instanceMethod yX5_tableOf, Cond.selects RX5 yX5_tableOf yX5_tableOf, Cond.initialized RX5, Cond.code yX5_tableOf cX5_tableOf 2 (some (.object "JoinDesk$Table")), Cond.fieldLink RX5 18 "JoinDesk" "left" "LJoinDesk$Table;", Cond.fieldLink RX5 22 "JoinDesk" "right" "LJoinDesk$Table;", Cond.methodLink RX5 97 yX4_has, Cond.instanceMethod yX4_has, Cond.selects RX4 yX4_has yX4_has, Cond.initialized RX4, Cond.code yX4_has cX4_has 2 (some .boolean), Cond.fieldLink RX4 34 "JoinDesk$Table" "size" "I", Cond.methodLink RX5 77 yX5_isBelow, Cond.static yX5_isBelow, Cond.code yX5_isBelow cX5_isBelow 2 (some .boolean), Cond.methodLink RX5 81 yX5_requireArgument, Cond.static yX5_requireArgument, Cond.code yX5_requireArgument cX5_requireArgument 1 none, Cond.classLink RX5 175 "java/lang/IllegalArgumentException", Cond.initialized "java/lang/IllegalArgumentException", Cond.methodLink RX5 53 yX5_requireState, Cond.static yX5_requireState]
def wsX5_sorted_r2 : List Cond := [Cond.code yX5_requireState cX5_requireState 1 none, Cond.classLink RX5 180 "java/lang/IllegalStateException", Cond.initialized "java/lang/IllegalStateException", Cond.methodLink RX5 101 yX4_keyAt, Cond.instanceMethod yX4_keyAt, Cond.selects RX4 yX4_keyAt yX4_keyAt, Cond.code yX4_keyAt cX4_keyAt 2 (some .int), Cond.fieldLink RX4 15 "JoinDesk$Table" "keys" "[I", Cond.fieldLink RX4 22 "JoinDesk$Table" "order" "[I", Cond.methodLink RX4 44 yX4_has, Cond.methodLink RX5 104 yX4_valueAt, Cond.instanceMethod yX4_valueAt, Cond.selects RX4 yX4_valueAt yX4_valueAt, Cond.code yX4_valueAt cX4_valueAt 2 (some .int), Cond.fieldLink RX4 19 "JoinDesk$Table" "values" "[I", Cond.methodLink RX5 107 yX4_numberAt, Cond.instanceMethod yX4_numberAt, Cond.selects RX4 yX4_numberAt yX4_numberAt, Cond.code yX4_numberAt cX4_numberAt 2 (some .int)]
def wsX5_sorted : List Cond := .code yX5_sorted cX5_sorted 5 (some .int) :: ((wsX5_sorted_r1 ++ wsX5_sorted_r2) ++ wsX50 ++ wsX40 ++ (vx_atS RX5 179 "java/lang/IllegalArgumentException" ["java/lang/RuntimeException", "java/lang/Exception"]).filter goodWord ++ (vx_atS RX5 184 "java/lang/IllegalStateException" ["java/lang/RuntimeException", "java/lang/Exception"]).filter goodWord)
def wsX5_about_r1 : List Cond := [Cond.fieldLink RX5 30 "JoinDesk" "cursor" "LJoinDesk$Cursor;", Cond.fieldLink RX5 18 "JoinDesk" "left" "LJoinDesk$Table;", Cond.fieldLink RX5 22 "JoinDesk" "right" "LJoinDesk$Table;", Cond.fieldLink RX5 41 "JoinDesk" "prepared" "Z", Cond.methodLink RX5 77 yX5_isBelow, Cond.static yX5_isBelow, Cond.initialized RX5, Cond.code yX5_isBelow cX5_isBelow 2 (some .boolean), Cond.methodLink RX5 81 yX5_requireArgument, Cond.static yX5_requireArgument, Cond.code yX5_requireArgument cX5_requireArgument 1 none, Cond.classLink RX5 175 "java/lang/IllegalArgumentException", Cond.initialized "java/lang/IllegalArgumentException", Cond.methodLink RX5 157 yX0_cellsRead, Cond.instanceMethod yX0_cellsRead, Cond.selects RX0 yX0_cellsRead yX0_cellsRead, Cond.initialized RX0, Cond.code yX0_cellsRead cX0_cellsRead 1 (some .long), Cond.fieldLink RX0 36 "JoinDesk$Cursor" "cells" "J", Cond.methodLink RX5 122 yX4_size, Cond.instanceMethod yX4_size, Cond.selects RX4 yX4_size yX4_size, Cond.initialized RX4, Cond.code yX4_size cX4_size 1 (some .int)]
def wsX5_about_r2 : List Cond := [Cond.fieldLink RX4 34 "JoinDesk$Table" "size" "I", Cond.methodLink RX5 161 yX0_kindInUse, Cond.instanceMethod yX0_kindInUse, Cond.selects RX0 yX0_kindInUse yX0_kindInUse, Cond.code yX0_kindInUse cX0_kindInUse 1 (some .int), Cond.fieldLink RX0 32 "JoinDesk$Cursor" "kind" "I"]
def wsX5_about : List Cond := .code yX5_about cX5_about 2 (some .long) :: ((wsX5_about_r1 ++ wsX5_about_r2) ++ wsX50 ++ wsX00 ++ wsX40 ++ (vx_atS RX5 179 "java/lang/IllegalArgumentException" ["java/lang/RuntimeException", "java/lang/Exception"]).filter goodWord)
def wsX5_clear : List Cond := .code yX5_clear cX5_clear 1 none :: ([.fieldLink RX5 18 "JoinDesk" "left" "LJoinDesk$Table;", .fieldLink RX5 22 "JoinDesk" "right" "LJoinDesk$Table;", .fieldLink RX5 30 "JoinDesk" "cursor" "LJoinDesk$Cursor;", .fieldLink RX5 41 "JoinDesk" "prepared" "Z", .methodLink RX5 164 yX4_empty, .instanceMethod yX4_empty, .selects RX4 yX4_empty yX4_empty, .initialized RX4, .code yX4_empty cX4_empty 1 none, .fieldLink RX4 34 "JoinDesk$Table" "size" "I", .fieldLink RX4 37 "JoinDesk$Table" "placed" "I", .methodLink RX5 84 yX0_useKind, .instanceMethod yX0_useKind, .selects RX0 yX0_useKind yX0_useKind, .initialized RX0, .code yX0_useKind cX0_useKind 2 none, .fieldLink RX0 32 "JoinDesk$Cursor" "kind" "I"] ++ wsX50 ++ wsX40 ++ wsX00)
def wsX6_between : List Cond := .code yX6_between cX6_between 1 (some .int) :: ([])
def wsX6_init : List Cond := .code yX6_init cX6_init 4 none :: ([.methodLink RX6 1 objectInit, .instanceMethod objectInit, .code objectInit ⟨#[0xb1]⟩ 1 none, .arrayClass .int, .fieldLink RX6 7 "JoinDeskModel" "most" "[I", .fieldLink RX6 13 "JoinDeskModel" "keys" "[I", .fieldLink RX6 16 "JoinDeskModel" "values" "[I", .fieldLink RX6 19 "JoinDeskModel" "order" "[I", .fieldLink RX6 22 "JoinDeskModel" "many" "[I", .fieldLink RX6 25 "JoinDeskModel" "at" "[I", .fieldLink RX6 32 "JoinDeskModel" "room" "I", .methodLink RX6 28 yX6_between, .static yX6_between, .initialized RX6, .code yX6_between cX6_between 1 (some .int)] ++ wsX60)
def wsX6_thrown : List Cond := .code yX6_thrown cX6_thrown 1 (some .int) :: ([.fieldLink RX6 36 "JoinDeskModel" "code" "I"] ++ wsX60)
def wsX6_refuses : List Cond := .code yX6_refuses cX6_refuses 2 (some .boolean) :: ([.fieldLink RX6 36 "JoinDeskModel" "code" "I"] ++ wsX60)
def wsX6_key : List Cond := .code yX6_key cX6_key 3 (some .int) :: ([.fieldLink RX6 13 "JoinDeskModel" "keys" "[I", .fieldLink RX6 19 "JoinDeskModel" "order" "[I"] ++ wsX60)
def wsX6_value : List Cond := .code yX6_value cX6_value 3 (some .int) :: ([.fieldLink RX6 16 "JoinDeskModel" "values" "[I", .fieldLink RX6 19 "JoinDeskModel" "order" "[I"] ++ wsX60)
def wsX6_begins : List Cond := .code yX6_begins cX6_begins 2 none :: ([.fieldLink RX6 25 "JoinDeskModel" "at" "[I"] ++ wsX60)
def wsX6_add : List Cond := .code yX6_add cX6_add 6 (some .int) :: ([.fieldLink RX6 22 "JoinDeskModel" "many" "[I", .fieldLink RX6 7 "JoinDeskModel" "most" "[I", .fieldLink RX6 13 "JoinDeskModel" "keys" "[I", .fieldLink RX6 16 "JoinDeskModel" "values" "[I", .fieldLink RX6 43 "JoinDeskModel" "prepared" "Z", .fieldLink RX6 47 "JoinDeskModel" "grouped" "Z", .methodLink RX6 39 yX6_refuses, .instanceMethod yX6_refuses, .selects RX6 yX6_refuses yX6_refuses, .initialized RX6, .code yX6_refuses cX6_refuses 2 (some .boolean), .fieldLink RX6 36 "JoinDeskModel" "code" "I"] ++ wsX60)
def wsX6_prepare : List Cond := .code yX6_prepare cX6_prepare 4 none :: ([.fieldLink RX6 36 "JoinDeskModel" "code" "I", .fieldLink RX6 22 "JoinDeskModel" "many" "[I", .fieldLink RX6 13 "JoinDeskModel" "keys" "[I", .fieldLink RX6 19 "JoinDeskModel" "order" "[I", .fieldLink RX6 53 "JoinDeskModel" "cells" "J", .fieldLink RX6 57 "JoinDeskModel" "marked" "Z", .fieldLink RX6 47 "JoinDeskModel" "grouped" "Z", .fieldLink RX6 43 "JoinDeskModel" "prepared" "Z", .methodLink RX6 50 yX6_begins, .instanceMethod yX6_begins, .selects RX6 yX6_begins yX6_begins, .initialized RX6, .code yX6_begins cX6_begins 2 none, .fieldLink RX6 25 "JoinDeskModel" "at" "[I"] ++ wsX60)
def wsX6_kind : List Cond := .code yX6_kind cX6_kind 2 none :: ([.fieldLink RX6 60 "JoinDeskModel" "kind" "I", .fieldLink RX6 53 "JoinDeskModel" "cells" "J", .fieldLink RX6 57 "JoinDeskModel" "marked" "Z", .methodLink RX6 39 yX6_refuses, .instanceMethod yX6_refuses, .selects RX6 yX6_refuses yX6_refuses, .initialized RX6, .code yX6_refuses cX6_refuses 2 (some .boolean), .fieldLink RX6 36 "JoinDeskModel" "code" "I", .methodLink RX6 50 yX6_begins, .instanceMethod yX6_begins, .selects RX6 yX6_begins yX6_begins, .code yX6_begins cX6_begins 2 none, .fieldLink RX6 25 "JoinDeskModel" "at" "[I"] ++ wsX60)
def wsX6_tells : List Cond := .code yX6_tells cX6_tells 2 (some .boolean) :: ([])
def wsX6_goes : List Cond := .code yX6_goes cX6_goes 4 none :: ([.fieldLink RX6 25 "JoinDeskModel" "at" "[I", .fieldLink RX6 53 "JoinDeskModel" "cells" "J", .fieldLink RX6 22 "JoinDeskModel" "many" "[I", .methodLink RX6 63 yX6_key, .instanceMethod yX6_key, .selects RX6 yX6_key yX6_key, .initialized RX6, .code yX6_key cX6_key 3 (some .int), .fieldLink RX6 13 "JoinDeskModel" "keys" "[I", .fieldLink RX6 19 "JoinDeskModel" "order" "[I"] ++ wsX60)
def wsX6_steps : List Cond := .code yX6_steps cX6_steps 2 (some .boolean) :: ([.fieldLink RX6 25 "JoinDeskModel" "at" "[I"] ++ wsX60)
def wsX6_next_r1 : List Cond := [Cond.fieldLink RX6 43 "JoinDeskModel" "prepared" "Z", Cond.fieldLink RX6 25 "JoinDeskModel" "at" "[I", Cond.fieldLink RX6 22 "JoinDeskModel" "many" "[I", Cond.fieldLink RX6 53 "JoinDeskModel" "cells" "J", Cond.constantLong RX6 71 (2), Cond.fieldLink RX6 60 "JoinDeskModel" "kind" "I", Cond.methodLink RX6 39 yX6_refuses, Cond.instanceMethod yX6_refuses, Cond.selects RX6 yX6_refuses yX6_refuses, Cond.initialized RX6, Cond.code yX6_refuses cX6_refuses 2 (some .boolean), Cond.fieldLink RX6 36 "JoinDeskModel" "code" "I", Cond.methodLink RX6 67 yX6_steps, Cond.instanceMethod yX6_steps, Cond.selects RX6 yX6_steps yX6_steps, Cond.code yX6_steps cX6_steps 2 (some .boolean), Cond.methodLink RX6 63 yX6_key, Cond.instanceMethod yX6_key, Cond.selects RX6 yX6_key yX6_key, Cond.code yX6_key cX6_key 3 (some .int), Cond.fieldLink RX6 13 "JoinDeskModel" "keys" "[I", Cond.fieldLink RX6 19 "JoinDeskModel" "order" "[I", Cond.methodLink RX6 73 yX6_goes, Cond.instanceMethod yX6_goes]
def wsX6_next_r2 : List Cond := [Cond.selects RX6 yX6_goes yX6_goes, Cond.code yX6_goes cX6_goes 4 none, Cond.methodLink RX6 77 yX6_tells, Cond.static yX6_tells, Cond.code yX6_tells cX6_tells 2 (some .boolean)]
def wsX6_next : List Cond := .code yX6_next cX6_next 5 (some .boolean) :: ((wsX6_next_r1 ++ wsX6_next_r2) ++ wsX60)
def wsX6_pair : List Cond := .code yX6_pair cX6_pair 5 (some .int) :: ([.fieldLink RX6 43 "JoinDeskModel" "prepared" "Z", .fieldLink RX6 25 "JoinDeskModel" "at" "[I", .fieldLink RX6 19 "JoinDeskModel" "order" "[I", .methodLink RX6 39 yX6_refuses, .instanceMethod yX6_refuses, .selects RX6 yX6_refuses yX6_refuses, .initialized RX6, .code yX6_refuses cX6_refuses 2 (some .boolean), .fieldLink RX6 36 "JoinDeskModel" "code" "I", .methodLink RX6 63 yX6_key, .instanceMethod yX6_key, .selects RX6 yX6_key yX6_key, .code yX6_key cX6_key 3 (some .int), .fieldLink RX6 13 "JoinDeskModel" "keys" "[I", .methodLink RX6 81 yX6_value, .instanceMethod yX6_value, .selects RX6 yX6_value yX6_value, .code yX6_value cX6_value 3 (some .int), .fieldLink RX6 16 "JoinDeskModel" "values" "[I"] ++ wsX60)
def wsX6_mark : List Cond := .code yX6_mark cX6_mark 2 (some .int) :: ([.fieldLink RX6 43 "JoinDeskModel" "prepared" "Z", .fieldLink RX6 25 "JoinDeskModel" "at" "[I", .fieldLink RX6 57 "JoinDeskModel" "marked" "Z", .methodLink RX6 39 yX6_refuses, .instanceMethod yX6_refuses, .selects RX6 yX6_refuses yX6_refuses, .initialized RX6, .code yX6_refuses cX6_refuses 2 (some .boolean), .fieldLink RX6 36 "JoinDeskModel" "code" "I"] ++ wsX60)
def wsX6_back : List Cond := .code yX6_back cX6_back 2 (some .int) :: ([.fieldLink RX6 43 "JoinDeskModel" "prepared" "Z", .fieldLink RX6 57 "JoinDeskModel" "marked" "Z", .fieldLink RX6 25 "JoinDeskModel" "at" "[I", .methodLink RX6 39 yX6_refuses, .instanceMethod yX6_refuses, .selects RX6 yX6_refuses yX6_refuses, .initialized RX6, .code yX6_refuses cX6_refuses 2 (some .boolean), .fieldLink RX6 36 "JoinDeskModel" "code" "I"] ++ wsX60)
def wsX6_rowsOf : List Cond := .code yX6_rowsOf cX6_rowsOf 5 (some .int) :: ([.fieldLink RX6 22 "JoinDeskModel" "many" "[I", .fieldLink RX6 13 "JoinDeskModel" "keys" "[I"] ++ wsX60)
def wsX6_pairs : List Cond := .code yX6_pairs cX6_pairs 11 (some .long) :: ([.fieldLink RX6 22 "JoinDeskModel" "many" "[I", .fieldLink RX6 13 "JoinDeskModel" "keys" "[I", .methodLink RX6 84 yX6_rowsOf, .instanceMethod yX6_rowsOf, .selects RX6 yX6_rowsOf yX6_rowsOf, .initialized RX6, .code yX6_rowsOf cX6_rowsOf 5 (some .int), .methodLink RX6 77 yX6_tells, .static yX6_tells, .code yX6_tells cX6_tells 2 (some .boolean)] ++ wsX60)
def wsX6_seek_r1 : List Cond := [Cond.fieldLink RX6 43 "JoinDeskModel" "prepared" "Z", Cond.fieldLink RX6 22 "JoinDeskModel" "many" "[I", Cond.fieldLink RX6 53 "JoinDeskModel" "cells" "J", Cond.fieldLink RX6 25 "JoinDeskModel" "at" "[I", Cond.fieldLink RX6 60 "JoinDeskModel" "kind" "I", Cond.methodLink RX6 39 yX6_refuses, Cond.instanceMethod yX6_refuses, Cond.selects RX6 yX6_refuses yX6_refuses, Cond.initialized RX6, Cond.code yX6_refuses cX6_refuses 2 (some .boolean), Cond.fieldLink RX6 36 "JoinDeskModel" "code" "I", Cond.methodLink RX6 50 yX6_begins, Cond.instanceMethod yX6_begins, Cond.selects RX6 yX6_begins yX6_begins, Cond.code yX6_begins cX6_begins 2 none, Cond.methodLink RX6 63 yX6_key, Cond.instanceMethod yX6_key, Cond.selects RX6 yX6_key yX6_key, Cond.code yX6_key cX6_key 3 (some .int), Cond.fieldLink RX6 13 "JoinDeskModel" "keys" "[I", Cond.fieldLink RX6 19 "JoinDeskModel" "order" "[I", Cond.methodLink RX6 87 yX6_pairs, Cond.instanceMethod yX6_pairs, Cond.selects RX6 yX6_pairs yX6_pairs]
def wsX6_seek_r2 : List Cond := [Cond.code yX6_pairs cX6_pairs 11 (some .long), Cond.methodLink RX6 84 yX6_rowsOf, Cond.instanceMethod yX6_rowsOf, Cond.selects RX6 yX6_rowsOf yX6_rowsOf, Cond.code yX6_rowsOf cX6_rowsOf 5 (some .int), Cond.methodLink RX6 77 yX6_tells, Cond.static yX6_tells, Cond.code yX6_tells cX6_tells 2 (some .boolean)]
def wsX6_seek : List Cond := .code yX6_seek cX6_seek 6 (some .boolean) :: ((wsX6_seek_r1 ++ wsX6_seek_r2) ++ wsX60)
def wsX6_rewind : List Cond := .code yX6_rewind cX6_rewind 1 none :: ([.fieldLink RX6 43 "JoinDeskModel" "prepared" "Z", .fieldLink RX6 53 "JoinDeskModel" "cells" "J", .methodLink RX6 39 yX6_refuses, .instanceMethod yX6_refuses, .selects RX6 yX6_refuses yX6_refuses, .initialized RX6, .code yX6_refuses cX6_refuses 2 (some .boolean), .fieldLink RX6 36 "JoinDeskModel" "code" "I", .methodLink RX6 50 yX6_begins, .instanceMethod yX6_begins, .selects RX6 yX6_begins yX6_begins, .code yX6_begins cX6_begins 2 none, .fieldLink RX6 25 "JoinDeskModel" "at" "[I"] ++ wsX60)
def wsX6_count : List Cond := .code yX6_count cX6_count 2 (some .long) :: ([.fieldLink RX6 43 "JoinDeskModel" "prepared" "Z", .constantLong RX6 91 (3000000000), .methodLink RX6 39 yX6_refuses, .instanceMethod yX6_refuses, .selects RX6 yX6_refuses yX6_refuses, .initialized RX6, .code yX6_refuses cX6_refuses 2 (some .boolean), .fieldLink RX6 36 "JoinDeskModel" "code" "I", .methodLink RX6 87 yX6_pairs, .instanceMethod yX6_pairs, .selects RX6 yX6_pairs yX6_pairs, .code yX6_pairs cX6_pairs 11 (some .long), .fieldLink RX6 22 "JoinDeskModel" "many" "[I", .fieldLink RX6 13 "JoinDeskModel" "keys" "[I", .methodLink RX6 84 yX6_rowsOf, .instanceMethod yX6_rowsOf, .selects RX6 yX6_rowsOf yX6_rowsOf, .code yX6_rowsOf cX6_rowsOf 5 (some .int), .methodLink RX6 77 yX6_tells, .static yX6_tells, .code yX6_tells cX6_tells 2 (some .boolean)] ++ wsX60)
def wsX6_rows : List Cond := .code yX6_rows cX6_rows 6 (some .int) :: ([.fieldLink RX6 43 "JoinDeskModel" "prepared" "Z", .fieldLink RX6 22 "JoinDeskModel" "many" "[I", .fieldLink RX6 13 "JoinDeskModel" "keys" "[I", .methodLink RX6 39 yX6_refuses, .instanceMethod yX6_refuses, .selects RX6 yX6_refuses yX6_refuses, .initialized RX6, .code yX6_refuses cX6_refuses 2 (some .boolean), .fieldLink RX6 36 "JoinDeskModel" "code" "I", .methodLink RX6 84 yX6_rowsOf, .instanceMethod yX6_rowsOf, .selects RX6 yX6_rowsOf yX6_rowsOf, .code yX6_rowsOf cX6_rowsOf 5 (some .int)] ++ wsX60)
def wsX6_groupAt : List Cond := .code yX6_groupAt cX6_groupAt 5 (some .int) :: ([.fieldLink RX6 22 "JoinDeskModel" "many" "[I", .methodLink RX6 63 yX6_key, .instanceMethod yX6_key, .selects RX6 yX6_key yX6_key, .initialized RX6, .code yX6_key cX6_key 3 (some .int), .fieldLink RX6 13 "JoinDeskModel" "keys" "[I", .fieldLink RX6 19 "JoinDeskModel" "order" "[I", .methodLink RX6 84 yX6_rowsOf, .instanceMethod yX6_rowsOf, .selects RX6 yX6_rowsOf yX6_rowsOf, .code yX6_rowsOf cX6_rowsOf 5 (some .int)] ++ wsX60)
def wsX6_groups : List Cond := .code yX6_groups cX6_groups 2 (some .int) :: ([.fieldLink RX6 43 "JoinDeskModel" "prepared" "Z", .fieldLink RX6 32 "JoinDeskModel" "room" "I", .fieldLink RX6 47 "JoinDeskModel" "grouped" "Z", .methodLink RX6 39 yX6_refuses, .instanceMethod yX6_refuses, .selects RX6 yX6_refuses yX6_refuses, .initialized RX6, .code yX6_refuses cX6_refuses 2 (some .boolean), .fieldLink RX6 36 "JoinDeskModel" "code" "I", .methodLink RX6 93 yX6_groupAt, .instanceMethod yX6_groupAt, .selects RX6 yX6_groupAt yX6_groupAt, .code yX6_groupAt cX6_groupAt 5 (some .int), .fieldLink RX6 22 "JoinDeskModel" "many" "[I", .methodLink RX6 63 yX6_key, .instanceMethod yX6_key, .selects RX6 yX6_key yX6_key, .code yX6_key cX6_key 3 (some .int), .fieldLink RX6 13 "JoinDeskModel" "keys" "[I", .fieldLink RX6 19 "JoinDeskModel" "order" "[I", .methodLink RX6 84 yX6_rowsOf, .instanceMethod yX6_rowsOf, .selects RX6 yX6_rowsOf yX6_rowsOf, .code yX6_rowsOf cX6_rowsOf 5 (some .int)] ++ wsX60)
def wsX6_group_r1 : List Cond := [Cond.fieldLink RX6 43 "JoinDeskModel" "prepared" "Z", Cond.fieldLink RX6 47 "JoinDeskModel" "grouped" "Z", Cond.constantLong RX6 96 (9223372036854775807), Cond.fieldLink RX6 98 "JoinDeskModel" "least" "J", Cond.constantLong RX6 101 (-9223372036854775808), Cond.fieldLink RX6 103 "JoinDeskModel" "greatest" "J", Cond.fieldLink RX6 22 "JoinDeskModel" "many" "[I", Cond.fieldLink RX6 13 "JoinDeskModel" "keys" "[I", Cond.fieldLink RX6 16 "JoinDeskModel" "values" "[I", Cond.methodLink RX6 93 yX6_groupAt, Cond.instanceMethod yX6_groupAt, Cond.selects RX6 yX6_groupAt yX6_groupAt, Cond.initialized RX6, Cond.code yX6_groupAt cX6_groupAt 5 (some .int), Cond.methodLink RX6 63 yX6_key, Cond.instanceMethod yX6_key, Cond.selects RX6 yX6_key yX6_key, Cond.code yX6_key cX6_key 3 (some .int), Cond.fieldLink RX6 19 "JoinDeskModel" "order" "[I", Cond.methodLink RX6 84 yX6_rowsOf, Cond.instanceMethod yX6_rowsOf, Cond.selects RX6 yX6_rowsOf yX6_rowsOf, Cond.code yX6_rowsOf cX6_rowsOf 5 (some .int), Cond.methodLink RX6 39 yX6_refuses]
def wsX6_group_r2 : List Cond := [Cond.instanceMethod yX6_refuses, Cond.selects RX6 yX6_refuses yX6_refuses, Cond.code yX6_refuses cX6_refuses 2 (some .boolean), Cond.fieldLink RX6 36 "JoinDeskModel" "code" "I"]
def wsX6_group : List Cond := .code yX6_group cX6_group 13 (some .long) :: ((wsX6_group_r1 ++ wsX6_group_r2) ++ wsX60)
def wsX6_sorted : List Cond := .code yX6_sorted cX6_sorted 5 (some .int) :: ([.fieldLink RX6 22 "JoinDeskModel" "many" "[I", .fieldLink RX6 43 "JoinDeskModel" "prepared" "Z", .fieldLink RX6 19 "JoinDeskModel" "order" "[I", .methodLink RX6 39 yX6_refuses, .instanceMethod yX6_refuses, .selects RX6 yX6_refuses yX6_refuses, .initialized RX6, .code yX6_refuses cX6_refuses 2 (some .boolean), .fieldLink RX6 36 "JoinDeskModel" "code" "I", .methodLink RX6 63 yX6_key, .instanceMethod yX6_key, .selects RX6 yX6_key yX6_key, .code yX6_key cX6_key 3 (some .int), .fieldLink RX6 13 "JoinDeskModel" "keys" "[I", .methodLink RX6 81 yX6_value, .instanceMethod yX6_value, .selects RX6 yX6_value yX6_value, .code yX6_value cX6_value 3 (some .int), .fieldLink RX6 16 "JoinDeskModel" "values" "[I"] ++ wsX60)
def wsX6_about : List Cond := .code yX6_about cX6_about 2 (some .long) :: ([.fieldLink RX6 53 "JoinDeskModel" "cells" "J", .fieldLink RX6 22 "JoinDeskModel" "many" "[I", .fieldLink RX6 43 "JoinDeskModel" "prepared" "Z", .fieldLink RX6 60 "JoinDeskModel" "kind" "I", .methodLink RX6 39 yX6_refuses, .instanceMethod yX6_refuses, .selects RX6 yX6_refuses yX6_refuses, .initialized RX6, .code yX6_refuses cX6_refuses 2 (some .boolean), .fieldLink RX6 36 "JoinDeskModel" "code" "I"] ++ wsX60)
def wsX6_clear : List Cond := .code yX6_clear cX6_clear 1 none :: ([.fieldLink RX6 36 "JoinDeskModel" "code" "I", .fieldLink RX6 22 "JoinDeskModel" "many" "[I", .fieldLink RX6 60 "JoinDeskModel" "kind" "I", .fieldLink RX6 43 "JoinDeskModel" "prepared" "Z", .fieldLink RX6 47 "JoinDeskModel" "grouped" "Z", .fieldLink RX6 57 "JoinDeskModel" "marked" "Z", .fieldLink RX6 53 "JoinDeskModel" "cells" "J", .methodLink RX6 50 yX6_begins, .instanceMethod yX6_begins, .selects RX6 yX6_begins yX6_begins, .initialized RX6, .code yX6_begins cX6_begins 2 none, .fieldLink RX6 25 "JoinDeskModel" "at" "[I"] ++ wsX60)
def wsJ9_max_7cf53 : List Cond := .code yJ9_max_7cf53 cJ9_max_7cf53 2 (some .int) :: ([])
def wsJ9_max_f86c9 : List Cond := .code yJ9_max_f86c9 cJ9_max_f86c9 4 (some .long) :: ([])
def wsJ9_min_7cf53 : List Cond := .code yJ9_min_7cf53 cJ9_min_7cf53 2 (some .int) :: ([])
def wsJ9_min_f86c9 : List Cond := .code yJ9_min_f86c9 cJ9_min_f86c9 4 (some .long) :: ([])
def wsL_cell : List Cond := .code yL_cell cL_cell 2 (some .int) :: ([])
def wsL_add_r1 : List Cond := [Cond.classLink RL 13 "java/lang/IllegalStateException", Cond.methodLink RL 7 yX5_add, Cond.instanceMethod yX5_add, Cond.selects RX5 yX5_add yX5_add, Cond.initialized RX5, Cond.code yX5_add cX5_add 5 (some .int), Cond.fieldLink RX5 41 "JoinDesk" "prepared" "Z", Cond.methodLink RX5 45 yX5_tableOf, Cond.instanceMethod yX5_tableOf, Cond.selects RX5 yX5_tableOf yX5_tableOf, Cond.code yX5_tableOf cX5_tableOf 2 (some (.object "JoinDesk$Table")), Cond.fieldLink RX5 18 "JoinDesk" "left" "LJoinDesk$Table;", Cond.fieldLink RX5 22 "JoinDesk" "right" "LJoinDesk$Table;", Cond.methodLink RX5 49 yX4_hasRoom, Cond.instanceMethod yX4_hasRoom, Cond.selects RX4 yX4_hasRoom yX4_hasRoom, Cond.initialized RX4, Cond.code yX4_hasRoom cX4_hasRoom 1 (some .boolean), Cond.fieldLink RX4 34 "JoinDesk$Table" "size" "I", Cond.fieldLink RX4 9 "JoinDesk$Table" "room" "I", Cond.methodLink RX5 53 yX5_requireState, Cond.static yX5_requireState, Cond.code yX5_requireState cX5_requireState 1 none, Cond.classLink RX5 180 "java/lang/IllegalStateException"]
def wsL_add_r2 : List Cond := [Cond.initialized "java/lang/IllegalStateException", Cond.methodLink RX5 57 yX4_append, Cond.instanceMethod yX4_append, Cond.selects RX4 yX4_append yX4_append, Cond.code yX4_append cX4_append 3 (some .int), Cond.fieldLink RX4 15 "JoinDesk$Table" "keys" "[I", Cond.fieldLink RX4 19 "JoinDesk$Table" "values" "[I", Cond.methodLink RX4 40 yX4_hasRoom]
def wsL_add : List Cond := .codeWith yL_add cL_add 6 (some .int) [(0, 12, 15, 13)] :: ((wsL_add_r1 ++ wsL_add_r2) ++ wsX50 ++ wsX40 ++ (vx_atS RX5 184 "java/lang/IllegalStateException" ["java/lang/RuntimeException", "java/lang/Exception"]).filter goodWord)
def wsL_kind_r1 : List Cond := [Cond.classLink RL 19 "java/lang/IllegalArgumentException", Cond.methodLink RL 15 yX5_kind, Cond.instanceMethod yX5_kind, Cond.selects RX5 yX5_kind yX5_kind, Cond.initialized RX5, Cond.code yX5_kind cX5_kind 2 none, Cond.fieldLink RX5 30 "JoinDesk" "cursor" "LJoinDesk$Cursor;", Cond.methodLink RX5 77 yX5_isBelow, Cond.static yX5_isBelow, Cond.code yX5_isBelow cX5_isBelow 2 (some .boolean), Cond.methodLink RX5 81 yX5_requireArgument, Cond.static yX5_requireArgument, Cond.code yX5_requireArgument cX5_requireArgument 1 none, Cond.classLink RX5 175 "java/lang/IllegalArgumentException", Cond.initialized "java/lang/IllegalArgumentException", Cond.methodLink RX5 84 yX0_useKind, Cond.instanceMethod yX0_useKind, Cond.selects RX0 yX0_useKind yX0_useKind, Cond.initialized RX0, Cond.code yX0_useKind cX0_useKind 2 none, Cond.fieldLink RX0 32 "JoinDesk$Cursor" "kind" "I", Cond.methodLink RX5 68 yX0_restart, Cond.instanceMethod yX0_restart, Cond.selects RX0 yX0_restart yX0_restart]
def wsL_kind_r2 : List Cond := [Cond.code yX0_restart cX0_restart 1 none, Cond.fieldLink RX0 21 "JoinDesk$Cursor" "here" "LJoinDesk$Position;", Cond.fieldLink RX0 36 "JoinDesk$Cursor" "cells" "J", Cond.methodLink RX0 46 yX2_stand, Cond.instanceMethod yX2_stand, Cond.selects RX2 yX2_stand yX2_stand, Cond.initialized RX2, Cond.code yX2_stand cX2_stand 4 none, Cond.fieldLink RX2 18 "JoinDesk$Position" "leftFrom" "I", Cond.fieldLink RX2 21 "JoinDesk$Position" "leftTo" "I", Cond.fieldLink RX2 24 "JoinDesk$Position" "rightFrom" "I", Cond.fieldLink RX2 27 "JoinDesk$Position" "rightTo" "I", Cond.fieldLink RX2 9 "JoinDesk$Position" "leftAt" "I", Cond.fieldLink RX2 15 "JoinDesk$Position" "rightAt" "I", Cond.fieldLink RX2 30 "JoinDesk$Position" "passed" "I", Cond.methodLink RX5 71 yX0_forgetMark, Cond.instanceMethod yX0_forgetMark, Cond.selects RX0 yX0_forgetMark yX0_forgetMark, Cond.code yX0_forgetMark cX0_forgetMark 1 none, Cond.fieldLink RX0 28 "JoinDesk$Cursor" "hasMark" "Z"]
def wsL_kind : List Cond := .codeWith yL_kind cL_kind 3 (some .int) [(0, 5, 8, 19)] :: ((wsL_kind_r1 ++ wsL_kind_r2) ++ wsX50 ++ wsX00 ++ wsX20 ++ (vx_atS RX5 179 "java/lang/IllegalArgumentException" ["java/lang/RuntimeException", "java/lang/Exception"]).filter goodWord)
def wsL_next_r1 : List Cond := [Cond.classLink RL 13 "java/lang/IllegalStateException", Cond.methodLink RL 21 yX5_next, Cond.instanceMethod yX5_next, Cond.selects RX5 yX5_next yX5_next, Cond.initialized RX5, Cond.code yX5_next cX5_next 1 (some .boolean), Cond.fieldLink RX5 41 "JoinDesk" "prepared" "Z", Cond.fieldLink RX5 30 "JoinDesk" "cursor" "LJoinDesk$Cursor;", Cond.methodLink RX5 53 yX5_requireState, Cond.static yX5_requireState, Cond.code yX5_requireState cX5_requireState 1 none, Cond.classLink RX5 180 "java/lang/IllegalStateException", Cond.initialized "java/lang/IllegalStateException", Cond.methodLink RX5 87 yX0_goOn, Cond.instanceMethod yX0_goOn, Cond.selects RX0 yX0_goOn yX0_goOn, Cond.initialized RX0, Cond.code yX0_goOn cX0_goOn 2 (some .boolean), Cond.fieldLink RX0 21 "JoinDesk$Cursor" "here" "LJoinDesk$Position;", Cond.fieldLink RX0 32 "JoinDesk$Cursor" "kind" "I", Cond.methodLink RX0 57 yX2_enterNextPair, Cond.instanceMethod yX2_enterNextPair, Cond.selects RX2 yX2_enterNextPair yX2_enterNextPair, Cond.initialized RX2]
def wsL_next_r2 : List Cond := [Cond.code yX2_enterNextPair cX2_enterNextPair 1 (some .boolean), Cond.fieldLink RX2 15 "JoinDesk$Position" "rightAt" "I", Cond.fieldLink RX2 27 "JoinDesk$Position" "rightTo" "I", Cond.fieldLink RX2 9 "JoinDesk$Position" "leftAt" "I", Cond.fieldLink RX2 21 "JoinDesk$Position" "leftTo" "I", Cond.fieldLink RX2 24 "JoinDesk$Position" "rightFrom" "I", Cond.fieldLink RX2 30 "JoinDesk$Position" "passed" "I", Cond.methodLink RX2 33 yX2_hasRightRows, Cond.instanceMethod yX2_hasRightRows, Cond.selects RX2 yX2_hasRightRows yX2_hasRightRows, Cond.code yX2_hasRightRows cX2_hasRightRows 1 (some .boolean), Cond.methodLink RX0 61 yX0_rowsAhead, Cond.instanceMethod yX0_rowsAhead, Cond.selects RX0 yX0_rowsAhead yX0_rowsAhead, Cond.code yX0_rowsAhead cX0_rowsAhead 1 (some .int), Cond.fieldLink RX0 9 "JoinDesk$Cursor" "left" "LJoinDesk$Table;", Cond.fieldLink RX0 15 "JoinDesk$Cursor" "right" "LJoinDesk$Table;", Cond.methodLink RX0 89 yX4_size, Cond.instanceMethod yX4_size, Cond.selects RX4 yX4_size yX4_size, Cond.initialized RX4, Cond.code yX4_size cX4_size 1 (some .int), Cond.fieldLink RX4 34 "JoinDesk$Table" "size" "I", Cond.methodLink RX0 65 yX0_comeToNewKeys]
def wsL_next_r3 : List Cond := [Cond.instanceMethod yX0_comeToNewKeys, Cond.selects RX0 yX0_comeToNewKeys yX0_comeToNewKeys, Cond.code yX0_comeToNewKeys cX0_comeToNewKeys 5 none, Cond.methodLink RX0 94 yX4_has, Cond.instanceMethod yX4_has, Cond.selects RX4 yX4_has yX4_has, Cond.code yX4_has cX4_has 2 (some .boolean), Cond.methodLink RX0 97 yX0_readKey, Cond.instanceMethod yX0_readKey, Cond.selects RX0 yX0_readKey yX0_readKey, Cond.code yX0_readKey cX0_readKey 3 (some .int), Cond.fieldLink RX0 36 "JoinDesk$Cursor" "cells" "J", Cond.methodLink RX0 109 yX4_keyAt, Cond.instanceMethod yX4_keyAt, Cond.selects RX4 yX4_keyAt yX4_keyAt, Cond.code yX4_keyAt cX4_keyAt 2 (some .int), Cond.fieldLink RX4 15 "JoinDesk$Table" "keys" "[I", Cond.fieldLink RX4 22 "JoinDesk$Table" "order" "[I", Cond.methodLink RX4 44 yX4_has, Cond.methodLink RX0 106 yX0_firstOtherKey, Cond.instanceMethod yX0_firstOtherKey, Cond.selects RX0 yX0_firstOtherKey yX0_firstOtherKey, Cond.code yX0_firstOtherKey cX0_firstOtherKey 5 (some .int), Cond.methodLink RX0 68 yX2_fits]
def wsL_next_r4 : List Cond := [Cond.instanceMethod yX2_fits, Cond.selects RX2 yX2_fits yX2_fits, Cond.code yX2_fits cX2_fits 2 (some .boolean), Cond.methodLink RX2 37 yX2_hasLeftRows, Cond.instanceMethod yX2_hasLeftRows, Cond.selects RX2 yX2_hasLeftRows yX2_hasLeftRows, Cond.code yX2_hasLeftRows cX2_hasLeftRows 1 (some .boolean), Cond.fieldLink RX2 18 "JoinDesk$Position" "leftFrom" "I", Cond.methodLink RX0 72 yX2_enterFirstPair, Cond.instanceMethod yX2_enterFirstPair, Cond.selects RX2 yX2_enterFirstPair yX2_enterFirstPair, Cond.code yX2_enterFirstPair cX2_enterFirstPair 1 none, Cond.methodLink RX0 46 yX2_stand, Cond.instanceMethod yX2_stand, Cond.selects RX2 yX2_stand yX2_stand, Cond.code yX2_stand cX2_stand 4 none]
def wsL_next : List Cond := .codeWith yL_next cL_next 3 (some .int) [(0, 15, 18, 13)] :: ((wsL_next_r1 ++ (wsL_next_r2 ++ (wsL_next_r3 ++ wsL_next_r4))) ++ wsX50 ++ wsX00 ++ wsX20 ++ wsX40 ++ (vx_atS RX5 184 "java/lang/IllegalStateException" ["java/lang/RuntimeException", "java/lang/Exception"]).filter goodWord)
def wsL_pair_r1 : List Cond := [Cond.classLink RL 19 "java/lang/IllegalArgumentException", Cond.methodLink RL 25 yX5_pair, Cond.instanceMethod yX5_pair, Cond.selects RX5 yX5_pair yX5_pair, Cond.initialized RX5, Cond.code yX5_pair cX5_pair 4 (some .int), Cond.fieldLink RX5 41 "JoinDesk" "prepared" "Z", Cond.fieldLink RX5 30 "JoinDesk" "cursor" "LJoinDesk$Cursor;", Cond.fieldLink RX5 18 "JoinDesk" "left" "LJoinDesk$Table;", Cond.fieldLink RX5 22 "JoinDesk" "right" "LJoinDesk$Table;", Cond.methodLink RX5 77 yX5_isBelow, Cond.static yX5_isBelow, Cond.code yX5_isBelow cX5_isBelow 2 (some .boolean), Cond.methodLink RX5 81 yX5_requireArgument, Cond.static yX5_requireArgument, Cond.code yX5_requireArgument cX5_requireArgument 1 none, Cond.classLink RX5 175 "java/lang/IllegalArgumentException", Cond.initialized "java/lang/IllegalArgumentException", Cond.methodLink RX5 90 yX0_leftPlace, Cond.instanceMethod yX0_leftPlace, Cond.selects RX0 yX0_leftPlace yX0_leftPlace, Cond.initialized RX0, Cond.code yX0_leftPlace cX0_leftPlace 1 (some .int), Cond.fieldLink RX0 21 "JoinDesk$Cursor" "here" "LJoinDesk$Position;"]
def wsL_pair_r2 : List Cond := [Cond.methodLink RX5 94 yX0_rightPlace, Cond.instanceMethod yX0_rightPlace, Cond.selects RX0 yX0_rightPlace yX0_rightPlace, Cond.code yX0_rightPlace cX0_rightPlace 1 (some .int), Cond.methodLink RX5 97 yX4_has, Cond.instanceMethod yX4_has, Cond.selects RX4 yX4_has yX4_has, Cond.initialized RX4, Cond.code yX4_has cX4_has 2 (some .boolean), Cond.fieldLink RX4 34 "JoinDesk$Table" "size" "I", Cond.methodLink RX5 101 yX4_keyAt, Cond.instanceMethod yX4_keyAt, Cond.selects RX4 yX4_keyAt yX4_keyAt, Cond.code yX4_keyAt cX4_keyAt 2 (some .int), Cond.fieldLink RX4 15 "JoinDesk$Table" "keys" "[I", Cond.fieldLink RX4 22 "JoinDesk$Table" "order" "[I", Cond.methodLink RX4 44 yX4_has, Cond.methodLink RX5 104 yX4_valueAt, Cond.instanceMethod yX4_valueAt, Cond.selects RX4 yX4_valueAt yX4_valueAt, Cond.code yX4_valueAt cX4_valueAt 2 (some .int), Cond.fieldLink RX4 19 "JoinDesk$Table" "values" "[I", Cond.methodLink RX5 107 yX4_numberAt, Cond.instanceMethod yX4_numberAt]
def wsL_pair_r3 : List Cond := [Cond.selects RX4 yX4_numberAt yX4_numberAt, Cond.code yX4_numberAt cX4_numberAt 2 (some .int)]
def wsL_pair : List Cond := .codeWith yL_pair cL_pair 4 (some .int) [(0, 9, 12, 19)] :: ((wsL_pair_r1 ++ (wsL_pair_r2 ++ wsL_pair_r3)) ++ wsX50 ++ wsX00 ++ wsX20 ++ wsX40 ++ (vx_atS RX5 179 "java/lang/IllegalArgumentException" ["java/lang/RuntimeException", "java/lang/Exception"]).filter goodWord)
def wsL_mark_r1 : List Cond := [Cond.classLink RL 13 "java/lang/IllegalStateException", Cond.methodLink RL 29 yX5_mark, Cond.instanceMethod yX5_mark, Cond.selects RX5 yX5_mark yX5_mark, Cond.initialized RX5, Cond.code yX5_mark cX5_mark 1 (some .int), Cond.fieldLink RX5 41 "JoinDesk" "prepared" "Z", Cond.fieldLink RX5 30 "JoinDesk" "cursor" "LJoinDesk$Cursor;", Cond.methodLink RX5 53 yX5_requireState, Cond.static yX5_requireState, Cond.code yX5_requireState cX5_requireState 1 none, Cond.classLink RX5 180 "java/lang/IllegalStateException", Cond.initialized "java/lang/IllegalStateException", Cond.methodLink RX5 110 yX0_setMark, Cond.instanceMethod yX0_setMark, Cond.selects RX0 yX0_setMark yX0_setMark, Cond.initialized RX0, Cond.code yX0_setMark cX0_setMark 1 (some .int), Cond.fieldLink RX0 25 "JoinDesk$Cursor" "marked" "LJoinDesk$Position;", Cond.fieldLink RX0 21 "JoinDesk$Cursor" "here" "LJoinDesk$Position;", Cond.fieldLink RX0 28 "JoinDesk$Cursor" "hasMark" "Z", Cond.methodLink RX0 50 yX2_copy, Cond.instanceMethod yX2_copy, Cond.selects RX2 yX2_copy yX2_copy]
def wsL_mark_r2 : List Cond := [Cond.initialized RX2, Cond.code yX2_copy cX2_copy 2 none, Cond.fieldLink RX2 18 "JoinDesk$Position" "leftFrom" "I", Cond.fieldLink RX2 21 "JoinDesk$Position" "leftTo" "I", Cond.fieldLink RX2 24 "JoinDesk$Position" "rightFrom" "I", Cond.fieldLink RX2 27 "JoinDesk$Position" "rightTo" "I", Cond.fieldLink RX2 9 "JoinDesk$Position" "leftAt" "I", Cond.fieldLink RX2 15 "JoinDesk$Position" "rightAt" "I", Cond.fieldLink RX2 30 "JoinDesk$Position" "passed" "I"]
def wsL_mark : List Cond := .codeWith yL_mark cL_mark 3 (some .int) [(0, 8, 11, 13)] :: ((wsL_mark_r1 ++ wsL_mark_r2) ++ wsX50 ++ wsX00 ++ wsX20 ++ (vx_atS RX5 184 "java/lang/IllegalStateException" ["java/lang/RuntimeException", "java/lang/Exception"]).filter goodWord)
def wsL_back_r1 : List Cond := [Cond.classLink RL 13 "java/lang/IllegalStateException", Cond.methodLink RL 33 yX5_back, Cond.instanceMethod yX5_back, Cond.selects RX5 yX5_back yX5_back, Cond.initialized RX5, Cond.code yX5_back cX5_back 1 (some .int), Cond.fieldLink RX5 41 "JoinDesk" "prepared" "Z", Cond.fieldLink RX5 30 "JoinDesk" "cursor" "LJoinDesk$Cursor;", Cond.methodLink RX5 113 yX0_hasMark, Cond.instanceMethod yX0_hasMark, Cond.selects RX0 yX0_hasMark yX0_hasMark, Cond.initialized RX0, Cond.code yX0_hasMark cX0_hasMark 1 (some .boolean), Cond.fieldLink RX0 28 "JoinDesk$Cursor" "hasMark" "Z", Cond.methodLink RX5 53 yX5_requireState, Cond.static yX5_requireState, Cond.code yX5_requireState cX5_requireState 1 none, Cond.classLink RX5 180 "java/lang/IllegalStateException", Cond.initialized "java/lang/IllegalStateException", Cond.methodLink RX5 116 yX0_goToMark, Cond.instanceMethod yX0_goToMark, Cond.selects RX0 yX0_goToMark yX0_goToMark, Cond.code yX0_goToMark cX0_goToMark 1 (some .int), Cond.fieldLink RX0 21 "JoinDesk$Cursor" "here" "LJoinDesk$Position;"]
def wsL_back_r2 : List Cond := [Cond.fieldLink RX0 25 "JoinDesk$Cursor" "marked" "LJoinDesk$Position;", Cond.methodLink RX0 50 yX2_copy, Cond.instanceMethod yX2_copy, Cond.selects RX2 yX2_copy yX2_copy, Cond.initialized RX2, Cond.code yX2_copy cX2_copy 2 none, Cond.fieldLink RX2 18 "JoinDesk$Position" "leftFrom" "I", Cond.fieldLink RX2 21 "JoinDesk$Position" "leftTo" "I", Cond.fieldLink RX2 24 "JoinDesk$Position" "rightFrom" "I", Cond.fieldLink RX2 27 "JoinDesk$Position" "rightTo" "I", Cond.fieldLink RX2 9 "JoinDesk$Position" "leftAt" "I", Cond.fieldLink RX2 15 "JoinDesk$Position" "rightAt" "I", Cond.fieldLink RX2 30 "JoinDesk$Position" "passed" "I"]
def wsL_back : List Cond := .codeWith yL_back cL_back 3 (some .int) [(0, 8, 11, 13)] :: ((wsL_back_r1 ++ wsL_back_r2) ++ wsX50 ++ wsX00 ++ wsX20 ++ (vx_atS RX5 184 "java/lang/IllegalStateException" ["java/lang/RuntimeException", "java/lang/Exception"]).filter goodWord)
def wsL_seek_r1 : List Cond := [Cond.classLink RL 13 "java/lang/IllegalStateException", Cond.methodLink RL 36 yX5_seek, Cond.instanceMethod yX5_seek, Cond.selects RX5 yX5_seek yX5_seek, Cond.initialized RX5, Cond.code yX5_seek cX5_seek 2 (some .boolean), Cond.fieldLink RX5 41 "JoinDesk" "prepared" "Z", Cond.fieldLink RX5 30 "JoinDesk" "cursor" "LJoinDesk$Cursor;", Cond.methodLink RX5 53 yX5_requireState, Cond.static yX5_requireState, Cond.code yX5_requireState cX5_requireState 1 none, Cond.classLink RX5 180 "java/lang/IllegalStateException", Cond.initialized "java/lang/IllegalStateException", Cond.methodLink RX5 119 yX0_goBefore, Cond.instanceMethod yX0_goBefore, Cond.selects RX0 yX0_goBefore yX0_goBefore, Cond.initialized RX0, Cond.code yX0_goBefore cX0_goBefore 5 (some .boolean), Cond.fieldLink RX0 9 "JoinDesk$Cursor" "left" "LJoinDesk$Table;", Cond.fieldLink RX0 15 "JoinDesk$Cursor" "right" "LJoinDesk$Table;", Cond.fieldLink RX0 32 "JoinDesk$Cursor" "kind" "I", Cond.fieldLink RX0 21 "JoinDesk$Cursor" "here" "LJoinDesk$Position;", Cond.methodLink RX0 81 yX0_firstNotBelow, Cond.instanceMethod yX0_firstNotBelow]
def wsL_seek_r2 : List Cond := [Cond.selects RX0 yX0_firstNotBelow yX0_firstNotBelow, Cond.code yX0_firstNotBelow cX0_firstNotBelow 7 (some .int), Cond.methodLink RX0 89 yX4_size, Cond.instanceMethod yX4_size, Cond.selects RX4 yX4_size yX4_size, Cond.initialized RX4, Cond.code yX4_size cX4_size 1 (some .int), Cond.fieldLink RX4 34 "JoinDesk$Table" "size" "I", Cond.methodLink RX0 97 yX0_readKey, Cond.instanceMethod yX0_readKey, Cond.selects RX0 yX0_readKey yX0_readKey, Cond.code yX0_readKey cX0_readKey 3 (some .int), Cond.fieldLink RX0 36 "JoinDesk$Cursor" "cells" "J", Cond.methodLink RX0 109 yX4_keyAt, Cond.instanceMethod yX4_keyAt, Cond.selects RX4 yX4_keyAt yX4_keyAt, Cond.code yX4_keyAt cX4_keyAt 2 (some .int), Cond.fieldLink RX4 15 "JoinDesk$Table" "keys" "[I", Cond.fieldLink RX4 22 "JoinDesk$Table" "order" "[I", Cond.methodLink RX4 44 yX4_has, Cond.instanceMethod yX4_has, Cond.selects RX4 yX4_has yX4_has, Cond.code yX4_has cX4_has 2 (some .boolean), Cond.static yX5_pairsBefore]
def wsL_seek_r3 : List Cond := [Cond.code yX5_pairsBefore cX5_pairsBefore 6 (some .int), Cond.methodLink RX5 185 yX4_partnersBefore, Cond.instanceMethod yX4_partnersBefore, Cond.selects RX4 yX4_partnersBefore yX4_partnersBefore, Cond.code yX4_partnersBefore cX4_partnersBefore 2 (some .int), Cond.fieldLink RX4 25 "JoinDesk$Table" "partnerSums" "[I", Cond.methodLink RX5 129 yX4_loneBefore, Cond.instanceMethod yX4_loneBefore, Cond.selects RX4 yX4_loneBefore yX4_loneBefore, Cond.code yX4_loneBefore cX4_loneBefore 2 (some .int), Cond.fieldLink RX4 28 "JoinDesk$Table" "loneSums" "[I", Cond.methodLink RX0 46 yX2_stand, Cond.instanceMethod yX2_stand, Cond.selects RX2 yX2_stand yX2_stand, Cond.initialized RX2, Cond.code yX2_stand cX2_stand 4 none, Cond.fieldLink RX2 18 "JoinDesk$Position" "leftFrom" "I", Cond.fieldLink RX2 21 "JoinDesk$Position" "leftTo" "I", Cond.fieldLink RX2 24 "JoinDesk$Position" "rightFrom" "I", Cond.fieldLink RX2 27 "JoinDesk$Position" "rightTo" "I", Cond.fieldLink RX2 9 "JoinDesk$Position" "leftAt" "I", Cond.fieldLink RX2 15 "JoinDesk$Position" "rightAt" "I", Cond.fieldLink RX2 30 "JoinDesk$Position" "passed" "I"]
def wsL_seek : List Cond := .codeWith yL_seek cL_seek 4 (some .int) [(0, 16, 19, 13)] :: ((wsL_seek_r1 ++ (wsL_seek_r2 ++ wsL_seek_r3)) ++ wsX50 ++ wsX00 ++ wsX40 ++ wsX20 ++ (vx_atS RX5 184 "java/lang/IllegalStateException" ["java/lang/RuntimeException", "java/lang/Exception"]).filter goodWord)
def wsL_rewind_r1 : List Cond := [Cond.classLink RL 13 "java/lang/IllegalStateException", Cond.methodLink RL 40 yX5_rewind, Cond.instanceMethod yX5_rewind, Cond.selects RX5 yX5_rewind yX5_rewind, Cond.initialized RX5, Cond.code yX5_rewind cX5_rewind 1 none, Cond.fieldLink RX5 41 "JoinDesk" "prepared" "Z", Cond.fieldLink RX5 30 "JoinDesk" "cursor" "LJoinDesk$Cursor;", Cond.methodLink RX5 53 yX5_requireState, Cond.static yX5_requireState, Cond.code yX5_requireState cX5_requireState 1 none, Cond.classLink RX5 180 "java/lang/IllegalStateException", Cond.initialized "java/lang/IllegalStateException", Cond.methodLink RX5 68 yX0_restart, Cond.instanceMethod yX0_restart, Cond.selects RX0 yX0_restart yX0_restart, Cond.initialized RX0, Cond.code yX0_restart cX0_restart 1 none, Cond.fieldLink RX0 21 "JoinDesk$Cursor" "here" "LJoinDesk$Position;", Cond.fieldLink RX0 36 "JoinDesk$Cursor" "cells" "J", Cond.methodLink RX0 46 yX2_stand, Cond.instanceMethod yX2_stand, Cond.selects RX2 yX2_stand yX2_stand, Cond.initialized RX2]
def wsL_rewind_r2 : List Cond := [Cond.code yX2_stand cX2_stand 4 none, Cond.fieldLink RX2 18 "JoinDesk$Position" "leftFrom" "I", Cond.fieldLink RX2 21 "JoinDesk$Position" "leftTo" "I", Cond.fieldLink RX2 24 "JoinDesk$Position" "rightFrom" "I", Cond.fieldLink RX2 27 "JoinDesk$Position" "rightTo" "I", Cond.fieldLink RX2 9 "JoinDesk$Position" "leftAt" "I", Cond.fieldLink RX2 15 "JoinDesk$Position" "rightAt" "I", Cond.fieldLink RX2 30 "JoinDesk$Position" "passed" "I"]
def wsL_rewind : List Cond := .codeWith yL_rewind cL_rewind 2 (some .int) [(0, 4, 7, 13)] :: ((wsL_rewind_r1 ++ wsL_rewind_r2) ++ wsX50 ++ wsX00 ++ wsX20 ++ (vx_atS RX5 184 "java/lang/IllegalStateException" ["java/lang/RuntimeException", "java/lang/Exception"]).filter goodWord)
def wsL_count_r1 : List Cond := [Cond.classLink RL 19 "java/lang/IllegalArgumentException", Cond.classLink RL 13 "java/lang/IllegalStateException", Cond.methodLink RL 43 yX5_count, Cond.instanceMethod yX5_count, Cond.selects RX5 yX5_count yX5_count, Cond.initialized RX5, Cond.code yX5_count cX5_count 2 (some .long), Cond.fieldLink RX5 41 "JoinDesk" "prepared" "Z", Cond.fieldLink RX5 18 "JoinDesk" "left" "LJoinDesk$Table;", Cond.fieldLink RX5 22 "JoinDesk" "right" "LJoinDesk$Table;", Cond.methodLink RX5 77 yX5_isBelow, Cond.static yX5_isBelow, Cond.code yX5_isBelow cX5_isBelow 2 (some .boolean), Cond.methodLink RX5 81 yX5_requireArgument, Cond.static yX5_requireArgument, Cond.code yX5_requireArgument cX5_requireArgument 1 none, Cond.classLink RX5 175 "java/lang/IllegalArgumentException", Cond.initialized "java/lang/IllegalArgumentException", Cond.methodLink RX5 53 yX5_requireState, Cond.static yX5_requireState, Cond.code yX5_requireState cX5_requireState 1 none, Cond.classLink RX5 180 "java/lang/IllegalStateException", Cond.initialized "java/lang/IllegalStateException", Cond.methodLink RX5 122 yX4_size]
def wsL_count_r2 : List Cond := [Cond.instanceMethod yX4_size, Cond.selects RX4 yX4_size yX4_size, Cond.initialized RX4, Cond.code yX4_size cX4_size 1 (some .int), Cond.fieldLink RX4 34 "JoinDesk$Table" "size" "I", Cond.methodLink RX5 125 yX5_pairsBefore, Cond.static yX5_pairsBefore, Cond.code yX5_pairsBefore cX5_pairsBefore 6 (some .int), Cond.methodLink RX5 185 yX4_partnersBefore, Cond.instanceMethod yX4_partnersBefore, Cond.selects RX4 yX4_partnersBefore yX4_partnersBefore, Cond.code yX4_partnersBefore cX4_partnersBefore 2 (some .int), Cond.fieldLink RX4 25 "JoinDesk$Table" "partnerSums" "[I", Cond.methodLink RX5 129 yX4_loneBefore, Cond.instanceMethod yX4_loneBefore, Cond.selects RX4 yX4_loneBefore yX4_loneBefore, Cond.code yX4_loneBefore cX4_loneBefore 2 (some .int), Cond.fieldLink RX4 28 "JoinDesk$Table" "loneSums" "[I"]
def wsL_count : List Cond := .codeWith yL_count cL_count 4 (some .int) [(0, 8, 11, 19), (0, 8, 14, 13)] :: ((wsL_count_r1 ++ wsL_count_r2) ++ wsX50 ++ wsX40 ++ (vx_atS RX5 179 "java/lang/IllegalArgumentException" ["java/lang/RuntimeException", "java/lang/Exception"]).filter goodWord ++ (vx_atS RX5 184 "java/lang/IllegalStateException" ["java/lang/RuntimeException", "java/lang/Exception"]).filter goodWord)
def wsL_rows_r1 : List Cond := [Cond.classLink RL 13 "java/lang/IllegalStateException", Cond.methodLink RL 47 yX5_rows, Cond.instanceMethod yX5_rows, Cond.selects RX5 yX5_rows yX5_rows, Cond.initialized RX5, Cond.code yX5_rows cX5_rows 5 (some .int), Cond.fieldLink RX5 41 "JoinDesk" "prepared" "Z", Cond.methodLink RX5 53 yX5_requireState, Cond.static yX5_requireState, Cond.code yX5_requireState cX5_requireState 1 none, Cond.classLink RX5 180 "java/lang/IllegalStateException", Cond.initialized "java/lang/IllegalStateException", Cond.methodLink RX5 45 yX5_tableOf, Cond.instanceMethod yX5_tableOf, Cond.selects RX5 yX5_tableOf yX5_tableOf, Cond.code yX5_tableOf cX5_tableOf 2 (some (.object "JoinDesk$Table")), Cond.fieldLink RX5 18 "JoinDesk" "left" "LJoinDesk$Table;", Cond.fieldLink RX5 22 "JoinDesk" "right" "LJoinDesk$Table;", Cond.methodLink RX5 122 yX4_size, Cond.instanceMethod yX4_size, Cond.selects RX4 yX4_size yX4_size, Cond.initialized RX4, Cond.code yX4_size cX4_size 1 (some .int), Cond.fieldLink RX4 34 "JoinDesk$Table" "size" "I"]
def wsL_rows_r2 : List Cond := [Cond.methodLink RX5 129 yX4_loneBefore, Cond.instanceMethod yX4_loneBefore, Cond.selects RX4 yX4_loneBefore yX4_loneBefore, Cond.code yX4_loneBefore cX4_loneBefore 2 (some .int), Cond.fieldLink RX4 28 "JoinDesk$Table" "loneSums" "[I"]
def wsL_rows : List Cond := .codeWith yL_rows cL_rows 5 (some .int) [(0, 10, 13, 13)] :: ((wsL_rows_r1 ++ wsL_rows_r2) ++ wsX50 ++ wsX40 ++ (vx_atS RX5 184 "java/lang/IllegalStateException" ["java/lang/RuntimeException", "java/lang/Exception"]).filter goodWord)
def wsL_groups_r1 : List Cond := [Cond.classLink RL 13 "java/lang/IllegalStateException", Cond.classLink RL 54 "java/lang/UnsupportedOperationException", Cond.methodLink RL 51 yX5_groups, Cond.instanceMethod yX5_groups, Cond.selects RX5 yX5_groups yX5_groups, Cond.initialized RX5, Cond.code yX5_groups cX5_groups 1 (some .int), Cond.classLink RX5 138 "java/lang/UnsupportedOperationException", Cond.initialized "java/lang/UnsupportedOperationException", Cond.fieldLink RX5 41 "JoinDesk" "prepared" "Z", Cond.fieldLink RX5 18 "JoinDesk" "left" "LJoinDesk$Table;", Cond.fieldLink RX5 37 "JoinDesk" "book" "LJoinDesk$GroupBook;", Cond.fieldLink RX5 22 "JoinDesk" "right" "LJoinDesk$Table;", Cond.methodLink RX5 53 yX5_requireState, Cond.static yX5_requireState, Cond.code yX5_requireState cX5_requireState 1 none, Cond.classLink RX5 180 "java/lang/IllegalStateException", Cond.initialized "java/lang/IllegalStateException", Cond.methodLink RX5 132 yX4_groupStarts, Cond.instanceMethod yX4_groupStarts, Cond.selects RX4 yX4_groupStarts yX4_groupStarts, Cond.initialized RX4, Cond.code yX4_groupStarts cX4_groupStarts 3 (some .int), Cond.fieldLink RX4 34 "JoinDesk$Table" "size" "I"]
def wsL_groups_r2 : List Cond := [Cond.methodLink RX4 59 yX4_startsGroup, Cond.instanceMethod yX4_startsGroup, Cond.selects RX4 yX4_startsGroup yX4_startsGroup, Cond.code yX4_startsGroup cX4_startsGroup 3 (some .boolean), Cond.methodLink RX4 52 yX4_keyAt, Cond.instanceMethod yX4_keyAt, Cond.selects RX4 yX4_keyAt yX4_keyAt, Cond.code yX4_keyAt cX4_keyAt 2 (some .int), Cond.fieldLink RX4 15 "JoinDesk$Table" "keys" "[I", Cond.fieldLink RX4 22 "JoinDesk$Table" "order" "[I", Cond.methodLink RX4 44 yX4_has, Cond.instanceMethod yX4_has, Cond.selects RX4 yX4_has yX4_has, Cond.code yX4_has cX4_has 2 (some .boolean), Cond.methodLink RX4 56 yX4_partnersBefore, Cond.instanceMethod yX4_partnersBefore, Cond.selects RX4 yX4_partnersBefore yX4_partnersBefore, Cond.code yX4_partnersBefore cX4_partnersBefore 2 (some .int), Cond.fieldLink RX4 25 "JoinDesk$Table" "partnerSums" "[I", Cond.methodLink RX5 135 yX1_room, Cond.instanceMethod yX1_room, Cond.selects RX1 yX1_room yX1_room, Cond.initialized RX1, Cond.code yX1_room cX1_room 1 (some .int)]
def wsL_groups_r3 : List Cond := [Cond.fieldLink RX1 9 "JoinDesk$GroupBook" "room" "I", Cond.methodLink RX5 145 yX1_tell, Cond.instanceMethod yX1_tell, Cond.selects RX1 yX1_tell yX1_tell, Cond.code yX1_tell cX1_tell 4 (some .int), Cond.fieldLink RX1 30 "JoinDesk$GroupBook" "size" "I", Cond.fieldLink RX1 23 "JoinDesk$GroupBook" "leftSpan" "LJoinDesk$Span;", Cond.fieldLink RX1 27 "JoinDesk$GroupBook" "rightSpan" "LJoinDesk$Span;", Cond.fieldLink RX1 33 "JoinDesk$GroupBook" "told" "Z", Cond.methodLink RX1 45 yX4_size, Cond.instanceMethod yX4_size, Cond.selects RX4 yX4_size yX4_size, Cond.code yX4_size cX4_size 1 (some .int), Cond.methodLink RX1 50 yX4_startsGroup, Cond.methodLink RX1 53 yX3_measure, Cond.instanceMethod yX3_measure, Cond.selects RX3 yX3_measure yX3_measure, Cond.initialized RX3, Cond.code yX3_measure cX3_measure 7 none, Cond.fieldLink RX3 7 "JoinDesk$Span" "rows" "I", Cond.fieldLink RX3 13 "JoinDesk$Span" "sum" "J", Cond.fieldLink RX3 23 "JoinDesk$Span" "least" "J", Cond.fieldLink RX3 26 "JoinDesk$Span" "greatest" "J", Cond.methodLink RX3 36 Lib.MathLoose.min_long.x]
def wsL_groups_r4 : List Cond := [Cond.static Lib.MathLoose.min_long.x, Cond.initialized "java/lang/Math", Cond.code Lib.MathLoose.min_long.x Lib.MathLoose.min_long.code 4 (some .long), Cond.methodLink RX3 42 Lib.MathLoose.max_long.x, Cond.static Lib.MathLoose.max_long.x, Cond.code Lib.MathLoose.max_long.x Lib.MathLoose.max_long.code 4 (some .long), Cond.methodLink RX3 17 yX4_valueAt, Cond.instanceMethod yX4_valueAt, Cond.selects RX4 yX4_valueAt yX4_valueAt, Cond.code yX4_valueAt cX4_valueAt 2 (some .int), Cond.fieldLink RX4 19 "JoinDesk$Table" "values" "[I", Cond.methodLink RX3 29 yX4_keyAt, Cond.methodLink RX3 32 yX4_size, Cond.methodLink RX1 57 yX4_firstPartnerOf, Cond.instanceMethod yX4_firstPartnerOf, Cond.selects RX4 yX4_firstPartnerOf yX4_firstPartnerOf, Cond.code yX4_firstPartnerOf cX4_firstPartnerOf 2 (some .int), Cond.fieldLink RX4 31 "JoinDesk$Table" "firstPartners" "[I", Cond.methodLink RX1 61 yX4_keyAt, Cond.methodLink RX1 64 yX1_write, Cond.instanceMethod yX1_write, Cond.selects RX1 yX1_write yX1_write, Cond.code yX1_write cX1_write 11 none, Cond.fieldLink RX1 17 "JoinDesk$GroupBook" "facts" "[[J"]
def wsL_groups_r5 : List Cond := [Cond.methodLink RX1 81 Lib.MathLoose.min_long.x, Cond.methodLink RX1 87 Lib.MathLoose.max_long.x]
def wsL_groups : List Cond := .codeWith yL_groups cL_groups 3 (some .int) [(0, 8, 11, 13), (0, 8, 14, 54)] :: ((wsL_groups_r1 ++ (wsL_groups_r2 ++ (wsL_groups_r3 ++ (wsL_groups_r4 ++ wsL_groups_r5)))) ++ wsX50 ++ wsX40 ++ wsX10 ++ wsX30 ++ (vx_atS RX5 142 "java/lang/UnsupportedOperationException" ["java/lang/RuntimeException", "java/lang/Exception"]).filter goodWord ++ (vx_atS RX5 184 "java/lang/IllegalStateException" ["java/lang/RuntimeException", "java/lang/Exception"]).filter goodWord)
def wsL_group_r1 : List Cond := [Cond.classLink RL 19 "java/lang/IllegalArgumentException", Cond.classLink RL 13 "java/lang/IllegalStateException", Cond.methodLink RL 56 yX5_group, Cond.instanceMethod yX5_group, Cond.selects RX5 yX5_group yX5_group, Cond.initialized RX5, Cond.code yX5_group cX5_group 4 (some .long), Cond.fieldLink RX5 41 "JoinDesk" "prepared" "Z", Cond.fieldLink RX5 37 "JoinDesk" "book" "LJoinDesk$GroupBook;", Cond.methodLink RX5 149 yX1_isTold, Cond.instanceMethod yX1_isTold, Cond.selects RX1 yX1_isTold yX1_isTold, Cond.initialized RX1, Cond.code yX1_isTold cX1_isTold 1 (some .boolean), Cond.fieldLink RX1 33 "JoinDesk$GroupBook" "told" "Z", Cond.methodLink RX5 152 yX1_has, Cond.instanceMethod yX1_has, Cond.selects RX1 yX1_has yX1_has, Cond.code yX1_has cX1_has 2 (some .boolean), Cond.fieldLink RX1 30 "JoinDesk$GroupBook" "size" "I", Cond.methodLink RX5 77 yX5_isBelow, Cond.static yX5_isBelow, Cond.code yX5_isBelow cX5_isBelow 2 (some .boolean), Cond.methodLink RX5 81 yX5_requireArgument]
def wsL_group_r2 : List Cond := [Cond.static yX5_requireArgument, Cond.code yX5_requireArgument cX5_requireArgument 1 none, Cond.classLink RX5 175 "java/lang/IllegalArgumentException", Cond.initialized "java/lang/IllegalArgumentException", Cond.methodLink RX5 53 yX5_requireState, Cond.static yX5_requireState, Cond.code yX5_requireState cX5_requireState 1 none, Cond.classLink RX5 180 "java/lang/IllegalStateException", Cond.initialized "java/lang/IllegalStateException", Cond.methodLink RX5 153 yX1_fact, Cond.instanceMethod yX1_fact, Cond.selects RX1 yX1_fact yX1_fact, Cond.code yX1_fact cX1_fact 3 (some .long), Cond.fieldLink RX1 17 "JoinDesk$GroupBook" "facts" "[[J", Cond.methodLink RX1 37 yX1_has]
def wsL_group : List Cond := .codeWith yL_group cL_group 5 (some .int) [(0, 9, 12, 19), (0, 9, 16, 13)] :: ((wsL_group_r1 ++ wsL_group_r2) ++ wsX50 ++ wsX10 ++ (vx_atS RX5 179 "java/lang/IllegalArgumentException" ["java/lang/RuntimeException", "java/lang/Exception"]).filter goodWord ++ (vx_atS RX5 184 "java/lang/IllegalStateException" ["java/lang/RuntimeException", "java/lang/Exception"]).filter goodWord)
def wsL_sorted_r1 : List Cond := [Cond.classLink RL 19 "java/lang/IllegalArgumentException", Cond.classLink RL 13 "java/lang/IllegalStateException", Cond.methodLink RL 60 yX5_sorted, Cond.instanceMethod yX5_sorted, Cond.selects RX5 yX5_sorted yX5_sorted, Cond.initialized RX5, Cond.code yX5_sorted cX5_sorted 5 (some .int), Cond.fieldLink RX5 41 "JoinDesk" "prepared" "Z", Cond.methodLink RX5 45 yX5_tableOf, Cond.instanceMethod yX5_tableOf, Cond.selects RX5 yX5_tableOf yX5_tableOf, Cond.code yX5_tableOf cX5_tableOf 2 (some (.object "JoinDesk$Table")), Cond.fieldLink RX5 18 "JoinDesk" "left" "LJoinDesk$Table;", Cond.fieldLink RX5 22 "JoinDesk" "right" "LJoinDesk$Table;", Cond.methodLink RX5 97 yX4_has, Cond.instanceMethod yX4_has, Cond.selects RX4 yX4_has yX4_has, Cond.initialized RX4, Cond.code yX4_has cX4_has 2 (some .boolean), Cond.fieldLink RX4 34 "JoinDesk$Table" "size" "I", Cond.methodLink RX5 77 yX5_isBelow, Cond.static yX5_isBelow, Cond.code yX5_isBelow cX5_isBelow 2 (some .boolean), Cond.methodLink RX5 81 yX5_requireArgument]
def wsL_sorted_r2 : List Cond := [Cond.static yX5_requireArgument, Cond.code yX5_requireArgument cX5_requireArgument 1 none, Cond.classLink RX5 175 "java/lang/IllegalArgumentException", Cond.initialized "java/lang/IllegalArgumentException", Cond.methodLink RX5 53 yX5_requireState, Cond.static yX5_requireState, Cond.code yX5_requireState cX5_requireState 1 none, Cond.classLink RX5 180 "java/lang/IllegalStateException", Cond.initialized "java/lang/IllegalStateException", Cond.methodLink RX5 101 yX4_keyAt, Cond.instanceMethod yX4_keyAt, Cond.selects RX4 yX4_keyAt yX4_keyAt, Cond.code yX4_keyAt cX4_keyAt 2 (some .int), Cond.fieldLink RX4 15 "JoinDesk$Table" "keys" "[I", Cond.fieldLink RX4 22 "JoinDesk$Table" "order" "[I", Cond.methodLink RX4 44 yX4_has, Cond.methodLink RX5 104 yX4_valueAt, Cond.instanceMethod yX4_valueAt, Cond.selects RX4 yX4_valueAt yX4_valueAt, Cond.code yX4_valueAt cX4_valueAt 2 (some .int), Cond.fieldLink RX4 19 "JoinDesk$Table" "values" "[I", Cond.methodLink RX5 107 yX4_numberAt, Cond.instanceMethod yX4_numberAt, Cond.selects RX4 yX4_numberAt yX4_numberAt]
def wsL_sorted_r3 : List Cond := [Cond.code yX4_numberAt cX4_numberAt 2 (some .int)]
def wsL_sorted : List Cond := .codeWith yL_sorted cL_sorted 6 (some .int) [(0, 12, 15, 19), (0, 12, 19, 13)] :: ((wsL_sorted_r1 ++ (wsL_sorted_r2 ++ wsL_sorted_r3)) ++ wsX50 ++ wsX40 ++ (vx_atS RX5 179 "java/lang/IllegalArgumentException" ["java/lang/RuntimeException", "java/lang/Exception"]).filter goodWord ++ (vx_atS RX5 184 "java/lang/IllegalStateException" ["java/lang/RuntimeException", "java/lang/Exception"]).filter goodWord)
def wsL_about_r1 : List Cond := [Cond.classLink RL 19 "java/lang/IllegalArgumentException", Cond.methodLink RL 63 yX5_about, Cond.instanceMethod yX5_about, Cond.selects RX5 yX5_about yX5_about, Cond.initialized RX5, Cond.code yX5_about cX5_about 2 (some .long), Cond.fieldLink RX5 30 "JoinDesk" "cursor" "LJoinDesk$Cursor;", Cond.fieldLink RX5 18 "JoinDesk" "left" "LJoinDesk$Table;", Cond.fieldLink RX5 22 "JoinDesk" "right" "LJoinDesk$Table;", Cond.fieldLink RX5 41 "JoinDesk" "prepared" "Z", Cond.methodLink RX5 77 yX5_isBelow, Cond.static yX5_isBelow, Cond.code yX5_isBelow cX5_isBelow 2 (some .boolean), Cond.methodLink RX5 81 yX5_requireArgument, Cond.static yX5_requireArgument, Cond.code yX5_requireArgument cX5_requireArgument 1 none, Cond.classLink RX5 175 "java/lang/IllegalArgumentException", Cond.initialized "java/lang/IllegalArgumentException", Cond.methodLink RX5 157 yX0_cellsRead, Cond.instanceMethod yX0_cellsRead, Cond.selects RX0 yX0_cellsRead yX0_cellsRead, Cond.initialized RX0, Cond.code yX0_cellsRead cX0_cellsRead 1 (some .long), Cond.fieldLink RX0 36 "JoinDesk$Cursor" "cells" "J"]
def wsL_about_r2 : List Cond := [Cond.methodLink RX5 122 yX4_size, Cond.instanceMethod yX4_size, Cond.selects RX4 yX4_size yX4_size, Cond.initialized RX4, Cond.code yX4_size cX4_size 1 (some .int), Cond.fieldLink RX4 34 "JoinDesk$Table" "size" "I", Cond.methodLink RX5 161 yX0_kindInUse, Cond.instanceMethod yX0_kindInUse, Cond.selects RX0 yX0_kindInUse yX0_kindInUse, Cond.code yX0_kindInUse cX0_kindInUse 1 (some .int), Cond.fieldLink RX0 32 "JoinDesk$Cursor" "kind" "I"]
def wsL_about : List Cond := .codeWith yL_about cL_about 4 (some .int) [(0, 8, 11, 19)] :: ((wsL_about_r1 ++ wsL_about_r2) ++ wsX50 ++ wsX00 ++ wsX40 ++ (vx_atS RX5 179 "java/lang/IllegalArgumentException" ["java/lang/RuntimeException", "java/lang/Exception"]).filter goodWord)
def wsL_law0_r1 : List Cond := [Cond.classLink RL 8 RX5, Cond.instantiable RX5 5, Cond.initialized RX5, Cond.classLink RL 75 RX6, Cond.instantiable RX6 15, Cond.initialized RX6, Cond.arrayClass .long, Cond.methodLink RL 66 yL_cell, Cond.static yL_cell, Cond.initialized RL, Cond.code yL_cell cL_cell 2 (some .int), Cond.methodLink RL 72 yX5_init, Cond.instanceMethod yX5_init, Cond.code yX5_init cX5_init 6 none, Cond.methodLink RX5 1 objectInit, Cond.instanceMethod objectInit, Cond.code objectInit ⟨#[0xb1]⟩ 1 none, Cond.classLink RX5 7 RX4, Cond.instantiable RX4 9, Cond.initialized RX4, Cond.fieldLink RX5 18 "JoinDesk" "left" "LJoinDesk$Table;", Cond.fieldLink RX5 22 "JoinDesk" "right" "LJoinDesk$Table;", Cond.classLink RX5 25 RX0, Cond.instantiable RX0 7]
def wsL_law0_r2 : List Cond := [Cond.initialized RX0, Cond.fieldLink RX5 30 "JoinDesk" "cursor" "LJoinDesk$Cursor;", Cond.classLink RX5 34 RX1, Cond.instantiable RX1 6, Cond.initialized RX1, Cond.fieldLink RX5 37 "JoinDesk" "book" "LJoinDesk$GroupBook;", Cond.fieldLink RX5 41 "JoinDesk" "prepared" "Z", Cond.methodLink RX5 9 yX5_roomFor, Cond.static yX5_roomFor, Cond.code yX5_roomFor cX5_roomFor 1 (some .int), Cond.methodLink RX5 167 Lib.Math.min.name, Cond.static Lib.Math.min.name, Cond.initialized "java/lang/Math", Cond.code Lib.Math.min.name Lib.Math.min.code 2 (some .int), Cond.methodLink RX5 172 Lib.Math.max.name, Cond.static Lib.Math.max.name, Cond.code Lib.Math.max.name Lib.Math.max.code 2 (some .int), Cond.methodLink RX5 15 yX4_init, Cond.instanceMethod yX4_init, Cond.code yX4_init cX4_init 2 none, Cond.methodLink RX4 3 objectInit, Cond.fieldLink RX4 9 "JoinDesk$Table" "room" "I", Cond.arrayClass .int, Cond.fieldLink RX4 15 "JoinDesk$Table" "keys" "[I"]
def wsL_law0_r3 : List Cond := [Cond.fieldLink RX4 19 "JoinDesk$Table" "values" "[I", Cond.fieldLink RX4 22 "JoinDesk$Table" "order" "[I", Cond.fieldLink RX4 25 "JoinDesk$Table" "partnerSums" "[I", Cond.fieldLink RX4 28 "JoinDesk$Table" "loneSums" "[I", Cond.fieldLink RX4 31 "JoinDesk$Table" "firstPartners" "[I", Cond.fieldLink RX4 34 "JoinDesk$Table" "size" "I", Cond.fieldLink RX4 37 "JoinDesk$Table" "placed" "I", Cond.methodLink RX5 27 yX0_init, Cond.instanceMethod yX0_init, Cond.code yX0_init cX0_init 3 none, Cond.methodLink RX0 3 objectInit, Cond.fieldLink RX0 9 "JoinDesk$Cursor" "left" "LJoinDesk$Table;", Cond.fieldLink RX0 15 "JoinDesk$Cursor" "right" "LJoinDesk$Table;", Cond.classLink RX0 18 RX2, Cond.instantiable RX2 7, Cond.initialized RX2, Cond.fieldLink RX0 21 "JoinDesk$Cursor" "here" "LJoinDesk$Position;", Cond.fieldLink RX0 25 "JoinDesk$Cursor" "marked" "LJoinDesk$Position;", Cond.fieldLink RX0 28 "JoinDesk$Cursor" "hasMark" "Z", Cond.fieldLink RX0 32 "JoinDesk$Cursor" "kind" "I", Cond.fieldLink RX0 36 "JoinDesk$Cursor" "cells" "J", Cond.methodLink RX0 20 yX2_init, Cond.instanceMethod yX2_init, Cond.code yX2_init cX2_init 1 none]
def wsL_law0_r4 : List Cond := [Cond.methodLink RX2 3 objectInit, Cond.fieldLink RX2 9 "JoinDesk$Position" "leftAt" "I", Cond.fieldLink RX2 15 "JoinDesk$Position" "rightAt" "I", Cond.methodLink RX5 36 yX1_init, Cond.instanceMethod yX1_init, Cond.code yX1_init cX1_init 2 none, Cond.methodLink RX1 3 objectInit, Cond.fieldLink RX1 9 "JoinDesk$GroupBook" "room" "I", Cond.classLink RX1 15 "[[J", Cond.fieldLink RX1 17 "JoinDesk$GroupBook" "facts" "[[J", Cond.classLink RX1 20 RX3, Cond.instantiable RX3 4, Cond.initialized RX3, Cond.fieldLink RX1 23 "JoinDesk$GroupBook" "leftSpan" "LJoinDesk$Span;", Cond.fieldLink RX1 27 "JoinDesk$GroupBook" "rightSpan" "LJoinDesk$Span;", Cond.fieldLink RX1 30 "JoinDesk$GroupBook" "size" "I", Cond.fieldLink RX1 33 "JoinDesk$GroupBook" "told" "Z", Cond.instanceMethod yX3_init, Cond.code yX3_init cX3_init 1 none, Cond.methodLink RX3 1 objectInit, Cond.methodLink RL 77 yX6_init, Cond.instanceMethod yX6_init, Cond.code yX6_init cX6_init 4 none, Cond.methodLink RX6 1 objectInit]
def wsL_law0_r5 : List Cond := [Cond.fieldLink RX6 7 "JoinDeskModel" "most" "[I", Cond.fieldLink RX6 13 "JoinDeskModel" "keys" "[I", Cond.fieldLink RX6 16 "JoinDeskModel" "values" "[I", Cond.fieldLink RX6 19 "JoinDeskModel" "order" "[I", Cond.fieldLink RX6 22 "JoinDeskModel" "many" "[I", Cond.fieldLink RX6 25 "JoinDeskModel" "at" "[I", Cond.fieldLink RX6 32 "JoinDeskModel" "room" "I", Cond.methodLink RX6 28 yX6_between, Cond.static yX6_between, Cond.code yX6_between cX6_between 1 (some .int), Cond.methodLink RL 78 yL_add, Cond.static yL_add, Cond.codeWith yL_add cL_add 6 (some .int) [(0, 12, 15, 13)], Cond.classLink RL 13 "java/lang/IllegalStateException", Cond.methodLink RL 7 yX5_add, Cond.instanceMethod yX5_add, Cond.selects RX5 yX5_add yX5_add, Cond.code yX5_add cX5_add 5 (some .int), Cond.methodLink RX5 45 yX5_tableOf, Cond.instanceMethod yX5_tableOf, Cond.selects RX5 yX5_tableOf yX5_tableOf, Cond.code yX5_tableOf cX5_tableOf 2 (some (.object "JoinDesk$Table")), Cond.methodLink RX5 49 yX4_hasRoom, Cond.instanceMethod yX4_hasRoom]
def wsL_law0_r6 : List Cond := [Cond.selects RX4 yX4_hasRoom yX4_hasRoom, Cond.code yX4_hasRoom cX4_hasRoom 1 (some .boolean), Cond.methodLink RX5 53 yX5_requireState, Cond.static yX5_requireState, Cond.code yX5_requireState cX5_requireState 1 none, Cond.classLink RX5 180 "java/lang/IllegalStateException", Cond.initialized "java/lang/IllegalStateException", Cond.methodLink RX5 57 yX4_append, Cond.instanceMethod yX4_append, Cond.selects RX4 yX4_append yX4_append, Cond.code yX4_append cX4_append 3 (some .int), Cond.methodLink RX4 40 yX4_hasRoom, Cond.methodLink RL 81 yX6_add, Cond.instanceMethod yX6_add, Cond.selects RX6 yX6_add yX6_add, Cond.code yX6_add cX6_add 6 (some .int), Cond.fieldLink RX6 43 "JoinDeskModel" "prepared" "Z", Cond.fieldLink RX6 47 "JoinDeskModel" "grouped" "Z", Cond.methodLink RX6 39 yX6_refuses, Cond.instanceMethod yX6_refuses, Cond.selects RX6 yX6_refuses yX6_refuses, Cond.code yX6_refuses cX6_refuses 2 (some .boolean), Cond.fieldLink RX6 36 "JoinDeskModel" "code" "I", Cond.methodLink RL 82 yX6_thrown]
def wsL_law0_r7 : List Cond := [Cond.instanceMethod yX6_thrown, Cond.selects RX6 yX6_thrown yX6_thrown, Cond.code yX6_thrown cX6_thrown 1 (some .int), Cond.methodLink RL 85 yX5_prepare, Cond.instanceMethod yX5_prepare, Cond.selects RX5 yX5_prepare yX5_prepare, Cond.code yX5_prepare cX5_prepare 1 none, Cond.methodLink RX5 61 yX4_sortRows, Cond.instanceMethod yX4_sortRows, Cond.selects RX4 yX4_sortRows yX4_sortRows, Cond.code yX4_sortRows cX4_sortRows 2 none, Cond.methodLink RX4 48 yX4_putInOrder, Cond.instanceMethod yX4_putInOrder, Cond.selects RX4 yX4_putInOrder yX4_putInOrder, Cond.code yX4_putInOrder cX4_putInOrder 3 none, Cond.methodLink RX5 64 yX4_findPartners, Cond.instanceMethod yX4_findPartners, Cond.selects RX4 yX4_findPartners yX4_findPartners, Cond.code yX4_findPartners cX4_findPartners 6 none, Cond.methodLink RX4 52 yX4_keyAt, Cond.instanceMethod yX4_keyAt, Cond.selects RX4 yX4_keyAt yX4_keyAt, Cond.code yX4_keyAt cX4_keyAt 2 (some .int), Cond.methodLink RX4 44 yX4_has]
def wsL_law0_r8 : List Cond := [Cond.instanceMethod yX4_has, Cond.selects RX4 yX4_has yX4_has, Cond.code yX4_has cX4_has 2 (some .boolean), Cond.methodLink RX5 68 yX0_restart, Cond.instanceMethod yX0_restart, Cond.selects RX0 yX0_restart yX0_restart, Cond.code yX0_restart cX0_restart 1 none, Cond.methodLink RX0 46 yX2_stand, Cond.instanceMethod yX2_stand, Cond.selects RX2 yX2_stand yX2_stand, Cond.code yX2_stand cX2_stand 4 none, Cond.fieldLink RX2 18 "JoinDesk$Position" "leftFrom" "I", Cond.fieldLink RX2 21 "JoinDesk$Position" "leftTo" "I", Cond.fieldLink RX2 24 "JoinDesk$Position" "rightFrom" "I", Cond.fieldLink RX2 27 "JoinDesk$Position" "rightTo" "I", Cond.fieldLink RX2 30 "JoinDesk$Position" "passed" "I", Cond.methodLink RX5 71 yX0_forgetMark, Cond.instanceMethod yX0_forgetMark, Cond.selects RX0 yX0_forgetMark yX0_forgetMark, Cond.code yX0_forgetMark cX0_forgetMark 1 none, Cond.methodLink RX5 74 yX1_forget, Cond.instanceMethod yX1_forget, Cond.selects RX1 yX1_forget yX1_forget, Cond.code yX1_forget cX1_forget 1 none]
def wsL_law0_r9 : List Cond := [Cond.methodLink RL 88 yX6_prepare, Cond.instanceMethod yX6_prepare, Cond.selects RX6 yX6_prepare yX6_prepare, Cond.code yX6_prepare cX6_prepare 4 none, Cond.fieldLink RX6 53 "JoinDeskModel" "cells" "J", Cond.fieldLink RX6 57 "JoinDeskModel" "marked" "Z", Cond.methodLink RX6 50 yX6_begins, Cond.instanceMethod yX6_begins, Cond.selects RX6 yX6_begins yX6_begins, Cond.code yX6_begins cX6_begins 2 none, Cond.methodLink RL 89 yL_kind, Cond.static yL_kind, Cond.codeWith yL_kind cL_kind 3 (some .int) [(0, 5, 8, 19)], Cond.classLink RL 19 "java/lang/IllegalArgumentException", Cond.methodLink RL 15 yX5_kind, Cond.instanceMethod yX5_kind, Cond.selects RX5 yX5_kind yX5_kind, Cond.code yX5_kind cX5_kind 2 none, Cond.methodLink RX5 77 yX5_isBelow, Cond.static yX5_isBelow, Cond.code yX5_isBelow cX5_isBelow 2 (some .boolean), Cond.methodLink RX5 81 yX5_requireArgument, Cond.static yX5_requireArgument, Cond.code yX5_requireArgument cX5_requireArgument 1 none]
def wsL_law0_r10 : List Cond := [Cond.classLink RX5 175 "java/lang/IllegalArgumentException", Cond.initialized "java/lang/IllegalArgumentException", Cond.methodLink RX5 84 yX0_useKind, Cond.instanceMethod yX0_useKind, Cond.selects RX0 yX0_useKind yX0_useKind, Cond.code yX0_useKind cX0_useKind 2 none, Cond.methodLink RL 92 yX6_kind, Cond.instanceMethod yX6_kind, Cond.selects RX6 yX6_kind yX6_kind, Cond.code yX6_kind cX6_kind 2 none, Cond.fieldLink RX6 60 "JoinDeskModel" "kind" "I", Cond.methodLink RL 93 yL_next, Cond.static yL_next, Cond.codeWith yL_next cL_next 3 (some .int) [(0, 15, 18, 13)], Cond.methodLink RL 21 yX5_next, Cond.instanceMethod yX5_next, Cond.selects RX5 yX5_next yX5_next, Cond.code yX5_next cX5_next 1 (some .boolean), Cond.methodLink RX5 87 yX0_goOn, Cond.instanceMethod yX0_goOn, Cond.selects RX0 yX0_goOn yX0_goOn, Cond.code yX0_goOn cX0_goOn 2 (some .boolean), Cond.methodLink RX0 57 yX2_enterNextPair, Cond.instanceMethod yX2_enterNextPair]
def wsL_law0_r11 : List Cond := [Cond.selects RX2 yX2_enterNextPair yX2_enterNextPair, Cond.code yX2_enterNextPair cX2_enterNextPair 1 (some .boolean), Cond.methodLink RX2 33 yX2_hasRightRows, Cond.instanceMethod yX2_hasRightRows, Cond.selects RX2 yX2_hasRightRows yX2_hasRightRows, Cond.code yX2_hasRightRows cX2_hasRightRows 1 (some .boolean), Cond.methodLink RX0 61 yX0_rowsAhead, Cond.instanceMethod yX0_rowsAhead, Cond.selects RX0 yX0_rowsAhead yX0_rowsAhead, Cond.code yX0_rowsAhead cX0_rowsAhead 1 (some .int), Cond.methodLink RX0 89 yX4_size, Cond.instanceMethod yX4_size, Cond.selects RX4 yX4_size yX4_size, Cond.code yX4_size cX4_size 1 (some .int), Cond.methodLink RX0 65 yX0_comeToNewKeys, Cond.instanceMethod yX0_comeToNewKeys, Cond.selects RX0 yX0_comeToNewKeys yX0_comeToNewKeys, Cond.code yX0_comeToNewKeys cX0_comeToNewKeys 5 none, Cond.methodLink RX0 94 yX4_has, Cond.methodLink RX0 97 yX0_readKey, Cond.instanceMethod yX0_readKey, Cond.selects RX0 yX0_readKey yX0_readKey, Cond.code yX0_readKey cX0_readKey 3 (some .int), Cond.methodLink RX0 109 yX4_keyAt]
def wsL_law0_r12 : List Cond := [Cond.methodLink RX0 106 yX0_firstOtherKey, Cond.instanceMethod yX0_firstOtherKey, Cond.selects RX0 yX0_firstOtherKey yX0_firstOtherKey, Cond.code yX0_firstOtherKey cX0_firstOtherKey 5 (some .int), Cond.methodLink RX0 68 yX2_fits, Cond.instanceMethod yX2_fits, Cond.selects RX2 yX2_fits yX2_fits, Cond.code yX2_fits cX2_fits 2 (some .boolean), Cond.methodLink RX2 37 yX2_hasLeftRows, Cond.instanceMethod yX2_hasLeftRows, Cond.selects RX2 yX2_hasLeftRows yX2_hasLeftRows, Cond.code yX2_hasLeftRows cX2_hasLeftRows 1 (some .boolean), Cond.methodLink RX0 72 yX2_enterFirstPair, Cond.instanceMethod yX2_enterFirstPair, Cond.selects RX2 yX2_enterFirstPair yX2_enterFirstPair, Cond.code yX2_enterFirstPair cX2_enterFirstPair 1 none, Cond.methodLink RL 96 yX6_next, Cond.instanceMethod yX6_next, Cond.selects RX6 yX6_next yX6_next, Cond.code yX6_next cX6_next 5 (some .boolean), Cond.constantLong RX6 71 (2), Cond.methodLink RX6 67 yX6_steps, Cond.instanceMethod yX6_steps, Cond.selects RX6 yX6_steps yX6_steps]
def wsL_law0_r13 : List Cond := [Cond.code yX6_steps cX6_steps 2 (some .boolean), Cond.methodLink RX6 63 yX6_key, Cond.instanceMethod yX6_key, Cond.selects RX6 yX6_key yX6_key, Cond.code yX6_key cX6_key 3 (some .int), Cond.methodLink RX6 73 yX6_goes, Cond.instanceMethod yX6_goes, Cond.selects RX6 yX6_goes yX6_goes, Cond.code yX6_goes cX6_goes 4 none, Cond.methodLink RX6 77 yX6_tells, Cond.static yX6_tells, Cond.code yX6_tells cX6_tells 2 (some .boolean), Cond.methodLink RL 97 yL_pair, Cond.static yL_pair, Cond.codeWith yL_pair cL_pair 4 (some .int) [(0, 9, 12, 19)], Cond.methodLink RL 25 yX5_pair, Cond.instanceMethod yX5_pair, Cond.selects RX5 yX5_pair yX5_pair, Cond.code yX5_pair cX5_pair 4 (some .int), Cond.methodLink RX5 90 yX0_leftPlace, Cond.instanceMethod yX0_leftPlace, Cond.selects RX0 yX0_leftPlace yX0_leftPlace, Cond.code yX0_leftPlace cX0_leftPlace 1 (some .int), Cond.methodLink RX5 94 yX0_rightPlace]
def wsL_law0_r14 : List Cond := [Cond.instanceMethod yX0_rightPlace, Cond.selects RX0 yX0_rightPlace yX0_rightPlace, Cond.code yX0_rightPlace cX0_rightPlace 1 (some .int), Cond.methodLink RX5 97 yX4_has, Cond.methodLink RX5 101 yX4_keyAt, Cond.methodLink RX5 104 yX4_valueAt, Cond.instanceMethod yX4_valueAt, Cond.selects RX4 yX4_valueAt yX4_valueAt, Cond.code yX4_valueAt cX4_valueAt 2 (some .int), Cond.methodLink RX5 107 yX4_numberAt, Cond.instanceMethod yX4_numberAt, Cond.selects RX4 yX4_numberAt yX4_numberAt, Cond.code yX4_numberAt cX4_numberAt 2 (some .int), Cond.methodLink RL 100 yX6_pair, Cond.instanceMethod yX6_pair, Cond.selects RX6 yX6_pair yX6_pair, Cond.code yX6_pair cX6_pair 5 (some .int), Cond.methodLink RX6 81 yX6_value, Cond.instanceMethod yX6_value, Cond.selects RX6 yX6_value yX6_value, Cond.code yX6_value cX6_value 3 (some .int), Cond.methodLink RL 101 yL_mark, Cond.static yL_mark, Cond.codeWith yL_mark cL_mark 3 (some .int) [(0, 8, 11, 13)]]
def wsL_law0_r15 : List Cond := [Cond.methodLink RL 29 yX5_mark, Cond.instanceMethod yX5_mark, Cond.selects RX5 yX5_mark yX5_mark, Cond.code yX5_mark cX5_mark 1 (some .int), Cond.methodLink RX5 110 yX0_setMark, Cond.instanceMethod yX0_setMark, Cond.selects RX0 yX0_setMark yX0_setMark, Cond.code yX0_setMark cX0_setMark 1 (some .int), Cond.methodLink RX0 50 yX2_copy, Cond.instanceMethod yX2_copy, Cond.selects RX2 yX2_copy yX2_copy, Cond.code yX2_copy cX2_copy 2 none, Cond.methodLink RL 103 yX6_mark, Cond.instanceMethod yX6_mark, Cond.selects RX6 yX6_mark yX6_mark, Cond.code yX6_mark cX6_mark 2 (some .int), Cond.methodLink RL 104 yL_back, Cond.static yL_back, Cond.codeWith yL_back cL_back 3 (some .int) [(0, 8, 11, 13)], Cond.methodLink RL 33 yX5_back, Cond.instanceMethod yX5_back, Cond.selects RX5 yX5_back yX5_back, Cond.code yX5_back cX5_back 1 (some .int), Cond.methodLink RX5 113 yX0_hasMark]
def wsL_law0_r16 : List Cond := [Cond.instanceMethod yX0_hasMark, Cond.selects RX0 yX0_hasMark yX0_hasMark, Cond.code yX0_hasMark cX0_hasMark 1 (some .boolean), Cond.methodLink RX5 116 yX0_goToMark, Cond.instanceMethod yX0_goToMark, Cond.selects RX0 yX0_goToMark yX0_goToMark, Cond.code yX0_goToMark cX0_goToMark 1 (some .int), Cond.methodLink RL 106 yX6_back, Cond.instanceMethod yX6_back, Cond.selects RX6 yX6_back yX6_back, Cond.code yX6_back cX6_back 2 (some .int), Cond.methodLink RL 107 yL_seek, Cond.static yL_seek, Cond.codeWith yL_seek cL_seek 4 (some .int) [(0, 16, 19, 13)], Cond.methodLink RL 36 yX5_seek, Cond.instanceMethod yX5_seek, Cond.selects RX5 yX5_seek yX5_seek, Cond.code yX5_seek cX5_seek 2 (some .boolean), Cond.methodLink RX5 119 yX0_goBefore, Cond.instanceMethod yX0_goBefore, Cond.selects RX0 yX0_goBefore yX0_goBefore, Cond.code yX0_goBefore cX0_goBefore 5 (some .boolean), Cond.methodLink RX0 81 yX0_firstNotBelow, Cond.instanceMethod yX0_firstNotBelow]
def wsL_law0_r17 : List Cond := [Cond.selects RX0 yX0_firstNotBelow yX0_firstNotBelow, Cond.code yX0_firstNotBelow cX0_firstNotBelow 7 (some .int), Cond.static yX5_pairsBefore, Cond.code yX5_pairsBefore cX5_pairsBefore 6 (some .int), Cond.methodLink RX5 185 yX4_partnersBefore, Cond.instanceMethod yX4_partnersBefore, Cond.selects RX4 yX4_partnersBefore yX4_partnersBefore, Cond.code yX4_partnersBefore cX4_partnersBefore 2 (some .int), Cond.methodLink RX5 129 yX4_loneBefore, Cond.instanceMethod yX4_loneBefore, Cond.selects RX4 yX4_loneBefore yX4_loneBefore, Cond.code yX4_loneBefore cX4_loneBefore 2 (some .int), Cond.methodLink RL 109 yX6_seek, Cond.instanceMethod yX6_seek, Cond.selects RX6 yX6_seek yX6_seek, Cond.code yX6_seek cX6_seek 6 (some .boolean), Cond.methodLink RX6 87 yX6_pairs, Cond.instanceMethod yX6_pairs, Cond.selects RX6 yX6_pairs yX6_pairs, Cond.code yX6_pairs cX6_pairs 11 (some .long), Cond.methodLink RX6 84 yX6_rowsOf, Cond.instanceMethod yX6_rowsOf, Cond.selects RX6 yX6_rowsOf yX6_rowsOf, Cond.code yX6_rowsOf cX6_rowsOf 5 (some .int)]
def wsL_law0_r18 : List Cond := [Cond.methodLink RL 110 yL_rewind, Cond.static yL_rewind, Cond.codeWith yL_rewind cL_rewind 2 (some .int) [(0, 4, 7, 13)], Cond.methodLink RL 40 yX5_rewind, Cond.instanceMethod yX5_rewind, Cond.selects RX5 yX5_rewind yX5_rewind, Cond.code yX5_rewind cX5_rewind 1 none, Cond.methodLink RL 113 yX6_rewind, Cond.instanceMethod yX6_rewind, Cond.selects RX6 yX6_rewind yX6_rewind, Cond.code yX6_rewind cX6_rewind 1 none, Cond.methodLink RL 114 yL_count, Cond.static yL_count, Cond.codeWith yL_count cL_count 4 (some .int) [(0, 8, 11, 19), (0, 8, 14, 13)], Cond.methodLink RL 43 yX5_count, Cond.instanceMethod yX5_count, Cond.selects RX5 yX5_count yX5_count, Cond.code yX5_count cX5_count 2 (some .long), Cond.methodLink RX5 122 yX4_size, Cond.methodLink RX5 125 yX5_pairsBefore, Cond.methodLink RL 116 yX6_count, Cond.instanceMethod yX6_count, Cond.selects RX6 yX6_count yX6_count, Cond.code yX6_count cX6_count 2 (some .long)]
def wsL_law0_r19 : List Cond := [Cond.constantLong RX6 91 (3000000000), Cond.methodLink RL 117 yL_rows, Cond.static yL_rows, Cond.codeWith yL_rows cL_rows 5 (some .int) [(0, 10, 13, 13)], Cond.methodLink RL 47 yX5_rows, Cond.instanceMethod yX5_rows, Cond.selects RX5 yX5_rows yX5_rows, Cond.code yX5_rows cX5_rows 5 (some .int), Cond.methodLink RL 120 yX6_rows, Cond.instanceMethod yX6_rows, Cond.selects RX6 yX6_rows yX6_rows, Cond.code yX6_rows cX6_rows 6 (some .int), Cond.methodLink RL 121 yL_groups, Cond.static yL_groups, Cond.codeWith yL_groups cL_groups 3 (some .int) [(0, 8, 11, 13), (0, 8, 14, 54)], Cond.classLink RL 54 "java/lang/UnsupportedOperationException", Cond.methodLink RL 51 yX5_groups, Cond.instanceMethod yX5_groups, Cond.selects RX5 yX5_groups yX5_groups, Cond.code yX5_groups cX5_groups 1 (some .int), Cond.classLink RX5 138 "java/lang/UnsupportedOperationException", Cond.initialized "java/lang/UnsupportedOperationException", Cond.methodLink RX5 132 yX4_groupStarts, Cond.instanceMethod yX4_groupStarts]
def wsL_law0_r20 : List Cond := [Cond.selects RX4 yX4_groupStarts yX4_groupStarts, Cond.code yX4_groupStarts cX4_groupStarts 3 (some .int), Cond.methodLink RX4 59 yX4_startsGroup, Cond.instanceMethod yX4_startsGroup, Cond.selects RX4 yX4_startsGroup yX4_startsGroup, Cond.code yX4_startsGroup cX4_startsGroup 3 (some .boolean), Cond.methodLink RX4 56 yX4_partnersBefore, Cond.methodLink RX5 135 yX1_room, Cond.instanceMethod yX1_room, Cond.selects RX1 yX1_room yX1_room, Cond.code yX1_room cX1_room 1 (some .int), Cond.methodLink RX5 145 yX1_tell, Cond.instanceMethod yX1_tell, Cond.selects RX1 yX1_tell yX1_tell, Cond.code yX1_tell cX1_tell 4 (some .int), Cond.methodLink RX1 45 yX4_size, Cond.methodLink RX1 50 yX4_startsGroup, Cond.methodLink RX1 53 yX3_measure, Cond.instanceMethod yX3_measure, Cond.selects RX3 yX3_measure yX3_measure, Cond.code yX3_measure cX3_measure 7 none, Cond.fieldLink RX3 7 "JoinDesk$Span" "rows" "I", Cond.fieldLink RX3 13 "JoinDesk$Span" "sum" "J", Cond.fieldLink RX3 23 "JoinDesk$Span" "least" "J"]
def wsL_law0_r21 : List Cond := [Cond.fieldLink RX3 26 "JoinDesk$Span" "greatest" "J", Cond.methodLink RX3 36 Lib.MathLoose.min_long.x, Cond.static Lib.MathLoose.min_long.x, Cond.code Lib.MathLoose.min_long.x Lib.MathLoose.min_long.code 4 (some .long), Cond.methodLink RX3 42 Lib.MathLoose.max_long.x, Cond.static Lib.MathLoose.max_long.x, Cond.code Lib.MathLoose.max_long.x Lib.MathLoose.max_long.code 4 (some .long), Cond.methodLink RX3 17 yX4_valueAt, Cond.methodLink RX3 29 yX4_keyAt, Cond.methodLink RX3 32 yX4_size, Cond.methodLink RX1 57 yX4_firstPartnerOf, Cond.instanceMethod yX4_firstPartnerOf, Cond.selects RX4 yX4_firstPartnerOf yX4_firstPartnerOf, Cond.code yX4_firstPartnerOf cX4_firstPartnerOf 2 (some .int), Cond.methodLink RX1 61 yX4_keyAt, Cond.methodLink RX1 64 yX1_write, Cond.instanceMethod yX1_write, Cond.selects RX1 yX1_write yX1_write, Cond.code yX1_write cX1_write 11 none, Cond.methodLink RX1 81 Lib.MathLoose.min_long.x, Cond.methodLink RX1 87 Lib.MathLoose.max_long.x, Cond.methodLink RL 123 yX6_groups, Cond.instanceMethod yX6_groups, Cond.selects RX6 yX6_groups yX6_groups]
def wsL_law0_r22 : List Cond := [Cond.code yX6_groups cX6_groups 2 (some .int), Cond.methodLink RX6 93 yX6_groupAt, Cond.instanceMethod yX6_groupAt, Cond.selects RX6 yX6_groupAt yX6_groupAt, Cond.code yX6_groupAt cX6_groupAt 5 (some .int), Cond.methodLink RL 124 yL_group, Cond.static yL_group, Cond.codeWith yL_group cL_group 5 (some .int) [(0, 9, 12, 19), (0, 9, 16, 13)], Cond.methodLink RL 56 yX5_group, Cond.instanceMethod yX5_group, Cond.selects RX5 yX5_group yX5_group, Cond.code yX5_group cX5_group 4 (some .long), Cond.methodLink RX5 149 yX1_isTold, Cond.instanceMethod yX1_isTold, Cond.selects RX1 yX1_isTold yX1_isTold, Cond.code yX1_isTold cX1_isTold 1 (some .boolean), Cond.methodLink RX5 152 yX1_has, Cond.instanceMethod yX1_has, Cond.selects RX1 yX1_has yX1_has, Cond.code yX1_has cX1_has 2 (some .boolean), Cond.methodLink RX5 153 yX1_fact, Cond.instanceMethod yX1_fact, Cond.selects RX1 yX1_fact yX1_fact, Cond.code yX1_fact cX1_fact 3 (some .long)]
def wsL_law0_r23 : List Cond := [Cond.methodLink RX1 37 yX1_has, Cond.methodLink RL 127 yX6_group, Cond.instanceMethod yX6_group, Cond.selects RX6 yX6_group yX6_group, Cond.code yX6_group cX6_group 13 (some .long), Cond.constantLong RX6 96 (9223372036854775807), Cond.fieldLink RX6 98 "JoinDeskModel" "least" "J", Cond.constantLong RX6 101 (-9223372036854775808), Cond.fieldLink RX6 103 "JoinDeskModel" "greatest" "J", Cond.methodLink RL 128 yL_sorted, Cond.static yL_sorted, Cond.codeWith yL_sorted cL_sorted 6 (some .int) [(0, 12, 15, 19), (0, 12, 19, 13)], Cond.methodLink RL 60 yX5_sorted, Cond.instanceMethod yX5_sorted, Cond.selects RX5 yX5_sorted yX5_sorted, Cond.code yX5_sorted cX5_sorted 5 (some .int), Cond.methodLink RL 130 yX6_sorted, Cond.instanceMethod yX6_sorted, Cond.selects RX6 yX6_sorted yX6_sorted, Cond.code yX6_sorted cX6_sorted 5 (some .int), Cond.methodLink RL 131 yL_about, Cond.static yL_about, Cond.codeWith yL_about cL_about 4 (some .int) [(0, 8, 11, 19)], Cond.methodLink RL 63 yX5_about]
def wsL_law0_r24 : List Cond := [Cond.instanceMethod yX5_about, Cond.selects RX5 yX5_about yX5_about, Cond.code yX5_about cX5_about 2 (some .long), Cond.methodLink RX5 157 yX0_cellsRead, Cond.instanceMethod yX0_cellsRead, Cond.selects RX0 yX0_cellsRead yX0_cellsRead, Cond.code yX0_cellsRead cX0_cellsRead 1 (some .long), Cond.methodLink RX5 161 yX0_kindInUse, Cond.instanceMethod yX0_kindInUse, Cond.selects RX0 yX0_kindInUse yX0_kindInUse, Cond.code yX0_kindInUse cX0_kindInUse 1 (some .int), Cond.methodLink RL 133 yX6_about, Cond.instanceMethod yX6_about, Cond.selects RX6 yX6_about yX6_about, Cond.code yX6_about cX6_about 2 (some .long), Cond.methodLink RL 134 yX5_clear, Cond.instanceMethod yX5_clear, Cond.selects RX5 yX5_clear yX5_clear, Cond.code yX5_clear cX5_clear 1 none, Cond.methodLink RX5 164 yX4_empty, Cond.instanceMethod yX4_empty, Cond.selects RX4 yX4_empty yX4_empty, Cond.code yX4_empty cX4_empty 1 none, Cond.methodLink RL 137 yX6_clear]
def wsL_law0_r25 : List Cond := [Cond.instanceMethod yX6_clear, Cond.selects RX6 yX6_clear yX6_clear, Cond.code yX6_clear cX6_clear 1 none]
def wsL_law0 : List Cond := (wsL_law0_r1 ++ (wsL_law0_r2 ++ (wsL_law0_r3 ++ (wsL_law0_r4 ++ (wsL_law0_r5 ++ (wsL_law0_r6 ++ (wsL_law0_r7 ++ (wsL_law0_r8 ++ (wsL_law0_r9 ++ (wsL_law0_r10 ++ (wsL_law0_r11 ++ (wsL_law0_r12 ++ (wsL_law0_r13 ++ (wsL_law0_r14 ++ (wsL_law0_r15 ++ (wsL_law0_r16 ++ (wsL_law0_r17 ++ (wsL_law0_r18 ++ (wsL_law0_r19 ++ (wsL_law0_r20 ++ (wsL_law0_r21 ++ (wsL_law0_r22 ++ (wsL_law0_r23 ++ (wsL_law0_r24 ++ wsL_law0_r25)))))))))))))))))))))))) ++ wsX50 ++ wsX60 ++ wsX40 ++ wsX00 ++ wsX10 ++ wsX20 ++ wsX30 ++ ([] : List Cond)
def wsL_law : List Cond := wsL_law0 ++ (vx_atS RX5 184 "java/lang/IllegalStateException" ["java/lang/RuntimeException", "java/lang/Exception"]).filter goodWord ++ (vx_atS RX5 179 "java/lang/IllegalArgumentException" ["java/lang/RuntimeException", "java/lang/Exception"]).filter goodWord ++ (vx_atS RX5 142 "java/lang/UnsupportedOperationException" ["java/lang/RuntimeException", "java/lang/Exception"]).filter goodWord
abbrev vwCl : List vw_C := [(RX0, TX0, 7), (RX1, TX1, 6), (RX2, TX2, 7), (RX3, TX3, 4), (RX4, TX4, 9), (RX5, TX5, 5), (RX6, TX6, 15)]
end
section
set_option maxRecDepth 20000 in
theorem ggX0_init_X2_init : GoodIn wsX0_init wsX2_init := goodIn_r _ [16, 17, 2, 3, 18, 19, 27, 28, 29, 30, 31, 32, 33] (by decide +kernel) (by decide +kernel)
set_option maxRecDepth 20000 in
theorem gX0_init_X2_init : GoodIn wsX0_init (wsX2_init) := ggX0_init_X2_init
set_option maxRecDepth 20000 in
theorem ggX0_restart_X2_stand : GoodIn wsX0_restart wsX2_stand := goodIn_r _ [7, 8, 9, 10, 11, 12, 13, 14, 22, 23, 24, 25, 26, 27, 28] (by decide +kernel) (by decide +kernel)
set_option maxRecDepth 20000 in
theorem gX0_restart_X2_stand : GoodIn wsX0_restart (wsV RX0 46 RX2 yX2_stand wsX2_stand) := goodIn_app (goodIn_of _ (by decide +kernel)) ggX0_restart_X2_stand
set_option maxRecDepth 20000 in
theorem ggX0_setMark_X2_copy : GoodIn wsX0_setMark wsX2_copy := goodIn_r _ [8, 9, 10, 11, 12, 13, 14, 15, 23, 24, 25, 26, 27, 28, 29] (by decide +kernel) (by decide +kernel)
set_option maxRecDepth 20000 in
theorem gX0_setMark_X2_copy : GoodIn wsX0_setMark (wsV RX0 50 RX2 yX2_copy wsX2_copy) := goodIn_app (goodIn_of _ (by decide +kernel)) ggX0_setMark_X2_copy
set_option maxRecDepth 20000 in
theorem ggX0_goToMark_X2_copy : GoodIn wsX0_goToMark wsX2_copy := goodIn_r _ [7, 8, 9, 10, 11, 12, 13, 14, 22, 23, 24, 25, 26, 27, 28] (by decide +kernel) (by decide +kernel)
set_option maxRecDepth 20000 in
theorem gX0_goToMark_X2_copy : GoodIn wsX0_goToMark (wsV RX0 50 RX2 yX2_copy wsX2_copy) := goodIn_app (goodIn_of _ (by decide +kernel)) ggX0_goToMark_X2_copy
set_option maxRecDepth 20000 in
theorem ggX0_goOn_X2_enterNextPair : GoodIn wsX0_goOn wsX2_enterNextPair := goodIn_r _ [7, 8, 9, 10, 11, 12, 13, 14, 15, 16, 6, 17, 79, 80, 81, 82, 83, 84, 85] (by decide +kernel) (by decide +kernel)
set_option maxRecDepth 20000 in
theorem gX0_goOn_X2_enterNextPair : GoodIn wsX0_goOn (wsV RX0 57 RX2 yX2_enterNextPair wsX2_enterNextPair) := goodIn_app (goodIn_of _ (by decide +kernel)) ggX0_goOn_X2_enterNextPair
set_option maxRecDepth 20000 in
theorem ggX0_goOn_X0_rowsAhead : GoodIn wsX0_goOn wsX0_rowsAhead := goodIn_r _ [22, 23, 1, 24, 25, 26, 27, 28, 29, 30, 72, 73, 74, 75, 76, 77, 78, 79, 80, 81, 82, 83, 84, 85, 86, 87, 88, 89, 90, 91, 92, 93, 94] (by decide +kernel) (by decide +kernel)
set_option maxRecDepth 20000 in
theorem gX0_goOn_X0_rowsAhead : GoodIn wsX0_goOn (wsV RX0 61 RX0 yX0_rowsAhead wsX0_rowsAhead) := goodIn_app (goodIn_of _ (by decide +kernel)) ggX0_goOn_X0_rowsAhead
set_option maxRecDepth 20000 in
theorem ggX0_goOn_X0_comeToNewKeys : GoodIn wsX0_goOn wsX0_comeToNewKeys := goodIn_r _ [34, 23, 1, 24, 35, 36, 37, 28, 38, 30, 39, 40, 41, 21, 42, 43, 44, 45, 46, 47, 48, 49, 50, 51, 52, 53, 54, 25, 26, 27, 29, 72, 73, 74, 75, 76, 77, 78, 79, 80, 81, 82, 83, 84, 85, 86, 87, 88, 89, 90, 91, 92, 93, 94] (by decide +kernel) (by decide +kernel)
set_option maxRecDepth 20000 in
theorem gX0_goOn_X0_comeToNewKeys : GoodIn wsX0_goOn (wsV RX0 65 RX0 yX0_comeToNewKeys wsX0_comeToNewKeys) := goodIn_app (goodIn_of _ (by decide +kernel)) ggX0_goOn_X0_comeToNewKeys
set_option maxRecDepth 20000 in
theorem ggX0_goOn_X2_fits : GoodIn wsX0_goOn wsX2_fits := goodIn_r _ [58, 14, 15, 16, 6, 17, 12, 9, 59, 60, 61, 62, 63, 11, 79, 80, 81, 82, 83, 84, 85] (by decide +kernel) (by decide +kernel)
set_option maxRecDepth 20000 in
theorem gX0_goOn_X2_fits : GoodIn wsX0_goOn (wsV RX0 68 RX2 yX2_fits wsX2_fits) := goodIn_app (goodIn_of _ (by decide +kernel)) ggX0_goOn_X2_fits
set_option maxRecDepth 20000 in
theorem ggX0_goOn_X2_enterFirstPair : GoodIn wsX0_goOn wsX2_enterFirstPair := goodIn_r _ [67, 63, 10, 12, 8, 13, 59, 60, 61, 6, 62, 11, 14, 15, 16, 17, 9, 79, 80, 81, 82, 83, 84, 85] (by decide +kernel) (by decide +kernel)
set_option maxRecDepth 20000 in
theorem gX0_goOn_X2_enterFirstPair : GoodIn wsX0_goOn (wsV RX0 72 RX2 yX2_enterFirstPair wsX2_enterFirstPair) := goodIn_app (goodIn_of _ (by decide +kernel)) ggX0_goOn_X2_enterFirstPair
set_option maxRecDepth 20000 in
theorem ggX0_goOn_X2_stand : GoodIn wsX0_goOn wsX2_stand := goodIn_r _ [71, 63, 11, 12, 9, 10, 8, 13, 79, 80, 81, 82, 83, 84, 85] (by decide +kernel) (by decide +kernel)
set_option maxRecDepth 20000 in
theorem gX0_goOn_X2_stand : GoodIn wsX0_goOn (wsV RX0 46 RX2 yX2_stand wsX2_stand) := goodIn_app (goodIn_of _ (by decide +kernel)) ggX0_goOn_X2_stand
set_option maxRecDepth 20000 in
theorem ggX0_goBefore_X0_firstNotBelow : GoodIn wsX0_goBefore wsX0_firstNotBelow := goodIn_r _ [9, 10, 11, 12, 13, 14, 15, 16, 17, 18, 8, 19, 20, 21, 22, 23, 24, 25, 26, 27, 28, 29, 30, 63, 64, 65, 66, 67, 68, 69, 70, 71, 56, 57, 58, 59, 60, 61, 62] (by decide +kernel) (by decide +kernel)
set_option maxRecDepth 20000 in
theorem gX0_goBefore_X0_firstNotBelow : GoodIn wsX0_goBefore (wsV RX0 81 RX0 yX0_firstNotBelow wsX0_firstNotBelow) := goodIn_app (goodIn_of _ (by decide +kernel)) ggX0_goBefore_X0_firstNotBelow
set_option maxRecDepth 20000 in
theorem ggX0_goBefore_X5_pairsBefore : GoodIn wsX0_goBefore wsX5_pairsBefore := goodIn_r _ [33, 34, 35, 36, 13, 37, 15, 38, 39, 40, 41, 42, 43, 63, 64, 65, 66, 67, 68, 69, 70, 71] (by decide +kernel) (by decide +kernel)
set_option maxRecDepth 20000 in
theorem gX0_goBefore_X5_pairsBefore_n85 : GoodIn wsX0_goBefore (wsX5_pairsBefore) := ggX0_goBefore_X5_pairsBefore
set_option maxRecDepth 20000 in
theorem ggX0_goBefore_X2_stand : GoodIn wsX0_goBefore wsX2_stand := goodIn_r _ [48, 49, 50, 51, 52, 53, 54, 55, 72, 73, 74, 75, 76, 77, 78] (by decide +kernel) (by decide +kernel)
set_option maxRecDepth 20000 in
theorem gX0_goBefore_X2_stand : GoodIn wsX0_goBefore (wsV RX0 46 RX2 yX2_stand wsX2_stand) := goodIn_app (goodIn_of _ (by decide +kernel)) ggX0_goBefore_X2_stand
set_option maxRecDepth 20000 in
theorem ggX0_goBefore_X4_size : GoodIn wsX0_goBefore wsX4_size := goodIn_r _ [14, 15, 63, 64, 65, 66, 67, 68, 69, 70, 71] (by decide +kernel) (by decide +kernel)
set_option maxRecDepth 20000 in
theorem gX0_goBefore_X4_size : GoodIn wsX0_goBefore (wsV RX0 89 RX4 yX4_size wsX4_size) := goodIn_app (goodIn_of _ (by decide +kernel)) ggX0_goBefore_X4_size
set_option maxRecDepth 20000 in
theorem ggX0_rowsAhead_X4_size : GoodIn wsX0_rowsAhead wsX4_size := goodIn_r _ [8, 9, 24, 25, 26, 27, 28, 29, 30, 31, 32] (by decide +kernel) (by decide +kernel)
set_option maxRecDepth 20000 in
theorem gX0_rowsAhead_X4_size : GoodIn wsX0_rowsAhead (wsV RX0 89 RX4 yX4_size wsX4_size) := goodIn_app (goodIn_of _ (by decide +kernel)) ggX0_rowsAhead_X4_size
set_option maxRecDepth 20000 in
theorem ggX0_comeToNewKeys_X4_has : GoodIn wsX0_comeToNewKeys wsX4_has := goodIn_r _ [8, 9, 45, 46, 47, 48, 49, 50, 51, 52, 53] (by decide +kernel) (by decide +kernel)
set_option maxRecDepth 20000 in
theorem gX0_comeToNewKeys_X4_has : GoodIn wsX0_comeToNewKeys (wsV RX0 94 RX4 yX4_has wsX4_has) := goodIn_app (goodIn_of _ (by decide +kernel)) ggX0_comeToNewKeys_X4_has
set_option maxRecDepth 20000 in
theorem ggX0_comeToNewKeys_X0_readKey : GoodIn wsX0_comeToNewKeys wsX0_readKey := goodIn_r _ [14, 15, 16, 17, 18, 7, 19, 20, 21, 22, 5, 6, 8, 9, 31, 32, 33, 34, 35, 36, 37, 45, 46, 47, 48, 49, 50, 51, 52, 53] (by decide +kernel) (by decide +kernel)
set_option maxRecDepth 20000 in
theorem gX0_comeToNewKeys_X0_readKey : GoodIn wsX0_comeToNewKeys (wsV RX0 97 RX0 yX0_readKey wsX0_readKey) := goodIn_app (goodIn_of _ (by decide +kernel)) ggX0_comeToNewKeys_X0_readKey
set_option maxRecDepth 20000 in
theorem ggX0_comeToNewKeys_X0_firstOtherKey : GoodIn wsX0_comeToNewKeys wsX0_firstOtherKey := goodIn_r _ [26, 10, 11, 12, 13, 14, 15, 16, 17, 18, 7, 19, 20, 21, 22, 5, 6, 8, 9, 27, 28, 29, 30, 31, 32, 33, 34, 35, 36, 37, 45, 46, 47, 48, 49, 50, 51, 52, 53] (by decide +kernel) (by decide +kernel)
set_option maxRecDepth 20000 in
theorem gX0_comeToNewKeys_X0_firstOtherKey : GoodIn wsX0_comeToNewKeys (wsV RX0 106 RX0 yX0_firstOtherKey wsX0_firstOtherKey) := goodIn_app (goodIn_of _ (by decide +kernel)) ggX0_comeToNewKeys_X0_firstOtherKey
set_option maxRecDepth 20000 in
theorem ggX0_firstOtherKey_X0_readKey : GoodIn wsX0_firstOtherKey wsX0_readKey := goodIn_r _ [5, 6, 7, 8, 9, 10, 11, 12, 13, 14, 15, 16, 17, 18, 23, 24, 25, 26, 27, 28, 29, 30, 31, 32, 33, 34, 35, 36, 37, 38] (by decide +kernel) (by decide +kernel)
set_option maxRecDepth 20000 in
theorem gX0_firstOtherKey_X0_readKey : GoodIn wsX0_firstOtherKey (wsV RX0 97 RX0 yX0_readKey wsX0_readKey) := goodIn_app (goodIn_of _ (by decide +kernel)) ggX0_firstOtherKey_X0_readKey
set_option maxRecDepth 20000 in
theorem ggX0_firstOtherKey_X4_size : GoodIn wsX0_firstOtherKey wsX4_size := goodIn_r _ [22, 18, 30, 31, 32, 33, 34, 35, 36, 37, 38] (by decide +kernel) (by decide +kernel)
set_option maxRecDepth 20000 in
theorem gX0_firstOtherKey_X4_size : GoodIn wsX0_firstOtherKey (wsV RX0 89 RX4 yX4_size wsX4_size) := goodIn_app (goodIn_of _ (by decide +kernel)) ggX0_firstOtherKey_X4_size
set_option maxRecDepth 20000 in
theorem ggX0_firstNotBelow_X4_size : GoodIn wsX0_firstNotBelow wsX4_size := goodIn_r _ [5, 6, 23, 24, 25, 26, 27, 28, 29, 30, 31] (by decide +kernel) (by decide +kernel)
set_option maxRecDepth 20000 in
theorem gX0_firstNotBelow_X4_size : GoodIn wsX0_firstNotBelow (wsV RX0 89 RX4 yX4_size wsX4_size) := goodIn_app (goodIn_of _ (by decide +kernel)) ggX0_firstNotBelow_X4_size
set_option maxRecDepth 20000 in
theorem ggX0_firstNotBelow_X0_readKey : GoodIn wsX0_firstNotBelow wsX0_readKey := goodIn_r _ [11, 12, 13, 14, 15, 4, 16, 17, 18, 19, 20, 21, 22, 6, 32, 33, 34, 35, 36, 37, 38, 23, 24, 25, 26, 27, 28, 29, 30, 31] (by decide +kernel) (by decide +kernel)
set_option maxRecDepth 20000 in
theorem gX0_firstNotBelow_X0_readKey : GoodIn wsX0_firstNotBelow (wsV RX0 97 RX0 yX0_readKey wsX0_readKey) := goodIn_app (goodIn_of _ (by decide +kernel)) ggX0_firstNotBelow_X0_readKey
set_option maxRecDepth 20000 in
theorem ggX0_readKey_X4_keyAt : GoodIn wsX0_readKey wsX4_keyAt := goodIn_r _ [6, 7, 8, 9, 10, 11, 5, 12, 13, 21, 22, 23, 24, 25, 26, 27, 28, 29] (by decide +kernel) (by decide +kernel)
set_option maxRecDepth 20000 in
theorem gX0_readKey_X4_keyAt : GoodIn wsX0_readKey (wsV RX0 109 RX4 yX4_keyAt wsX4_keyAt) := goodIn_app (goodIn_of _ (by decide +kernel)) ggX0_readKey_X4_keyAt
set_option maxRecDepth 20000 in
theorem ggX1_init_X3_init : GoodIn wsX1_init wsX3_init := goodIn_r _ [16, 17, 2, 3] (by decide +kernel) (by decide +kernel)
set_option maxRecDepth 20000 in
theorem gX1_init_X3_init_n22 : GoodIn wsX1_init (wsX3_init) := ggX1_init_X3_init
set_option maxRecDepth 20000 in
theorem ggX1_fact_X1_has : GoodIn wsX1_fact wsX1_has := goodIn_r _ [6, 7, 11, 12, 13, 14, 15, 16] (by decide +kernel) (by decide +kernel)
set_option maxRecDepth 20000 in
theorem gX1_fact_X1_has : GoodIn wsX1_fact (wsV RX1 37 RX1 yX1_has wsX1_has) := goodIn_app (goodIn_of _ (by decide +kernel)) ggX1_fact_X1_has
set_option maxRecDepth 20000 in
theorem ggX1_fact_X5_isBelow : GoodIn wsX1_fact wsX5_isBelow := goodIn_r _ [10] (by decide +kernel) (by decide +kernel)
set_option maxRecDepth 20000 in
theorem gX1_fact_X5_isBelow_n41 : GoodIn wsX1_fact (wsX5_isBelow) := ggX1_fact_X5_isBelow
set_option maxRecDepth 20000 in
theorem ggX1_tell_X4_size : GoodIn wsX1_tell wsX4_size := goodIn_r _ [10, 11, 74, 75, 76, 77, 78, 79, 80, 81, 82] (by decide +kernel) (by decide +kernel)
set_option maxRecDepth 20000 in
theorem gX1_tell_X4_size : GoodIn wsX1_tell (wsV RX1 45 RX4 yX4_size wsX4_size) := goodIn_app (goodIn_of _ (by decide +kernel)) ggX1_tell_X4_size
set_option maxRecDepth 20000 in
theorem ggX1_tell_X4_startsGroup : GoodIn wsX1_tell wsX4_startsGroup := goodIn_r _ [15, 16, 17, 18, 9, 19, 20, 21, 22, 23, 24, 25, 11, 26, 27, 28, 29, 30, 74, 75, 76, 77, 78, 79, 80, 81, 82] (by decide +kernel) (by decide +kernel)
set_option maxRecDepth 20000 in
theorem gX1_tell_X4_startsGroup : GoodIn wsX1_tell (wsV RX1 50 RX4 yX4_startsGroup wsX4_startsGroup) := goodIn_app (goodIn_of _ (by decide +kernel)) ggX1_tell_X4_startsGroup
set_option maxRecDepth 20000 in
theorem ggX1_tell_X3_measure : GoodIn wsX1_tell wsX3_measure := goodIn_r _ [35, 36, 37, 38, 39, 40, 41, 42, 43, 44, 45, 46, 47, 48, 49, 9, 50, 51, 21, 22, 23, 24, 25, 11, 52, 17, 18, 19, 20, 53, 7, 8, 10, 83, 84, 85, 86, 74, 75, 76, 77, 78, 79, 80, 81, 82] (by decide +kernel) (by decide +kernel)
set_option maxRecDepth 20000 in
theorem gX1_tell_X3_measure : GoodIn wsX1_tell (wsV RX1 53 RX3 yX3_measure wsX3_measure) := goodIn_app (goodIn_of _ (by decide +kernel)) ggX1_tell_X3_measure
set_option maxRecDepth 20000 in
theorem ggX1_tell_X4_firstPartnerOf : GoodIn wsX1_tell wsX4_firstPartnerOf := goodIn_r _ [57, 58, 22, 23, 24, 9, 25, 11, 74, 75, 76, 77, 78, 79, 80, 81, 82] (by decide +kernel) (by decide +kernel)
set_option maxRecDepth 20000 in
theorem gX1_tell_X4_firstPartnerOf : GoodIn wsX1_tell (wsV RX1 57 RX4 yX4_firstPartnerOf wsX4_firstPartnerOf) := goodIn_app (goodIn_of _ (by decide +kernel)) ggX1_tell_X4_firstPartnerOf
end
section
set_option maxRecDepth 20000 in
theorem ggX1_tell_X4_keyAt : GoodIn wsX1_tell wsX4_keyAt := goodIn_r _ [19, 20, 21, 22, 23, 24, 9, 25, 11, 74, 75, 76, 77, 78, 79, 80, 81, 82] (by decide +kernel) (by decide +kernel)
set_option maxRecDepth 20000 in
theorem gX1_tell_X4_keyAt : GoodIn wsX1_tell (wsV RX1 61 RX4 yX4_keyAt wsX4_keyAt) := goodIn_app (goodIn_of _ (by decide +kernel)) ggX1_tell_X4_keyAt
set_option maxRecDepth 20000 in
theorem ggX1_tell_X1_write : GoodIn wsX1_tell wsX1_write := goodIn_r _ [64, 3, 4, 65, 66, 41, 42, 43, 67, 45, 46, 68, 69, 70, 71, 72, 73, 83, 84, 85, 86] (by decide +kernel) (by decide +kernel)
set_option maxRecDepth 20000 in
theorem gX1_tell_X1_write : GoodIn wsX1_tell (wsV RX1 64 RX1 yX1_write wsX1_write) := goodIn_app (goodIn_of _ (by decide +kernel)) ggX1_tell_X1_write
set_option maxRecDepth 20000 in
theorem ggX2_fits_X2_hasRightRows : GoodIn wsX2_fits wsX2_hasRightRows := goodIn_r _ [5, 6, 7, 14, 15, 16, 17, 18, 19, 20] (by decide +kernel) (by decide +kernel)
set_option maxRecDepth 20000 in
theorem gX2_fits_X2_hasRightRows : GoodIn wsX2_fits (wsV RX2 33 RX2 yX2_hasRightRows wsX2_hasRightRows) := goodIn_app (goodIn_of _ (by decide +kernel)) ggX2_fits_X2_hasRightRows
set_option maxRecDepth 20000 in
theorem ggX2_fits_X2_hasLeftRows : GoodIn wsX2_fits wsX2_hasLeftRows := goodIn_r _ [11, 12, 13, 14, 15, 16, 17, 18, 19, 20] (by decide +kernel) (by decide +kernel)
set_option maxRecDepth 20000 in
theorem gX2_fits_X2_hasLeftRows : GoodIn wsX2_fits (wsV RX2 37 RX2 yX2_hasLeftRows wsX2_hasLeftRows) := goodIn_app (goodIn_of _ (by decide +kernel)) ggX2_fits_X2_hasLeftRows
set_option maxRecDepth 20000 in
theorem ggX2_enterFirstPair_X2_hasLeftRows : GoodIn wsX2_enterFirstPair wsX2_hasLeftRows := goodIn_r _ [10, 1, 11, 17, 18, 19, 20, 21, 22, 23] (by decide +kernel) (by decide +kernel)
set_option maxRecDepth 20000 in
theorem gX2_enterFirstPair_X2_hasLeftRows : GoodIn wsX2_enterFirstPair (wsV RX2 37 RX2 yX2_hasLeftRows wsX2_hasLeftRows) := goodIn_app (goodIn_of _ (by decide +kernel)) ggX2_enterFirstPair_X2_hasLeftRows
set_option maxRecDepth 20000 in
theorem ggX2_enterFirstPair_X2_hasRightRows : GoodIn wsX2_enterFirstPair wsX2_hasRightRows := goodIn_r _ [15, 3, 16, 17, 18, 19, 20, 21, 22, 23] (by decide +kernel) (by decide +kernel)
set_option maxRecDepth 20000 in
theorem gX2_enterFirstPair_X2_hasRightRows : GoodIn wsX2_enterFirstPair (wsV RX2 33 RX2 yX2_hasRightRows wsX2_hasRightRows) := goodIn_app (goodIn_of _ (by decide +kernel)) ggX2_enterFirstPair_X2_hasRightRows
set_option maxRecDepth 20000 in
theorem ggX2_enterNextPair_X2_hasRightRows : GoodIn wsX2_enterNextPair wsX2_hasRightRows := goodIn_r _ [11, 5, 2, 12, 13, 14, 15, 16, 17, 18] (by decide +kernel) (by decide +kernel)
set_option maxRecDepth 20000 in
theorem gX2_enterNextPair_X2_hasRightRows : GoodIn wsX2_enterNextPair (wsV RX2 33 RX2 yX2_hasRightRows wsX2_hasRightRows) := goodIn_app (goodIn_of _ (by decide +kernel)) ggX2_enterNextPair_X2_hasRightRows
set_option maxRecDepth 20000 in
theorem ggX3_measure_X4_valueAt : GoodIn wsX3_measure wsX4_valueAt := goodIn_r _ [16, 17, 18, 19, 20, 21, 15, 22, 23, 37, 38, 39, 40, 41, 42, 43, 44, 45] (by decide +kernel) (by decide +kernel)
set_option maxRecDepth 20000 in
theorem gX3_measure_X4_valueAt : GoodIn wsX3_measure (wsV RX3 17 RX4 yX4_valueAt wsX4_valueAt) := goodIn_app (goodIn_of _ (by decide +kernel)) ggX3_measure_X4_valueAt
set_option maxRecDepth 20000 in
theorem ggX3_measure_X4_keyAt : GoodIn wsX3_measure wsX4_keyAt := goodIn_r _ [27, 28, 18, 19, 20, 21, 15, 22, 23, 37, 38, 39, 40, 41, 42, 43, 44, 45] (by decide +kernel) (by decide +kernel)
set_option maxRecDepth 20000 in
theorem gX3_measure_X4_keyAt : GoodIn wsX3_measure (wsV RX3 29 RX4 yX4_keyAt wsX4_keyAt) := goodIn_app (goodIn_of _ (by decide +kernel)) ggX3_measure_X4_keyAt
set_option maxRecDepth 20000 in
theorem ggX3_measure_X4_size : GoodIn wsX3_measure wsX4_size := goodIn_r _ [32, 23, 37, 38, 39, 40, 41, 42, 43, 44, 45] (by decide +kernel) (by decide +kernel)
set_option maxRecDepth 20000 in
theorem gX3_measure_X4_size : GoodIn wsX3_measure (wsV RX3 32 RX4 yX4_size wsX4_size) := goodIn_app (goodIn_of _ (by decide +kernel)) ggX3_measure_X4_size
set_option maxRecDepth 20000 in
theorem ggX4_append_X4_hasRoom : GoodIn wsX4_append wsX4_hasRoom := goodIn_r _ [8, 2, 9, 10, 11, 12, 13, 14, 15, 16, 17, 18] (by decide +kernel) (by decide +kernel)
set_option maxRecDepth 20000 in
theorem gX4_append_X4_hasRoom : GoodIn wsX4_append (wsV RX4 40 RX4 yX4_hasRoom wsX4_hasRoom) := goodIn_app (goodIn_of _ (by decide +kernel)) ggX4_append_X4_hasRoom
set_option maxRecDepth 20000 in
theorem ggX4_keyAt_X4_has : GoodIn wsX4_keyAt wsX4_has := goodIn_r _ [7, 8, 9, 10, 11, 12, 13, 14, 15, 16, 17] (by decide +kernel) (by decide +kernel)
set_option maxRecDepth 20000 in
theorem gX4_keyAt_X4_has : GoodIn wsX4_keyAt (wsV RX4 44 RX4 yX4_has wsX4_has) := goodIn_app (goodIn_of _ (by decide +kernel)) ggX4_keyAt_X4_has
set_option maxRecDepth 20000 in
theorem ggX4_valueAt_X4_has : GoodIn wsX4_valueAt wsX4_has := goodIn_r _ [7, 8, 9, 10, 11, 12, 13, 14, 15, 16, 17] (by decide +kernel) (by decide +kernel)
set_option maxRecDepth 20000 in
theorem gX4_valueAt_X4_has : GoodIn wsX4_valueAt (wsV RX4 44 RX4 yX4_has wsX4_has) := goodIn_app (goodIn_of _ (by decide +kernel)) ggX4_valueAt_X4_has
set_option maxRecDepth 20000 in
theorem ggX4_numberAt_X4_has : GoodIn wsX4_numberAt wsX4_has := goodIn_r _ [6, 7, 8, 9, 10, 11, 12, 13, 14, 15, 16] (by decide +kernel) (by decide +kernel)
set_option maxRecDepth 20000 in
theorem gX4_numberAt_X4_has : GoodIn wsX4_numberAt (wsV RX4 44 RX4 yX4_has wsX4_has) := goodIn_app (goodIn_of _ (by decide +kernel)) ggX4_numberAt_X4_has
set_option maxRecDepth 20000 in
theorem ggX4_sortRows_X4_putInOrder : GoodIn wsX4_sortRows wsX4_putInOrder := goodIn_r _ [7, 8, 9, 10, 11, 12, 13, 14, 15, 16, 17, 18] (by decide +kernel) (by decide +kernel)
set_option maxRecDepth 20000 in
theorem gX4_sortRows_X4_putInOrder : GoodIn wsX4_sortRows (wsV RX4 48 RX4 yX4_putInOrder wsX4_putInOrder) := goodIn_app (goodIn_of _ (by decide +kernel)) ggX4_sortRows_X4_putInOrder
set_option maxRecDepth 20000 in
theorem ggX4_findPartners_X4_keyAt : GoodIn wsX4_findPartners wsX4_keyAt := goodIn_r _ [9, 10, 11, 12, 13, 14, 8, 15, 1, 16, 17, 18, 19, 20, 21, 22, 23, 24] (by decide +kernel) (by decide +kernel)
set_option maxRecDepth 20000 in
theorem gX4_findPartners_X4_keyAt : GoodIn wsX4_findPartners (wsV RX4 52 RX4 yX4_keyAt wsX4_keyAt) := goodIn_app (goodIn_of _ (by decide +kernel)) ggX4_findPartners_X4_keyAt
set_option maxRecDepth 20000 in
theorem ggX4_firstPartnerOf_X4_has : GoodIn wsX4_firstPartnerOf wsX4_has := goodIn_r _ [6, 7, 8, 9, 10, 11, 12, 13, 14, 15, 16] (by decide +kernel) (by decide +kernel)
set_option maxRecDepth 20000 in
theorem gX4_firstPartnerOf_X4_has : GoodIn wsX4_firstPartnerOf (wsV RX4 44 RX4 yX4_has wsX4_has) := goodIn_app (goodIn_of _ (by decide +kernel)) ggX4_firstPartnerOf_X4_has
set_option maxRecDepth 20000 in
theorem ggX4_startsGroup_X4_keyAt : GoodIn wsX4_startsGroup wsX4_keyAt := goodIn_r _ [5, 6, 7, 8, 9, 10, 4, 11, 12, 18, 19, 20, 21, 22, 23, 24, 25, 26] (by decide +kernel) (by decide +kernel)
set_option maxRecDepth 20000 in
theorem gX4_startsGroup_X4_keyAt : GoodIn wsX4_startsGroup (wsV RX4 52 RX4 yX4_keyAt wsX4_keyAt) := goodIn_app (goodIn_of _ (by decide +kernel)) ggX4_startsGroup_X4_keyAt
set_option maxRecDepth 20000 in
theorem ggX4_startsGroup_X4_partnersBefore : GoodIn wsX4_startsGroup wsX4_partnersBefore := goodIn_r _ [16, 12, 17, 18, 19, 20, 21, 22, 23, 24, 25, 26] (by decide +kernel) (by decide +kernel)
set_option maxRecDepth 20000 in
theorem gX4_startsGroup_X4_partnersBefore : GoodIn wsX4_startsGroup (wsV RX4 56 RX4 yX4_partnersBefore wsX4_partnersBefore) := goodIn_app (goodIn_of _ (by decide +kernel)) ggX4_startsGroup_X4_partnersBefore
set_option maxRecDepth 20000 in
theorem ggX4_groupStarts_X4_startsGroup : GoodIn wsX4_groupStarts wsX4_startsGroup := goodIn_r _ [6, 7, 8, 9, 5, 10, 11, 12, 13, 14, 15, 16, 1, 17, 18, 19, 20, 21, 22, 23, 24, 25, 26, 27, 28, 29, 30] (by decide +kernel) (by decide +kernel)
set_option maxRecDepth 20000 in
theorem gX4_groupStarts_X4_startsGroup : GoodIn wsX4_groupStarts (wsV RX4 59 RX4 yX4_startsGroup wsX4_startsGroup) := goodIn_app (goodIn_of _ (by decide +kernel)) ggX4_groupStarts_X4_startsGroup
end
section
set_option maxRecDepth 20000 in
theorem ggX5_init_X5_roomFor : GoodIn wsX5_init wsX5_roomFor := goodIn_r _ [21, 22, 23, 24, 25, 26, 27, 28] (by decide +kernel) (by decide +kernel)
set_option maxRecDepth 20000 in
theorem gX5_init_X5_roomFor : GoodIn wsX5_init (va_wsS RX5 9 yX5_roomFor wsX5_roomFor) := goodIn_app (goodIn_of _ (by decide +kernel)) ggX5_init_X5_roomFor
set_option maxRecDepth 20000 in
theorem ggX5_init_X4_init : GoodIn wsX5_init wsX4_init := goodIn_r _ [31, 32, 2, 3, 33, 34, 35, 36, 37, 38, 39, 40, 41, 42, 81, 82, 83, 84, 85, 86, 87, 88, 89] (by decide +kernel) (by decide +kernel)
set_option maxRecDepth 20000 in
theorem gX5_init_X4_init : GoodIn wsX5_init (wsX4_init) := ggX5_init_X4_init
set_option maxRecDepth 20000 in
theorem ggX5_init_X0_init : GoodIn wsX5_init wsX0_init := goodIn_r _ [45, 46, 2, 3, 47, 48, 49, 50, 51, 52, 53, 54, 55, 56, 57, 58, 59, 60, 61, 62, 95, 96, 97, 98, 99, 100, 101, 108, 109, 110, 111, 112, 113, 114] (by decide +kernel) (by decide +kernel)
set_option maxRecDepth 20000 in
theorem gX5_init_X0_init : GoodIn wsX5_init (wsX0_init) := ggX5_init_X0_init
set_option maxRecDepth 20000 in
theorem ggX5_init_X1_init : GoodIn wsX5_init wsX1_init := goodIn_r _ [65, 66, 2, 3, 67, 68, 69, 70, 71, 72, 73, 74, 75, 76, 77, 78, 79, 80, 102, 103, 104, 105, 106, 107, 115, 116, 117, 118] (by decide +kernel) (by decide +kernel)
set_option maxRecDepth 20000 in
theorem gX5_init_X1_init : GoodIn wsX5_init (wsX1_init) := ggX5_init_X1_init
set_option maxRecDepth 20000 in
theorem ggX5_add_X5_tableOf : GoodIn wsX5_add wsX5_tableOf := goodIn_r _ [6, 7, 8, 28, 29, 30, 31, 32] (by decide +kernel) (by decide +kernel)
set_option maxRecDepth 20000 in
theorem gX5_add_X5_tableOf : GoodIn wsX5_add (wsV RX5 45 RX5 yX5_tableOf wsX5_tableOf) := goodIn_app (goodIn_of _ (by decide +kernel)) ggX5_add_X5_tableOf
set_option maxRecDepth 20000 in
theorem ggX5_add_X4_hasRoom : GoodIn wsX5_add wsX4_hasRoom := goodIn_r _ [13, 14, 15, 33, 34, 35, 36, 37, 38, 39, 40, 41] (by decide +kernel) (by decide +kernel)
set_option maxRecDepth 20000 in
theorem gX5_add_X4_hasRoom : GoodIn wsX5_add (wsV RX5 49 RX4 yX4_hasRoom wsX4_hasRoom) := goodIn_app (goodIn_of _ (by decide +kernel)) ggX5_add_X4_hasRoom
set_option maxRecDepth 20000 in
theorem ggX5_add_X5_requireState : GoodIn wsX5_add wsX5_requireState := goodIn_ca (goodIn_r _ [18, 19, 20] (by decide +kernel) (by decide +kernel)) (goodIn_sub (fun _ h => List.mem_cons_of_mem _ (List.mem_append_right _ h)) (by decide +kernel))
set_option maxRecDepth 20000 in
theorem gX5_add_X5_requireState : GoodIn wsX5_add (va_wsS RX5 53 yX5_requireState wsX5_requireState) := goodIn_app (goodIn_of _ (by decide +kernel)) ggX5_add_X5_requireState
set_option maxRecDepth 20000 in
theorem ggX5_add_X4_append : GoodIn wsX5_add wsX4_append := goodIn_r _ [24, 25, 14, 26, 27, 10, 11, 12, 13, 15, 33, 34, 35, 36, 37, 38, 39, 40, 41] (by decide +kernel) (by decide +kernel)
set_option maxRecDepth 20000 in
theorem gX5_add_X4_append : GoodIn wsX5_add (wsV RX5 57 RX4 yX4_append wsX4_append) := goodIn_app (goodIn_of _ (by decide +kernel)) ggX5_add_X4_append
set_option maxRecDepth 20000 in
theorem ggX5_prepare_X4_sortRows : GoodIn wsX5_prepare wsX4_sortRows := goodIn_r _ [10, 11, 12, 13, 14, 15, 9, 16, 17, 18, 70, 71, 72, 73, 74, 75, 76, 77, 78] (by decide +kernel) (by decide +kernel)
set_option maxRecDepth 20000 in
theorem gX5_prepare_X4_sortRows : GoodIn wsX5_prepare (wsV RX5 61 RX4 yX4_sortRows wsX4_sortRows) := goodIn_app (goodIn_of _ (by decide +kernel)) ggX5_prepare_X4_sortRows
set_option maxRecDepth 20000 in
theorem ggX5_prepare_X4_findPartners : GoodIn wsX5_prepare wsX4_findPartners := goodIn_r _ [22, 12, 23, 24, 25, 26, 27, 28, 9, 29, 17, 18, 30, 31, 32, 33, 70, 71, 72, 73, 74, 75, 76, 77, 78] (by decide +kernel) (by decide +kernel)
set_option maxRecDepth 20000 in
theorem gX5_prepare_X4_findPartners : GoodIn wsX5_prepare (wsV RX5 64 RX4 yX4_findPartners wsX4_findPartners) := goodIn_app (goodIn_of _ (by decide +kernel)) ggX5_prepare_X4_findPartners
set_option maxRecDepth 20000 in
theorem ggX5_prepare_X0_restart : GoodIn wsX5_prepare wsX0_restart := goodIn_r _ [38, 39, 40, 41, 42, 43, 44, 45, 46, 47, 48, 49, 50, 51, 52, 79, 80, 81, 82, 83, 84, 85, 86, 87, 88, 89, 90, 91, 92] (by decide +kernel) (by decide +kernel)
set_option maxRecDepth 20000 in
theorem gX5_prepare_X0_restart : GoodIn wsX5_prepare (wsV RX5 68 RX0 yX0_restart wsX0_restart) := goodIn_app (goodIn_of _ (by decide +kernel)) ggX5_prepare_X0_restart
set_option maxRecDepth 20000 in
theorem ggX5_prepare_X0_forgetMark : GoodIn wsX5_prepare wsX0_forgetMark := goodIn_r _ [56, 57, 79, 80, 81, 82, 83, 84, 85] (by decide +kernel) (by decide +kernel)
set_option maxRecDepth 20000 in
theorem gX5_prepare_X0_forgetMark : GoodIn wsX5_prepare (wsV RX5 71 RX0 yX0_forgetMark wsX0_forgetMark) := goodIn_app (goodIn_of _ (by decide +kernel)) ggX5_prepare_X0_forgetMark
set_option maxRecDepth 20000 in
theorem ggX5_prepare_X1_forget : GoodIn wsX5_prepare wsX1_forget := goodIn_r _ [62, 63, 64, 93, 94, 95, 96, 97, 98] (by decide +kernel) (by decide +kernel)
set_option maxRecDepth 20000 in
theorem gX5_prepare_X1_forget : GoodIn wsX5_prepare (wsV RX5 74 RX1 yX1_forget wsX1_forget) := goodIn_app (goodIn_of _ (by decide +kernel)) ggX5_prepare_X1_forget
set_option maxRecDepth 20000 in
theorem ggX5_kind_X5_isBelow : GoodIn wsX5_kind wsX5_isBelow := goodIn_r _ [5] (by decide +kernel) (by decide +kernel)
set_option maxRecDepth 20000 in
theorem gX5_kind_X5_isBelow : GoodIn wsX5_kind (va_wsS RX5 77 yX5_isBelow wsX5_isBelow) := goodIn_app (goodIn_of _ (by decide +kernel)) ggX5_kind_X5_isBelow
set_option maxRecDepth 20000 in
theorem ggX5_kind_X5_requireArgument : GoodIn wsX5_kind wsX5_requireArgument := goodIn_ca (goodIn_r _ [8, 9, 10] (by decide +kernel) (by decide +kernel)) (goodIn_sub (fun _ h => List.mem_cons_of_mem _ (List.mem_append_right _ h)) (by decide +kernel))
set_option maxRecDepth 20000 in
theorem gX5_kind_X5_requireArgument : GoodIn wsX5_kind (va_wsS RX5 81 yX5_requireArgument wsX5_requireArgument) := goodIn_app (goodIn_of _ (by decide +kernel)) ggX5_kind_X5_requireArgument
set_option maxRecDepth 20000 in
theorem ggX5_kind_X0_useKind : GoodIn wsX5_kind wsX0_useKind := goodIn_r _ [15, 16, 45, 46, 47, 48, 49, 50, 51] (by decide +kernel) (by decide +kernel)
set_option maxRecDepth 20000 in
theorem gX5_kind_X0_useKind : GoodIn wsX5_kind (wsV RX5 84 RX0 yX0_useKind wsX0_useKind) := goodIn_app (goodIn_of _ (by decide +kernel)) ggX5_kind_X0_useKind
set_option maxRecDepth 20000 in
theorem ggX5_kind_X0_restart : GoodIn wsX5_kind wsX0_restart := goodIn_r _ [20, 21, 22, 23, 24, 25, 26, 27, 28, 29, 30, 31, 32, 33, 34, 45, 46, 47, 48, 49, 50, 51, 52, 53, 54, 55, 56, 57, 58] (by decide +kernel) (by decide +kernel)
set_option maxRecDepth 20000 in
theorem gX5_kind_X0_restart : GoodIn wsX5_kind (wsV RX5 68 RX0 yX0_restart wsX0_restart) := goodIn_app (goodIn_of _ (by decide +kernel)) ggX5_kind_X0_restart
set_option maxRecDepth 20000 in
theorem ggX5_kind_X0_forgetMark : GoodIn wsX5_kind wsX0_forgetMark := goodIn_r _ [38, 39, 45, 46, 47, 48, 49, 50, 51] (by decide +kernel) (by decide +kernel)
set_option maxRecDepth 20000 in
theorem gX5_kind_X0_forgetMark : GoodIn wsX5_kind (wsV RX5 71 RX0 yX0_forgetMark wsX0_forgetMark) := goodIn_app (goodIn_of _ (by decide +kernel)) ggX5_kind_X0_forgetMark
set_option maxRecDepth 20000 in
theorem ggX5_next_X5_requireState : GoodIn wsX5_next wsX5_requireState := goodIn_ca (goodIn_r _ [6, 7, 8] (by decide +kernel) (by decide +kernel)) (goodIn_sub (fun _ h => List.mem_cons_of_mem _ (List.mem_append_right _ h)) (by decide +kernel))
set_option maxRecDepth 20000 in
theorem gX5_next_X5_requireState : GoodIn wsX5_next (va_wsS RX5 53 yX5_requireState wsX5_requireState) := goodIn_app (goodIn_of _ (by decide +kernel)) ggX5_next_X5_requireState
set_option maxRecDepth 20000 in
theorem ggX5_next_X0_goOn : GoodIn wsX5_next wsX0_goOn := goodIn_r _ [13, 14, 15, 16, 17, 18, 19, 20, 21, 22, 23, 24, 25, 26, 27, 28, 29, 30, 31, 32, 33, 12, 34, 35, 36, 37, 38, 39, 40, 41, 42, 43, 44, 45, 46, 47, 48, 49, 50, 51, 52, 53, 54, 55, 56, 57, 58, 59, 60, 61, 62, 63, 64, 65, 66, 67, 68, 69, 70, 71, 72, 73, 74, 75, 76, 77, 78, 79, 80, 81, 82, 83, 89, 90, 91, 92, 93, 94, 95, 96, 97, 98, 99, 100, 101, 102, 103, 104, 105, 106, 107, 108, 109, 110, 111] (by decide +kernel) (by decide +kernel)
set_option maxRecDepth 20000 in
theorem gX5_next_X0_goOn : GoodIn wsX5_next (wsV RX5 87 RX0 yX0_goOn wsX0_goOn) := goodIn_app (goodIn_of _ (by decide +kernel)) ggX5_next_X0_goOn
set_option maxRecDepth 20000 in
theorem ggX5_pair_X5_isBelow : GoodIn wsX5_pair wsX5_isBelow := goodIn_r _ [8] (by decide +kernel) (by decide +kernel)
set_option maxRecDepth 20000 in
theorem gX5_pair_X5_isBelow : GoodIn wsX5_pair (va_wsS RX5 77 yX5_isBelow wsX5_isBelow) := goodIn_app (goodIn_of _ (by decide +kernel)) ggX5_pair_X5_isBelow
set_option maxRecDepth 20000 in
theorem ggX5_pair_X5_requireArgument : GoodIn wsX5_pair wsX5_requireArgument := goodIn_ca (goodIn_r _ [11, 12, 13] (by decide +kernel) (by decide +kernel)) (goodIn_sub (fun _ h => List.mem_cons_of_mem _ (List.mem_append_right _ h)) (by decide +kernel))
set_option maxRecDepth 20000 in
theorem gX5_pair_X5_requireArgument : GoodIn wsX5_pair (va_wsS RX5 81 yX5_requireArgument wsX5_requireArgument) := goodIn_app (goodIn_of _ (by decide +kernel)) ggX5_pair_X5_requireArgument
set_option maxRecDepth 20000 in
theorem ggX5_pair_X0_leftPlace : GoodIn wsX5_pair wsX0_leftPlace := goodIn_r _ [18, 19, 51, 52, 53, 54, 55, 56, 57, 58, 59, 60, 61, 62, 63, 64] (by decide +kernel) (by decide +kernel)
set_option maxRecDepth 20000 in
theorem gX5_pair_X0_leftPlace : GoodIn wsX5_pair (wsV RX5 90 RX0 yX0_leftPlace wsX0_leftPlace) := goodIn_app (goodIn_of _ (by decide +kernel)) ggX5_pair_X0_leftPlace
set_option maxRecDepth 20000 in
theorem ggX5_pair_X0_rightPlace : GoodIn wsX5_pair wsX0_rightPlace := goodIn_r _ [23, 19, 51, 52, 53, 54, 55, 56, 57, 58, 59, 60, 61, 62, 63, 64] (by decide +kernel) (by decide +kernel)
set_option maxRecDepth 20000 in
theorem gX5_pair_X0_rightPlace : GoodIn wsX5_pair (wsV RX5 94 RX0 yX0_rightPlace wsX0_rightPlace) := goodIn_app (goodIn_of _ (by decide +kernel)) ggX5_pair_X0_rightPlace
set_option maxRecDepth 20000 in
theorem ggX5_pair_X4_has : GoodIn wsX5_pair wsX4_has := goodIn_r _ [28, 29, 65, 66, 67, 68, 69, 70, 71, 72, 73] (by decide +kernel) (by decide +kernel)
set_option maxRecDepth 20000 in
theorem gX5_pair_X4_has : GoodIn wsX5_pair (wsV RX5 97 RX4 yX4_has wsX4_has) := goodIn_app (goodIn_of _ (by decide +kernel)) ggX5_pair_X4_has
set_option maxRecDepth 20000 in
theorem ggX5_pair_X4_keyAt : GoodIn wsX5_pair wsX4_keyAt := goodIn_r _ [33, 34, 35, 36, 25, 26, 27, 28, 29, 65, 66, 67, 68, 69, 70, 71, 72, 73] (by decide +kernel) (by decide +kernel)
set_option maxRecDepth 20000 in
theorem gX5_pair_X4_keyAt : GoodIn wsX5_pair (wsV RX5 101 RX4 yX4_keyAt wsX4_keyAt) := goodIn_app (goodIn_of _ (by decide +kernel)) ggX5_pair_X4_keyAt
set_option maxRecDepth 20000 in
theorem ggX5_pair_X4_valueAt : GoodIn wsX5_pair wsX4_valueAt := goodIn_r _ [40, 41, 35, 36, 25, 26, 27, 28, 29, 65, 66, 67, 68, 69, 70, 71, 72, 73] (by decide +kernel) (by decide +kernel)
set_option maxRecDepth 20000 in
theorem gX5_pair_X4_valueAt : GoodIn wsX5_pair (wsV RX5 104 RX4 yX4_valueAt wsX4_valueAt) := goodIn_app (goodIn_of _ (by decide +kernel)) ggX5_pair_X4_valueAt
set_option maxRecDepth 20000 in
theorem ggX5_pair_X4_numberAt : GoodIn wsX5_pair wsX4_numberAt := goodIn_r _ [45, 35, 36, 25, 26, 27, 28, 29, 65, 66, 67, 68, 69, 70, 71, 72, 73] (by decide +kernel) (by decide +kernel)
set_option maxRecDepth 20000 in
theorem gX5_pair_X4_numberAt : GoodIn wsX5_pair (wsV RX5 107 RX4 yX4_numberAt wsX4_numberAt) := goodIn_app (goodIn_of _ (by decide +kernel)) ggX5_pair_X4_numberAt
set_option maxRecDepth 20000 in
theorem ggX5_mark_X5_requireState : GoodIn wsX5_mark wsX5_requireState := goodIn_ca (goodIn_r _ [6, 7, 8] (by decide +kernel) (by decide +kernel)) (goodIn_sub (fun _ h => List.mem_cons_of_mem _ (List.mem_append_right _ h)) (by decide +kernel))
set_option maxRecDepth 20000 in
theorem gX5_mark_X5_requireState : GoodIn wsX5_mark (va_wsS RX5 53 yX5_requireState wsX5_requireState) := goodIn_app (goodIn_of _ (by decide +kernel)) ggX5_mark_X5_requireState
set_option maxRecDepth 20000 in
theorem ggX5_mark_X0_setMark : GoodIn wsX5_mark wsX0_setMark := goodIn_r _ [13, 14, 15, 16, 17, 18, 19, 20, 21, 22, 23, 24, 25, 26, 27, 28, 34, 35, 36, 37, 38, 39, 40, 41, 42, 43, 44, 45, 46, 47] (by decide +kernel) (by decide +kernel)
set_option maxRecDepth 20000 in
theorem gX5_mark_X0_setMark : GoodIn wsX5_mark (wsV RX5 110 RX0 yX0_setMark wsX0_setMark) := goodIn_app (goodIn_of _ (by decide +kernel)) ggX5_mark_X0_setMark
end
section
set_option maxRecDepth 20000 in
theorem ggX5_back_X0_hasMark : GoodIn wsX5_back wsX0_hasMark := goodIn_r _ [7, 8, 38, 39, 40, 41, 42, 43, 44] (by decide +kernel) (by decide +kernel)
set_option maxRecDepth 20000 in
theorem gX5_back_X0_hasMark : GoodIn wsX5_back (wsV RX5 113 RX0 yX0_hasMark wsX0_hasMark) := goodIn_app (goodIn_of _ (by decide +kernel)) ggX5_back_X0_hasMark
set_option maxRecDepth 20000 in
theorem ggX5_back_X5_requireState : GoodIn wsX5_back wsX5_requireState := goodIn_ca (goodIn_r _ [12, 13, 14] (by decide +kernel) (by decide +kernel)) (goodIn_sub (fun _ h => List.mem_cons_of_mem _ (List.mem_append_right _ h)) (by decide +kernel))
set_option maxRecDepth 20000 in
theorem gX5_back_X5_requireState : GoodIn wsX5_back (va_wsS RX5 53 yX5_requireState wsX5_requireState) := goodIn_app (goodIn_of _ (by decide +kernel)) ggX5_back_X5_requireState
set_option maxRecDepth 20000 in
theorem ggX5_back_X0_goToMark : GoodIn wsX5_back wsX0_goToMark := goodIn_r _ [18, 19, 20, 21, 22, 23, 24, 25, 26, 27, 28, 29, 30, 31, 32, 38, 39, 40, 41, 42, 43, 44, 45, 46, 47, 48, 49, 50, 51] (by decide +kernel) (by decide +kernel)
set_option maxRecDepth 20000 in
theorem gX5_back_X0_goToMark : GoodIn wsX5_back (wsV RX5 116 RX0 yX0_goToMark wsX0_goToMark) := goodIn_app (goodIn_of _ (by decide +kernel)) ggX5_back_X0_goToMark
set_option maxRecDepth 20000 in
theorem ggX5_seek_X5_requireState : GoodIn wsX5_seek wsX5_requireState := goodIn_ca (goodIn_r _ [6, 7, 8] (by decide +kernel) (by decide +kernel)) (goodIn_sub (fun _ h => List.mem_cons_of_mem _ (List.mem_append_right _ h)) (by decide +kernel))
set_option maxRecDepth 20000 in
theorem gX5_seek_X5_requireState : GoodIn wsX5_seek (va_wsS RX5 53 yX5_requireState wsX5_requireState) := goodIn_app (goodIn_of _ (by decide +kernel)) ggX5_seek_X5_requireState
set_option maxRecDepth 20000 in
theorem ggX5_seek_X0_goBefore : GoodIn wsX5_seek wsX0_goBefore := goodIn_r _ [13, 14, 15, 16, 17, 18, 19, 20, 12, 21, 22, 23, 24, 25, 26, 27, 28, 29, 30, 31, 32, 33, 34, 35, 36, 37, 38, 39, 40, 41, 42, 43, 5, 44, 45, 46, 47, 48, 49, 50, 51, 52, 53, 54, 55, 56, 57, 58, 59, 60, 61, 62, 63, 64, 65, 66, 72, 73, 74, 75, 76, 77, 78, 79, 80, 81, 82, 83, 84, 85, 86, 87, 88, 89, 90, 91, 92, 93, 94] (by decide +kernel) (by decide +kernel)
set_option maxRecDepth 20000 in
theorem gX5_seek_X0_goBefore : GoodIn wsX5_seek (wsV RX5 119 RX0 yX0_goBefore wsX0_goBefore) := goodIn_app (goodIn_of _ (by decide +kernel)) ggX5_seek_X0_goBefore
set_option maxRecDepth 20000 in
theorem ggX5_rewind_X5_requireState : GoodIn wsX5_rewind wsX5_requireState := goodIn_ca (goodIn_r _ [6, 7, 8] (by decide +kernel) (by decide +kernel)) (goodIn_sub (fun _ h => List.mem_cons_of_mem _ (List.mem_append_right _ h)) (by decide +kernel))
set_option maxRecDepth 20000 in
theorem gX5_rewind_X5_requireState : GoodIn wsX5_rewind (va_wsS RX5 53 yX5_requireState wsX5_requireState) := goodIn_app (goodIn_of _ (by decide +kernel)) ggX5_rewind_X5_requireState
set_option maxRecDepth 20000 in
theorem ggX5_rewind_X0_restart : GoodIn wsX5_rewind wsX0_restart := goodIn_r _ [13, 14, 15, 16, 17, 18, 19, 20, 21, 22, 23, 24, 25, 26, 27, 33, 34, 35, 36, 37, 38, 39, 40, 41, 42, 43, 44, 45, 46] (by decide +kernel) (by decide +kernel)
set_option maxRecDepth 20000 in
theorem gX5_rewind_X0_restart : GoodIn wsX5_rewind (wsV RX5 68 RX0 yX0_restart wsX0_restart) := goodIn_app (goodIn_of _ (by decide +kernel)) ggX5_rewind_X0_restart
set_option maxRecDepth 20000 in
theorem ggX5_count_X5_isBelow : GoodIn wsX5_count wsX5_isBelow := goodIn_r _ [7] (by decide +kernel) (by decide +kernel)
set_option maxRecDepth 20000 in
theorem gX5_count_X5_isBelow : GoodIn wsX5_count (va_wsS RX5 77 yX5_isBelow wsX5_isBelow) := goodIn_app (goodIn_of _ (by decide +kernel)) ggX5_count_X5_isBelow
set_option maxRecDepth 20000 in
theorem ggX5_count_X5_requireArgument : GoodIn wsX5_count wsX5_requireArgument := goodIn_ca (goodIn_r _ [10, 11, 12] (by decide +kernel) (by decide +kernel)) (goodIn_sub (fun _ h => List.mem_cons_of_mem _ (List.mem_append_left _ (List.mem_append_right _ h))) (by decide +kernel))
set_option maxRecDepth 20000 in
theorem gX5_count_X5_requireArgument : GoodIn wsX5_count (va_wsS RX5 81 yX5_requireArgument wsX5_requireArgument) := goodIn_app (goodIn_of _ (by decide +kernel)) ggX5_count_X5_requireArgument
set_option maxRecDepth 20000 in
theorem ggX5_count_X5_requireState : GoodIn wsX5_count wsX5_requireState := goodIn_ca (goodIn_r _ [15, 16, 17] (by decide +kernel) (by decide +kernel)) (goodIn_sub (fun _ h => List.mem_cons_of_mem _ (List.mem_append_right _ h)) (by decide +kernel))
set_option maxRecDepth 20000 in
theorem gX5_count_X5_requireState : GoodIn wsX5_count (va_wsS RX5 53 yX5_requireState wsX5_requireState) := goodIn_app (goodIn_of _ (by decide +kernel)) ggX5_count_X5_requireState
set_option maxRecDepth 20000 in
theorem ggX5_count_X4_size : GoodIn wsX5_count wsX4_size := goodIn_r _ [22, 23, 42, 43, 44, 45, 46, 47, 48, 49, 50] (by decide +kernel) (by decide +kernel)
set_option maxRecDepth 20000 in
theorem gX5_count_X4_size : GoodIn wsX5_count (wsV RX5 122 RX4 yX4_size wsX4_size) := goodIn_app (goodIn_of _ (by decide +kernel)) ggX5_count_X4_size
set_option maxRecDepth 20000 in
theorem ggX5_count_X5_pairsBefore : GoodIn wsX5_count wsX5_pairsBefore := goodIn_r _ [26, 27, 28, 29, 21, 30, 23, 31, 32, 33, 34, 35, 36, 42, 43, 44, 45, 46, 47, 48, 49, 50] (by decide +kernel) (by decide +kernel)
set_option maxRecDepth 20000 in
theorem gX5_count_X5_pairsBefore : GoodIn wsX5_count (va_wsS RX5 125 yX5_pairsBefore wsX5_pairsBefore) := goodIn_app (goodIn_of _ (by decide +kernel)) ggX5_count_X5_pairsBefore
set_option maxRecDepth 20000 in
theorem ggX5_rows_X5_requireState : GoodIn wsX5_rows wsX5_requireState := goodIn_ca (goodIn_r _ [5, 6, 7] (by decide +kernel) (by decide +kernel)) (goodIn_sub (fun _ h => List.mem_cons_of_mem _ (List.mem_append_right _ h)) (by decide +kernel))
set_option maxRecDepth 20000 in
theorem gX5_rows_X5_requireState : GoodIn wsX5_rows (va_wsS RX5 53 yX5_requireState wsX5_requireState) := goodIn_app (goodIn_of _ (by decide +kernel)) ggX5_rows_X5_requireState
set_option maxRecDepth 20000 in
theorem ggX5_rows_X5_tableOf : GoodIn wsX5_rows wsX5_tableOf := goodIn_r _ [11, 12, 13, 25, 26, 27, 28, 29] (by decide +kernel) (by decide +kernel)
set_option maxRecDepth 20000 in
theorem gX5_rows_X5_tableOf : GoodIn wsX5_rows (wsV RX5 45 RX5 yX5_tableOf wsX5_tableOf) := goodIn_app (goodIn_of _ (by decide +kernel)) ggX5_rows_X5_tableOf
set_option maxRecDepth 20000 in
theorem ggX5_rows_X4_size : GoodIn wsX5_rows wsX4_size := goodIn_r _ [18, 19, 30, 31, 32, 33, 34, 35, 36, 37, 38] (by decide +kernel) (by decide +kernel)
set_option maxRecDepth 20000 in
theorem gX5_rows_X4_size : GoodIn wsX5_rows (wsV RX5 122 RX4 yX4_size wsX4_size) := goodIn_app (goodIn_of _ (by decide +kernel)) ggX5_rows_X4_size
set_option maxRecDepth 20000 in
theorem ggX5_rows_X4_loneBefore : GoodIn wsX5_rows wsX4_loneBefore := goodIn_r _ [23, 19, 24, 30, 31, 32, 33, 34, 35, 36, 37, 38] (by decide +kernel) (by decide +kernel)
set_option maxRecDepth 20000 in
theorem gX5_rows_X4_loneBefore : GoodIn wsX5_rows (wsV RX5 129 RX4 yX4_loneBefore wsX4_loneBefore) := goodIn_app (goodIn_of _ (by decide +kernel)) ggX5_rows_X4_loneBefore
set_option maxRecDepth 20000 in
theorem ggX5_groups_X5_requireState : GoodIn wsX5_groups wsX5_requireState := goodIn_ca (goodIn_r _ [10, 11, 12] (by decide +kernel) (by decide +kernel)) (goodIn_sub (fun _ h => List.mem_cons_of_mem _ (List.mem_append_right _ h)) (by decide +kernel))
set_option maxRecDepth 20000 in
theorem gX5_groups_X5_requireState : GoodIn wsX5_groups (va_wsS RX5 53 yX5_requireState wsX5_requireState) := goodIn_app (goodIn_of _ (by decide +kernel)) ggX5_groups_X5_requireState
set_option maxRecDepth 20000 in
theorem ggX5_groups_X4_groupStarts : GoodIn wsX5_groups wsX4_groupStarts := goodIn_r _ [17, 18, 19, 20, 21, 16, 22, 23, 24, 25, 26, 27, 28, 29, 30, 31, 32, 33, 34, 35, 36, 37, 98, 99, 100, 101, 102, 103, 104, 105, 106] (by decide +kernel) (by decide +kernel)
set_option maxRecDepth 20000 in
theorem gX5_groups_X4_groupStarts : GoodIn wsX5_groups (wsV RX5 132 RX4 yX4_groupStarts wsX4_groupStarts) := goodIn_app (goodIn_of _ (by decide +kernel)) ggX5_groups_X4_groupStarts
set_option maxRecDepth 20000 in
theorem ggX5_groups_X1_room : GoodIn wsX5_groups wsX1_room := goodIn_r _ [42, 43, 107, 108, 109, 110, 111, 112] (by decide +kernel) (by decide +kernel)
set_option maxRecDepth 20000 in
theorem gX5_groups_X1_room : GoodIn wsX5_groups (wsV RX5 135 RX1 yX1_room wsX1_room) := goodIn_app (goodIn_of _ (by decide +kernel)) ggX5_groups_X1_room
set_option maxRecDepth 20000 in
theorem ggX5_groups_X1_tell : GoodIn wsX5_groups wsX1_tell := goodIn_r _ [47, 48, 43, 49, 50, 51, 52, 53, 54, 16, 55, 18, 56, 20, 21, 22, 23, 24, 25, 26, 27, 28, 29, 30, 31, 32, 33, 34, 35, 36, 37, 57, 58, 59, 60, 61, 62, 63, 64, 65, 66, 67, 68, 69, 70, 71, 72, 73, 74, 75, 76, 77, 78, 79, 80, 81, 82, 83, 84, 85, 86, 87, 88, 41, 89, 90, 91, 92, 107, 108, 109, 110, 111, 112, 98, 99, 100, 101, 102, 103, 104, 105, 106, 113, 114, 115, 116] (by decide +kernel) (by decide +kernel)
set_option maxRecDepth 20000 in
theorem gX5_groups_X1_tell : GoodIn wsX5_groups (wsV RX5 145 RX1 yX1_tell wsX1_tell) := goodIn_app (goodIn_of _ (by decide +kernel)) ggX5_groups_X1_tell
set_option maxRecDepth 20000 in
theorem ggX5_group_X1_isTold : GoodIn wsX5_group wsX1_isTold := goodIn_r _ [7, 8, 39, 40, 41, 42, 43, 44] (by decide +kernel) (by decide +kernel)
set_option maxRecDepth 20000 in
theorem gX5_group_X1_isTold : GoodIn wsX5_group (wsV RX5 149 RX1 yX1_isTold wsX1_isTold) := goodIn_app (goodIn_of _ (by decide +kernel)) ggX5_group_X1_isTold
set_option maxRecDepth 20000 in
theorem ggX5_group_X1_has : GoodIn wsX5_group wsX1_has := goodIn_r _ [12, 13, 39, 40, 41, 42, 43, 44] (by decide +kernel) (by decide +kernel)
set_option maxRecDepth 20000 in
theorem gX5_group_X1_has : GoodIn wsX5_group (wsV RX5 152 RX1 yX1_has wsX1_has) := goodIn_app (goodIn_of _ (by decide +kernel)) ggX5_group_X1_has
set_option maxRecDepth 20000 in
theorem ggX5_group_X5_isBelow : GoodIn wsX5_group wsX5_isBelow := goodIn_r _ [17] (by decide +kernel) (by decide +kernel)
set_option maxRecDepth 20000 in
theorem gX5_group_X5_isBelow : GoodIn wsX5_group (va_wsS RX5 77 yX5_isBelow wsX5_isBelow) := goodIn_app (goodIn_of _ (by decide +kernel)) ggX5_group_X5_isBelow
set_option maxRecDepth 20000 in
theorem ggX5_group_X5_requireArgument : GoodIn wsX5_group wsX5_requireArgument := goodIn_ca (goodIn_r _ [20, 21, 22] (by decide +kernel) (by decide +kernel)) (goodIn_sub (fun _ h => List.mem_cons_of_mem _ (List.mem_append_left _ (List.mem_append_right _ h))) (by decide +kernel))
set_option maxRecDepth 20000 in
theorem gX5_group_X5_requireArgument : GoodIn wsX5_group (va_wsS RX5 81 yX5_requireArgument wsX5_requireArgument) := goodIn_app (goodIn_of _ (by decide +kernel)) ggX5_group_X5_requireArgument
set_option maxRecDepth 20000 in
theorem ggX5_group_X5_requireState : GoodIn wsX5_group wsX5_requireState := goodIn_ca (goodIn_r _ [25, 26, 27] (by decide +kernel) (by decide +kernel)) (goodIn_sub (fun _ h => List.mem_cons_of_mem _ (List.mem_append_right _ h)) (by decide +kernel))
set_option maxRecDepth 20000 in
theorem gX5_group_X5_requireState : GoodIn wsX5_group (va_wsS RX5 53 yX5_requireState wsX5_requireState) := goodIn_app (goodIn_of _ (by decide +kernel)) ggX5_group_X5_requireState
set_option maxRecDepth 20000 in
theorem ggX5_group_X1_fact : GoodIn wsX5_group wsX1_fact := goodIn_r _ [31, 32, 33, 10, 11, 6, 12, 13, 15, 16, 17, 39, 40, 41, 42, 43, 44] (by decide +kernel) (by decide +kernel)
set_option maxRecDepth 20000 in
theorem gX5_group_X1_fact : GoodIn wsX5_group (wsV RX5 153 RX1 yX1_fact wsX1_fact) := goodIn_app (goodIn_of _ (by decide +kernel)) ggX5_group_X1_fact
set_option maxRecDepth 20000 in
theorem ggX5_sorted_X5_tableOf : GoodIn wsX5_sorted wsX5_tableOf := goodIn_r _ [6, 7, 8, 44, 45, 46, 47, 48] (by decide +kernel) (by decide +kernel)
set_option maxRecDepth 20000 in
theorem gX5_sorted_X5_tableOf : GoodIn wsX5_sorted (wsV RX5 45 RX5 yX5_tableOf wsX5_tableOf) := goodIn_app (goodIn_of _ (by decide +kernel)) ggX5_sorted_X5_tableOf
set_option maxRecDepth 20000 in
theorem ggX5_sorted_X4_has : GoodIn wsX5_sorted wsX4_has := goodIn_r _ [13, 14, 49, 50, 51, 52, 53, 54, 55, 56, 57] (by decide +kernel) (by decide +kernel)
set_option maxRecDepth 20000 in
theorem gX5_sorted_X4_has : GoodIn wsX5_sorted (wsV RX5 97 RX4 yX4_has wsX4_has) := goodIn_app (goodIn_of _ (by decide +kernel)) ggX5_sorted_X4_has
set_option maxRecDepth 20000 in
theorem ggX5_sorted_X5_isBelow : GoodIn wsX5_sorted wsX5_isBelow := goodIn_r _ [17] (by decide +kernel) (by decide +kernel)
set_option maxRecDepth 20000 in
theorem gX5_sorted_X5_isBelow : GoodIn wsX5_sorted (va_wsS RX5 77 yX5_isBelow wsX5_isBelow) := goodIn_app (goodIn_of _ (by decide +kernel)) ggX5_sorted_X5_isBelow
set_option maxRecDepth 20000 in
theorem ggX5_sorted_X5_requireArgument : GoodIn wsX5_sorted wsX5_requireArgument := goodIn_ca (goodIn_r _ [20, 21, 22] (by decide +kernel) (by decide +kernel)) (goodIn_sub (fun _ h => List.mem_cons_of_mem _ (List.mem_append_left _ (List.mem_append_right _ h))) (by decide +kernel))
set_option maxRecDepth 20000 in
theorem gX5_sorted_X5_requireArgument : GoodIn wsX5_sorted (va_wsS RX5 81 yX5_requireArgument wsX5_requireArgument) := goodIn_app (goodIn_of _ (by decide +kernel)) ggX5_sorted_X5_requireArgument
end
section
set_option maxRecDepth 20000 in
theorem ggX5_sorted_X5_requireState : GoodIn wsX5_sorted wsX5_requireState := goodIn_ca (goodIn_r _ [25, 26, 27] (by decide +kernel) (by decide +kernel)) (goodIn_sub (fun _ h => List.mem_cons_of_mem _ (List.mem_append_right _ h)) (by decide +kernel))
set_option maxRecDepth 20000 in
theorem gX5_sorted_X5_requireState : GoodIn wsX5_sorted (va_wsS RX5 53 yX5_requireState wsX5_requireState) := goodIn_app (goodIn_of _ (by decide +kernel)) ggX5_sorted_X5_requireState
set_option maxRecDepth 20000 in
theorem ggX5_sorted_X4_keyAt : GoodIn wsX5_sorted wsX4_keyAt := goodIn_r _ [31, 32, 33, 34, 10, 11, 12, 13, 14, 49, 50, 51, 52, 53, 54, 55, 56, 57] (by decide +kernel) (by decide +kernel)
set_option maxRecDepth 20000 in
theorem gX5_sorted_X4_keyAt : GoodIn wsX5_sorted (wsV RX5 101 RX4 yX4_keyAt wsX4_keyAt) := goodIn_app (goodIn_of _ (by decide +kernel)) ggX5_sorted_X4_keyAt
set_option maxRecDepth 20000 in
theorem ggX5_sorted_X4_valueAt : GoodIn wsX5_sorted wsX4_valueAt := goodIn_r _ [38, 39, 33, 34, 10, 11, 12, 13, 14, 49, 50, 51, 52, 53, 54, 55, 56, 57] (by decide +kernel) (by decide +kernel)
set_option maxRecDepth 20000 in
theorem gX5_sorted_X4_valueAt : GoodIn wsX5_sorted (wsV RX5 104 RX4 yX4_valueAt wsX4_valueAt) := goodIn_app (goodIn_of _ (by decide +kernel)) ggX5_sorted_X4_valueAt
set_option maxRecDepth 20000 in
theorem ggX5_sorted_X4_numberAt : GoodIn wsX5_sorted wsX4_numberAt := goodIn_r _ [43, 33, 34, 10, 11, 12, 13, 14, 49, 50, 51, 52, 53, 54, 55, 56, 57] (by decide +kernel) (by decide +kernel)
set_option maxRecDepth 20000 in
theorem gX5_sorted_X4_numberAt : GoodIn wsX5_sorted (wsV RX5 107 RX4 yX4_numberAt wsX4_numberAt) := goodIn_app (goodIn_of _ (by decide +kernel)) ggX5_sorted_X4_numberAt
set_option maxRecDepth 20000 in
theorem ggX5_about_X5_isBelow : GoodIn wsX5_about wsX5_isBelow := goodIn_r _ [8] (by decide +kernel) (by decide +kernel)
set_option maxRecDepth 20000 in
theorem gX5_about_X5_isBelow : GoodIn wsX5_about (va_wsS RX5 77 yX5_isBelow wsX5_isBelow) := goodIn_app (goodIn_of _ (by decide +kernel)) ggX5_about_X5_isBelow
set_option maxRecDepth 20000 in
theorem ggX5_about_X5_requireArgument : GoodIn wsX5_about wsX5_requireArgument := goodIn_ca (goodIn_r _ [11, 12, 13] (by decide +kernel) (by decide +kernel)) (goodIn_sub (fun _ h => List.mem_cons_of_mem _ (List.mem_append_right _ h)) (by decide +kernel))
set_option maxRecDepth 20000 in
theorem gX5_about_X5_requireArgument : GoodIn wsX5_about (va_wsS RX5 81 yX5_requireArgument wsX5_requireArgument) := goodIn_app (goodIn_of _ (by decide +kernel)) ggX5_about_X5_requireArgument
set_option maxRecDepth 20000 in
theorem ggX5_about_X0_cellsRead : GoodIn wsX5_about wsX0_cellsRead := goodIn_r _ [18, 19, 36, 37, 38, 39, 40, 41, 42] (by decide +kernel) (by decide +kernel)
set_option maxRecDepth 20000 in
theorem gX5_about_X0_cellsRead : GoodIn wsX5_about (wsV RX5 157 RX0 yX0_cellsRead wsX0_cellsRead) := goodIn_app (goodIn_of _ (by decide +kernel)) ggX5_about_X0_cellsRead
set_option maxRecDepth 20000 in
theorem ggX5_about_X4_size : GoodIn wsX5_about wsX4_size := goodIn_r _ [24, 25, 43, 44, 45, 46, 47, 48, 49, 50, 51] (by decide +kernel) (by decide +kernel)
set_option maxRecDepth 20000 in
theorem gX5_about_X4_size : GoodIn wsX5_about (wsV RX5 122 RX4 yX4_size wsX4_size) := goodIn_app (goodIn_of _ (by decide +kernel)) ggX5_about_X4_size
set_option maxRecDepth 20000 in
theorem ggX5_about_X0_kindInUse : GoodIn wsX5_about wsX0_kindInUse := goodIn_r _ [29, 30, 36, 37, 38, 39, 40, 41, 42] (by decide +kernel) (by decide +kernel)
set_option maxRecDepth 20000 in
theorem gX5_about_X0_kindInUse : GoodIn wsX5_about (wsV RX5 161 RX0 yX0_kindInUse wsX0_kindInUse) := goodIn_app (goodIn_of _ (by decide +kernel)) ggX5_about_X0_kindInUse
set_option maxRecDepth 20000 in
theorem ggX5_clear_X4_empty : GoodIn wsX5_clear wsX4_empty := goodIn_r _ [9, 10, 11, 23, 24, 25, 26, 27, 28, 29, 30, 31] (by decide +kernel) (by decide +kernel)
set_option maxRecDepth 20000 in
theorem gX5_clear_X4_empty : GoodIn wsX5_clear (wsV RX5 164 RX4 yX4_empty wsX4_empty) := goodIn_app (goodIn_of _ (by decide +kernel)) ggX5_clear_X4_empty
set_option maxRecDepth 20000 in
theorem ggX5_clear_X0_useKind : GoodIn wsX5_clear wsX0_useKind := goodIn_r _ [16, 17, 32, 33, 34, 35, 36, 37, 38] (by decide +kernel) (by decide +kernel)
set_option maxRecDepth 20000 in
theorem gX5_clear_X0_useKind : GoodIn wsX5_clear (wsV RX5 84 RX0 yX0_useKind wsX0_useKind) := goodIn_app (goodIn_of _ (by decide +kernel)) ggX5_clear_X0_useKind
set_option maxRecDepth 20000 in
theorem ggX5_pairsBefore_X4_partnersBefore : GoodIn wsX5_pairsBefore wsX4_partnersBefore := goodIn_r _ [5, 6, 7, 13, 14, 15, 16, 17, 18, 19, 20, 21] (by decide +kernel) (by decide +kernel)
set_option maxRecDepth 20000 in
theorem gX5_pairsBefore_X4_partnersBefore : GoodIn wsX5_pairsBefore (wsV RX5 185 RX4 yX4_partnersBefore wsX4_partnersBefore) := goodIn_app (goodIn_of _ (by decide +kernel)) ggX5_pairsBefore_X4_partnersBefore
set_option maxRecDepth 20000 in
theorem ggX5_pairsBefore_X4_loneBefore : GoodIn wsX5_pairsBefore wsX4_loneBefore := goodIn_r _ [11, 6, 12, 13, 14, 15, 16, 17, 18, 19, 20, 21] (by decide +kernel) (by decide +kernel)
set_option maxRecDepth 20000 in
theorem gX5_pairsBefore_X4_loneBefore : GoodIn wsX5_pairsBefore (wsV RX5 129 RX4 yX4_loneBefore wsX4_loneBefore) := goodIn_app (goodIn_of _ (by decide +kernel)) ggX5_pairsBefore_X4_loneBefore
end
section
set_option maxRecDepth 20000 in
theorem ggX6_init_X6_between : GoodIn wsX6_init wsX6_between := goodIn_r _ [15] (by decide +kernel) (by decide +kernel)
set_option maxRecDepth 20000 in
theorem gX6_init_X6_between : GoodIn wsX6_init (va_wsS RX6 28 yX6_between wsX6_between) := goodIn_app (goodIn_of _ (by decide +kernel)) ggX6_init_X6_between
set_option maxRecDepth 20000 in
theorem ggX6_add_X6_refuses : GoodIn wsX6_add wsX6_refuses := goodIn_r _ [11, 12, 13, 14, 15, 16, 17, 18, 19, 20, 21, 22, 23, 24, 25, 26, 27] (by decide +kernel) (by decide +kernel)
set_option maxRecDepth 20000 in
theorem gX6_add_X6_refuses : GoodIn wsX6_add (wsV RX6 39 RX6 yX6_refuses wsX6_refuses) := goodIn_app (goodIn_of _ (by decide +kernel)) ggX6_add_X6_refuses
set_option maxRecDepth 20000 in
theorem ggX6_prepare_X6_begins : GoodIn wsX6_prepare wsX6_begins := goodIn_r _ [13, 14, 15, 16, 17, 18, 19, 20, 21, 22, 23, 24, 25, 26, 27, 28, 29] (by decide +kernel) (by decide +kernel)
set_option maxRecDepth 20000 in
theorem gX6_prepare_X6_begins : GoodIn wsX6_prepare (wsV RX6 50 RX6 yX6_begins wsX6_begins) := goodIn_app (goodIn_of _ (by decide +kernel)) ggX6_prepare_X6_begins
set_option maxRecDepth 20000 in
theorem ggX6_kind_X6_refuses : GoodIn wsX6_kind wsX6_refuses := goodIn_r _ [8, 9, 15, 16, 17, 18, 19, 20, 21, 22, 23, 24, 25, 26, 27, 28, 29] (by decide +kernel) (by decide +kernel)
set_option maxRecDepth 20000 in
theorem gX6_kind_X6_refuses : GoodIn wsX6_kind (wsV RX6 39 RX6 yX6_refuses wsX6_refuses) := goodIn_app (goodIn_of _ (by decide +kernel)) ggX6_kind_X6_refuses
set_option maxRecDepth 20000 in
theorem ggX6_kind_X6_begins : GoodIn wsX6_kind wsX6_begins := goodIn_r _ [13, 14, 15, 16, 17, 18, 19, 20, 21, 22, 23, 24, 25, 26, 27, 28, 29] (by decide +kernel) (by decide +kernel)
set_option maxRecDepth 20000 in
theorem gX6_kind_X6_begins : GoodIn wsX6_kind (wsV RX6 50 RX6 yX6_begins wsX6_begins) := goodIn_app (goodIn_of _ (by decide +kernel)) ggX6_kind_X6_begins
set_option maxRecDepth 20000 in
theorem ggX6_goes_X6_key : GoodIn wsX6_goes wsX6_key := goodIn_r _ [8, 9, 10, 11, 12, 13, 14, 15, 16, 17, 18, 19, 20, 21, 22, 23, 24, 25] (by decide +kernel) (by decide +kernel)
set_option maxRecDepth 20000 in
theorem gX6_goes_X6_key : GoodIn wsX6_goes (wsV RX6 63 RX6 yX6_key wsX6_key) := goodIn_app (goodIn_of _ (by decide +kernel)) ggX6_goes_X6_key
set_option maxRecDepth 20000 in
theorem ggX6_next_X6_refuses : GoodIn wsX6_next wsX6_refuses := goodIn_r _ [11, 12, 30, 31, 32, 33, 34, 35, 36, 37, 38, 39, 40, 41, 42, 43, 44] (by decide +kernel) (by decide +kernel)
set_option maxRecDepth 20000 in
theorem gX6_next_X6_refuses : GoodIn wsX6_next (wsV RX6 39 RX6 yX6_refuses wsX6_refuses) := goodIn_app (goodIn_of _ (by decide +kernel)) ggX6_next_X6_refuses
set_option maxRecDepth 20000 in
theorem ggX6_next_X6_steps : GoodIn wsX6_next wsX6_steps := goodIn_r _ [16, 2, 30, 31, 32, 33, 34, 35, 36, 37, 38, 39, 40, 41, 42, 43, 44] (by decide +kernel) (by decide +kernel)
set_option maxRecDepth 20000 in
theorem gX6_next_X6_steps : GoodIn wsX6_next (wsV RX6 67 RX6 yX6_steps wsX6_steps) := goodIn_app (goodIn_of _ (by decide +kernel)) ggX6_next_X6_steps
set_option maxRecDepth 20000 in
theorem ggX6_next_X6_key : GoodIn wsX6_next wsX6_key := goodIn_r _ [20, 21, 22, 30, 31, 32, 33, 34, 35, 36, 37, 38, 39, 40, 41, 42, 43, 44] (by decide +kernel) (by decide +kernel)
set_option maxRecDepth 20000 in
theorem gX6_next_X6_key : GoodIn wsX6_next (wsV RX6 63 RX6 yX6_key wsX6_key) := goodIn_app (goodIn_of _ (by decide +kernel)) ggX6_next_X6_key
set_option maxRecDepth 20000 in
theorem ggX6_next_X6_goes : GoodIn wsX6_next wsX6_goes := goodIn_r _ [26, 2, 4, 3, 17, 18, 19, 10, 20, 21, 22, 30, 31, 32, 33, 34, 35, 36, 37, 38, 39, 40, 41, 42, 43, 44] (by decide +kernel) (by decide +kernel)
set_option maxRecDepth 20000 in
theorem gX6_next_X6_goes : GoodIn wsX6_next (wsV RX6 73 RX6 yX6_goes wsX6_goes) := goodIn_app (goodIn_of _ (by decide +kernel)) ggX6_next_X6_goes
set_option maxRecDepth 20000 in
theorem ggX6_next_X6_tells : GoodIn wsX6_next wsX6_tells := goodIn_r _ [29] (by decide +kernel) (by decide +kernel)
set_option maxRecDepth 20000 in
theorem gX6_next_X6_tells : GoodIn wsX6_next (va_wsS RX6 77 yX6_tells wsX6_tells) := goodIn_app (goodIn_of _ (by decide +kernel)) ggX6_next_X6_tells
set_option maxRecDepth 20000 in
theorem ggX6_pair_X6_refuses : GoodIn wsX6_pair wsX6_refuses := goodIn_r _ [8, 9, 20, 21, 22, 23, 24, 25, 26, 27, 28, 29, 30, 31, 32, 33, 34] (by decide +kernel) (by decide +kernel)
set_option maxRecDepth 20000 in
theorem gX6_pair_X6_refuses : GoodIn wsX6_pair (wsV RX6 39 RX6 yX6_refuses wsX6_refuses) := goodIn_app (goodIn_of _ (by decide +kernel)) ggX6_pair_X6_refuses
set_option maxRecDepth 20000 in
theorem ggX6_pair_X6_key : GoodIn wsX6_pair wsX6_key := goodIn_r _ [13, 14, 3, 20, 21, 22, 23, 24, 25, 26, 27, 28, 29, 30, 31, 32, 33, 34] (by decide +kernel) (by decide +kernel)
set_option maxRecDepth 20000 in
theorem gX6_pair_X6_key : GoodIn wsX6_pair (wsV RX6 63 RX6 yX6_key wsX6_key) := goodIn_app (goodIn_of _ (by decide +kernel)) ggX6_pair_X6_key
set_option maxRecDepth 20000 in
theorem ggX6_pair_X6_value : GoodIn wsX6_pair wsX6_value := goodIn_r _ [18, 19, 3, 20, 21, 22, 23, 24, 25, 26, 27, 28, 29, 30, 31, 32, 33, 34] (by decide +kernel) (by decide +kernel)
set_option maxRecDepth 20000 in
theorem gX6_pair_X6_value : GoodIn wsX6_pair (wsV RX6 81 RX6 yX6_value wsX6_value) := goodIn_app (goodIn_of _ (by decide +kernel)) ggX6_pair_X6_value
set_option maxRecDepth 20000 in
theorem ggX6_mark_X6_refuses : GoodIn wsX6_mark wsX6_refuses := goodIn_r _ [8, 9, 10, 11, 12, 13, 14, 15, 16, 17, 18, 19, 20, 21, 22, 23, 24] (by decide +kernel) (by decide +kernel)
set_option maxRecDepth 20000 in
theorem gX6_mark_X6_refuses : GoodIn wsX6_mark (wsV RX6 39 RX6 yX6_refuses wsX6_refuses) := goodIn_app (goodIn_of _ (by decide +kernel)) ggX6_mark_X6_refuses
set_option maxRecDepth 20000 in
theorem ggX6_back_X6_refuses : GoodIn wsX6_back wsX6_refuses := goodIn_r _ [8, 9, 10, 11, 12, 13, 14, 15, 16, 17, 18, 19, 20, 21, 22, 23, 24] (by decide +kernel) (by decide +kernel)
set_option maxRecDepth 20000 in
theorem gX6_back_X6_refuses : GoodIn wsX6_back (wsV RX6 39 RX6 yX6_refuses wsX6_refuses) := goodIn_app (goodIn_of _ (by decide +kernel)) ggX6_back_X6_refuses
set_option maxRecDepth 20000 in
theorem ggX6_pairs_X6_rowsOf : GoodIn wsX6_pairs wsX6_rowsOf := goodIn_r _ [7, 1, 2, 11, 12, 13, 14, 15, 16, 17, 18, 19, 20, 21, 22, 23, 24, 25] (by decide +kernel) (by decide +kernel)
set_option maxRecDepth 20000 in
theorem gX6_pairs_X6_rowsOf : GoodIn wsX6_pairs (wsV RX6 84 RX6 yX6_rowsOf wsX6_rowsOf) := goodIn_app (goodIn_of _ (by decide +kernel)) ggX6_pairs_X6_rowsOf
set_option maxRecDepth 20000 in
theorem ggX6_pairs_X6_tells : GoodIn wsX6_pairs wsX6_tells := goodIn_r _ [10] (by decide +kernel) (by decide +kernel)
set_option maxRecDepth 20000 in
theorem gX6_pairs_X6_tells : GoodIn wsX6_pairs (va_wsS RX6 77 yX6_tells wsX6_tells) := goodIn_app (goodIn_of _ (by decide +kernel)) ggX6_pairs_X6_tells
set_option maxRecDepth 20000 in
theorem ggX6_seek_X6_refuses : GoodIn wsX6_seek wsX6_refuses := goodIn_r _ [10, 11, 33, 34, 35, 36, 37, 38, 39, 40, 41, 42, 43, 44, 45, 46, 47] (by decide +kernel) (by decide +kernel)
set_option maxRecDepth 20000 in
theorem gX6_seek_X6_refuses : GoodIn wsX6_seek (wsV RX6 39 RX6 yX6_refuses wsX6_refuses) := goodIn_app (goodIn_of _ (by decide +kernel)) ggX6_seek_X6_refuses
set_option maxRecDepth 20000 in
theorem ggX6_seek_X6_begins : GoodIn wsX6_seek wsX6_begins := goodIn_r _ [15, 4, 33, 34, 35, 36, 37, 38, 39, 40, 41, 42, 43, 44, 45, 46, 47] (by decide +kernel) (by decide +kernel)
set_option maxRecDepth 20000 in
theorem gX6_seek_X6_begins : GoodIn wsX6_seek (wsV RX6 50 RX6 yX6_begins wsX6_begins) := goodIn_app (goodIn_of _ (by decide +kernel)) ggX6_seek_X6_begins
set_option maxRecDepth 20000 in
theorem ggX6_seek_X6_key : GoodIn wsX6_seek wsX6_key := goodIn_r _ [19, 20, 21, 33, 34, 35, 36, 37, 38, 39, 40, 41, 42, 43, 44, 45, 46, 47] (by decide +kernel) (by decide +kernel)
set_option maxRecDepth 20000 in
theorem gX6_seek_X6_key : GoodIn wsX6_seek (wsV RX6 63 RX6 yX6_key wsX6_key) := goodIn_app (goodIn_of _ (by decide +kernel)) ggX6_seek_X6_key
set_option maxRecDepth 20000 in
theorem ggX6_seek_X6_pairs : GoodIn wsX6_seek wsX6_pairs := goodIn_r _ [25, 2, 20, 26, 27, 28, 9, 29, 30, 31, 32, 33, 34, 35, 36, 37, 38, 39, 40, 41, 42, 43, 44, 45, 46, 47] (by decide +kernel) (by decide +kernel)
set_option maxRecDepth 20000 in
theorem gX6_seek_X6_pairs : GoodIn wsX6_seek (wsV RX6 87 RX6 yX6_pairs wsX6_pairs) := goodIn_app (goodIn_of _ (by decide +kernel)) ggX6_seek_X6_pairs
set_option maxRecDepth 20000 in
theorem ggX6_rewind_X6_refuses : GoodIn wsX6_rewind wsX6_refuses := goodIn_r _ [7, 8, 14, 15, 16, 17, 18, 19, 20, 21, 22, 23, 24, 25, 26, 27, 28] (by decide +kernel) (by decide +kernel)
set_option maxRecDepth 20000 in
theorem gX6_rewind_X6_refuses : GoodIn wsX6_rewind (wsV RX6 39 RX6 yX6_refuses wsX6_refuses) := goodIn_app (goodIn_of _ (by decide +kernel)) ggX6_rewind_X6_refuses
set_option maxRecDepth 20000 in
theorem ggX6_rewind_X6_begins : GoodIn wsX6_rewind wsX6_begins := goodIn_r _ [12, 13, 14, 15, 16, 17, 18, 19, 20, 21, 22, 23, 24, 25, 26, 27, 28] (by decide +kernel) (by decide +kernel)
set_option maxRecDepth 20000 in
theorem gX6_rewind_X6_begins : GoodIn wsX6_rewind (wsV RX6 50 RX6 yX6_begins wsX6_begins) := goodIn_app (goodIn_of _ (by decide +kernel)) ggX6_rewind_X6_begins
set_option maxRecDepth 20000 in
theorem ggX6_count_X6_refuses : GoodIn wsX6_count wsX6_refuses := goodIn_r _ [7, 8, 22, 23, 24, 25, 26, 27, 28, 29, 30, 31, 32, 33, 34, 35, 36] (by decide +kernel) (by decide +kernel)
set_option maxRecDepth 20000 in
theorem gX6_count_X6_refuses : GoodIn wsX6_count (wsV RX6 39 RX6 yX6_refuses wsX6_refuses) := goodIn_app (goodIn_of _ (by decide +kernel)) ggX6_count_X6_refuses
set_option maxRecDepth 20000 in
theorem ggX6_count_X6_pairs : GoodIn wsX6_count wsX6_pairs := goodIn_r _ [12, 13, 14, 15, 16, 17, 6, 18, 19, 20, 21, 22, 23, 24, 25, 26, 27, 28, 29, 30, 31, 32, 33, 34, 35, 36] (by decide +kernel) (by decide +kernel)
set_option maxRecDepth 20000 in
theorem gX6_count_X6_pairs : GoodIn wsX6_count (wsV RX6 87 RX6 yX6_pairs wsX6_pairs) := goodIn_app (goodIn_of _ (by decide +kernel)) ggX6_count_X6_pairs
set_option maxRecDepth 20000 in
theorem ggX6_rows_X6_refuses : GoodIn wsX6_rows wsX6_refuses := goodIn_r _ [8, 9, 14, 15, 16, 17, 18, 19, 20, 21, 22, 23, 24, 25, 26, 27, 28] (by decide +kernel) (by decide +kernel)
set_option maxRecDepth 20000 in
theorem gX6_rows_X6_refuses : GoodIn wsX6_rows (wsV RX6 39 RX6 yX6_refuses wsX6_refuses) := goodIn_app (goodIn_of _ (by decide +kernel)) ggX6_rows_X6_refuses
set_option maxRecDepth 20000 in
theorem ggX6_rows_X6_rowsOf : GoodIn wsX6_rows wsX6_rowsOf := goodIn_r _ [13, 2, 3, 14, 15, 16, 17, 18, 19, 20, 21, 22, 23, 24, 25, 26, 27, 28] (by decide +kernel) (by decide +kernel)
set_option maxRecDepth 20000 in
theorem gX6_rows_X6_rowsOf : GoodIn wsX6_rows (wsV RX6 84 RX6 yX6_rowsOf wsX6_rowsOf) := goodIn_app (goodIn_of _ (by decide +kernel)) ggX6_rows_X6_rowsOf
set_option maxRecDepth 20000 in
theorem ggX6_groupAt_X6_key : GoodIn wsX6_groupAt wsX6_key := goodIn_r _ [6, 7, 8, 13, 14, 15, 16, 17, 18, 19, 20, 21, 22, 23, 24, 25, 26, 27] (by decide +kernel) (by decide +kernel)
set_option maxRecDepth 20000 in
theorem gX6_groupAt_X6_key : GoodIn wsX6_groupAt (wsV RX6 63 RX6 yX6_key wsX6_key) := goodIn_app (goodIn_of _ (by decide +kernel)) ggX6_groupAt_X6_key
set_option maxRecDepth 20000 in
theorem ggX6_groupAt_X6_rowsOf : GoodIn wsX6_groupAt wsX6_rowsOf := goodIn_r _ [12, 1, 7, 13, 14, 15, 16, 17, 18, 19, 20, 21, 22, 23, 24, 25, 26, 27] (by decide +kernel) (by decide +kernel)
set_option maxRecDepth 20000 in
theorem gX6_groupAt_X6_rowsOf : GoodIn wsX6_groupAt (wsV RX6 84 RX6 yX6_rowsOf wsX6_rowsOf) := goodIn_app (goodIn_of _ (by decide +kernel)) ggX6_groupAt_X6_rowsOf
end
section
set_option maxRecDepth 20000 in
theorem ggX6_groups_X6_refuses : GoodIn wsX6_groups wsX6_refuses := goodIn_r _ [8, 9, 25, 26, 27, 28, 29, 30, 31, 32, 33, 34, 35, 36, 37, 38, 39] (by decide +kernel) (by decide +kernel)
set_option maxRecDepth 20000 in
theorem gX6_groups_X6_refuses : GoodIn wsX6_groups (wsV RX6 39 RX6 yX6_refuses wsX6_refuses) := goodIn_app (goodIn_of _ (by decide +kernel)) ggX6_groups_X6_refuses
set_option maxRecDepth 20000 in
theorem ggX6_groups_X6_groupAt : GoodIn wsX6_groups wsX6_groupAt := goodIn_r _ [13, 14, 15, 16, 17, 7, 18, 19, 20, 21, 22, 23, 24, 25, 26, 27, 28, 29, 30, 31, 32, 33, 34, 35, 36, 37, 38, 39] (by decide +kernel) (by decide +kernel)
set_option maxRecDepth 20000 in
theorem gX6_groups_X6_groupAt : GoodIn wsX6_groups (wsV RX6 93 RX6 yX6_groupAt wsX6_groupAt) := goodIn_app (goodIn_of _ (by decide +kernel)) ggX6_groups_X6_groupAt
set_option maxRecDepth 20000 in
theorem ggX6_group_X6_groupAt : GoodIn wsX6_group wsX6_groupAt := goodIn_r _ [14, 7, 15, 16, 17, 13, 18, 8, 19, 20, 21, 22, 23, 29, 30, 31, 32, 33, 34, 35, 36, 37, 38, 39, 40, 41, 42, 43] (by decide +kernel) (by decide +kernel)
set_option maxRecDepth 20000 in
theorem gX6_group_X6_groupAt : GoodIn wsX6_group (wsV RX6 93 RX6 yX6_groupAt wsX6_groupAt) := goodIn_app (goodIn_of _ (by decide +kernel)) ggX6_group_X6_groupAt
set_option maxRecDepth 20000 in
theorem ggX6_group_X6_refuses : GoodIn wsX6_group wsX6_refuses := goodIn_r _ [27, 28, 29, 30, 31, 32, 33, 34, 35, 36, 37, 38, 39, 40, 41, 42, 43] (by decide +kernel) (by decide +kernel)
set_option maxRecDepth 20000 in
theorem gX6_group_X6_refuses : GoodIn wsX6_group (wsV RX6 39 RX6 yX6_refuses wsX6_refuses) := goodIn_app (goodIn_of _ (by decide +kernel)) ggX6_group_X6_refuses
set_option maxRecDepth 20000 in
theorem ggX6_group_X6_key : GoodIn wsX6_group wsX6_key := goodIn_r _ [18, 8, 19, 29, 30, 31, 32, 33, 34, 35, 36, 37, 38, 39, 40, 41, 42, 43] (by decide +kernel) (by decide +kernel)
set_option maxRecDepth 20000 in
theorem gX6_group_X6_key : GoodIn wsX6_group (wsV RX6 63 RX6 yX6_key wsX6_key) := goodIn_app (goodIn_of _ (by decide +kernel)) ggX6_group_X6_key
set_option maxRecDepth 20000 in
theorem ggX6_sorted_X6_refuses : GoodIn wsX6_sorted wsX6_refuses := goodIn_r _ [8, 9, 20, 21, 22, 23, 24, 25, 26, 27, 28, 29, 30, 31, 32, 33, 34] (by decide +kernel) (by decide +kernel)
set_option maxRecDepth 20000 in
theorem gX6_sorted_X6_refuses : GoodIn wsX6_sorted (wsV RX6 39 RX6 yX6_refuses wsX6_refuses) := goodIn_app (goodIn_of _ (by decide +kernel)) ggX6_sorted_X6_refuses
set_option maxRecDepth 20000 in
theorem ggX6_sorted_X6_key : GoodIn wsX6_sorted wsX6_key := goodIn_r _ [13, 14, 3, 20, 21, 22, 23, 24, 25, 26, 27, 28, 29, 30, 31, 32, 33, 34] (by decide +kernel) (by decide +kernel)
set_option maxRecDepth 20000 in
theorem gX6_sorted_X6_key : GoodIn wsX6_sorted (wsV RX6 63 RX6 yX6_key wsX6_key) := goodIn_app (goodIn_of _ (by decide +kernel)) ggX6_sorted_X6_key
set_option maxRecDepth 20000 in
theorem ggX6_sorted_X6_value : GoodIn wsX6_sorted wsX6_value := goodIn_r _ [18, 19, 3, 20, 21, 22, 23, 24, 25, 26, 27, 28, 29, 30, 31, 32, 33, 34] (by decide +kernel) (by decide +kernel)
set_option maxRecDepth 20000 in
theorem gX6_sorted_X6_value : GoodIn wsX6_sorted (wsV RX6 81 RX6 yX6_value wsX6_value) := goodIn_app (goodIn_of _ (by decide +kernel)) ggX6_sorted_X6_value
set_option maxRecDepth 20000 in
theorem ggX6_about_X6_refuses : GoodIn wsX6_about wsX6_refuses := goodIn_r _ [9, 10, 11, 12, 13, 14, 15, 16, 17, 18, 19, 20, 21, 22, 23, 24, 25] (by decide +kernel) (by decide +kernel)
set_option maxRecDepth 20000 in
theorem gX6_about_X6_refuses : GoodIn wsX6_about (wsV RX6 39 RX6 yX6_refuses wsX6_refuses) := goodIn_app (goodIn_of _ (by decide +kernel)) ggX6_about_X6_refuses
set_option maxRecDepth 20000 in
theorem ggX6_clear_X6_begins : GoodIn wsX6_clear wsX6_begins := goodIn_r _ [12, 13, 14, 15, 16, 17, 18, 19, 20, 21, 22, 23, 24, 25, 26, 27, 28] (by decide +kernel) (by decide +kernel)
set_option maxRecDepth 20000 in
theorem gX6_clear_X6_begins : GoodIn wsX6_clear (wsV RX6 50 RX6 yX6_begins wsX6_begins) := goodIn_app (goodIn_of _ (by decide +kernel)) ggX6_clear_X6_begins
end
section
theorem dX0_init_0 : decode cX0_init 0 = .ok (.aload_n 0, 1) := by decide +kernel
theorem dX0_init_1 : decode cX0_init 1 = .ok (.invokespecial 3, 3) := by decide +kernel
theorem dX0_init_4 : decode cX0_init 4 = .ok (.aload_n 0, 1) := by decide +kernel
theorem dX0_init_5 : decode cX0_init 5 = .ok (.aload_n 1, 1) := by decide +kernel
theorem dX0_init_6 : decode cX0_init 6 = .ok (.putfield 9, 3) := by decide +kernel
theorem dX0_init_9 : decode cX0_init 9 = .ok (.aload_n 0, 1) := by decide +kernel
theorem dX0_init_10 : decode cX0_init 10 = .ok (.aload_n 2, 1) := by decide +kernel
theorem dX0_init_11 : decode cX0_init 11 = .ok (.putfield 15, 3) := by decide +kernel
theorem dX0_init_14 : decode cX0_init 14 = .ok (.aload_n 0, 1) := by decide +kernel
theorem dX0_init_15 : decode cX0_init 15 = .ok (.new 18, 3) := by decide +kernel
theorem dX0_init_18 : decode cX0_init 18 = .ok (.dup, 1) := by decide +kernel
theorem dX0_init_19 : decode cX0_init 19 = .ok (.invokespecial 20, 3) := by decide +kernel
theorem dX0_init_22 : decode cX0_init 22 = .ok (.putfield 21, 3) := by decide +kernel
theorem dX0_init_25 : decode cX0_init 25 = .ok (.aload_n 0, 1) := by decide +kernel
theorem dX0_init_26 : decode cX0_init 26 = .ok (.new 18, 3) := by decide +kernel
theorem dX0_init_29 : decode cX0_init 29 = .ok (.dup, 1) := by decide +kernel
theorem dX0_init_30 : decode cX0_init 30 = .ok (.invokespecial 20, 3) := by decide +kernel
theorem dX0_init_33 : decode cX0_init 33 = .ok (.putfield 25, 3) := by decide +kernel
theorem dX0_init_36 : decode cX0_init 36 = .ok (.aload_n 0, 1) := by decide +kernel
theorem dX0_init_37 : decode cX0_init 37 = .ok (.iconst 0, 1) := by decide +kernel
theorem dX0_init_38 : decode cX0_init 38 = .ok (.putfield 28, 3) := by decide +kernel
theorem dX0_init_41 : decode cX0_init 41 = .ok (.aload_n 0, 1) := by decide +kernel
theorem dX0_init_42 : decode cX0_init 42 = .ok (.iconst 0, 1) := by decide +kernel
theorem dX0_init_43 : decode cX0_init 43 = .ok (.putfield 32, 3) := by decide +kernel
theorem dX0_init_46 : decode cX0_init 46 = .ok (.aload_n 0, 1) := by decide +kernel
theorem dX0_init_47 : decode cX0_init 47 = .ok (.lconst 0, 1) := by decide +kernel
theorem dX0_init_48 : decode cX0_init 48 = .ok (.putfield 36, 3) := by decide +kernel
theorem dX0_init_51 : decode cX0_init 51 = .ok (.return_, 1) := by decide +kernel
theorem dX0_kindInUse_0 : decode cX0_kindInUse 0 = .ok (.aload_n 0, 1) := by decide +kernel
theorem dX0_kindInUse_1 : decode cX0_kindInUse 1 = .ok (.getfield 32, 3) := by decide +kernel
theorem dX0_kindInUse_4 : decode cX0_kindInUse 4 = .ok (.ireturn, 1) := by decide +kernel
theorem dX0_cellsRead_0 : decode cX0_cellsRead 0 = .ok (.aload_n 0, 1) := by decide +kernel
theorem dX0_cellsRead_1 : decode cX0_cellsRead 1 = .ok (.getfield 36, 3) := by decide +kernel
theorem dX0_cellsRead_4 : decode cX0_cellsRead 4 = .ok (.lreturn, 1) := by decide +kernel
theorem dX0_hasMark_0 : decode cX0_hasMark 0 = .ok (.aload_n 0, 1) := by decide +kernel
theorem dX0_hasMark_1 : decode cX0_hasMark 1 = .ok (.getfield 28, 3) := by decide +kernel
theorem dX0_hasMark_4 : decode cX0_hasMark 4 = .ok (.ireturn, 1) := by decide +kernel
theorem dX0_leftPlace_0 : decode cX0_leftPlace 0 = .ok (.aload_n 0, 1) := by decide +kernel
theorem dX0_leftPlace_1 : decode cX0_leftPlace 1 = .ok (.getfield 21, 3) := by decide +kernel
theorem dX0_leftPlace_4 : decode cX0_leftPlace 4 = .ok (.getfield 40, 3) := by decide +kernel
theorem dX0_leftPlace_7 : decode cX0_leftPlace 7 = .ok (.ireturn, 1) := by decide +kernel
theorem dX0_rightPlace_0 : decode cX0_rightPlace 0 = .ok (.aload_n 0, 1) := by decide +kernel
theorem dX0_rightPlace_1 : decode cX0_rightPlace 1 = .ok (.getfield 21, 3) := by decide +kernel
theorem dX0_rightPlace_4 : decode cX0_rightPlace 4 = .ok (.getfield 43, 3) := by decide +kernel
theorem dX0_rightPlace_7 : decode cX0_rightPlace 7 = .ok (.ireturn, 1) := by decide +kernel
theorem dX0_useKind_0 : decode cX0_useKind 0 = .ok (.aload_n 0, 1) := by decide +kernel
theorem dX0_useKind_1 : decode cX0_useKind 1 = .ok (.iload_n 1, 1) := by decide +kernel
theorem dX0_useKind_2 : decode cX0_useKind 2 = .ok (.putfield 32, 3) := by decide +kernel
theorem dX0_useKind_5 : decode cX0_useKind 5 = .ok (.return_, 1) := by decide +kernel
theorem dX0_forgetMark_0 : decode cX0_forgetMark 0 = .ok (.aload_n 0, 1) := by decide +kernel
theorem dX0_forgetMark_1 : decode cX0_forgetMark 1 = .ok (.iconst 0, 1) := by decide +kernel
theorem dX0_forgetMark_2 : decode cX0_forgetMark 2 = .ok (.putfield 28, 3) := by decide +kernel
theorem dX0_forgetMark_5 : decode cX0_forgetMark 5 = .ok (.return_, 1) := by decide +kernel
theorem dX0_restart_0 : decode cX0_restart 0 = .ok (.aload_n 0, 1) := by decide +kernel
theorem dX0_restart_1 : decode cX0_restart 1 = .ok (.getfield 21, 3) := by decide +kernel
theorem dX0_restart_4 : decode cX0_restart 4 = .ok (.iconst 0, 1) := by decide +kernel
theorem dX0_restart_5 : decode cX0_restart 5 = .ok (.iconst 0, 1) := by decide +kernel
theorem dX0_restart_6 : decode cX0_restart 6 = .ok (.iconst 0, 1) := by decide +kernel
theorem dX0_restart_7 : decode cX0_restart 7 = .ok (.invokevirtual 46, 3) := by decide +kernel
theorem dX0_restart_10 : decode cX0_restart 10 = .ok (.aload_n 0, 1) := by decide +kernel
theorem dX0_restart_11 : decode cX0_restart 11 = .ok (.lconst 0, 1) := by decide +kernel
theorem dX0_restart_12 : decode cX0_restart 12 = .ok (.putfield 36, 3) := by decide +kernel
theorem dX0_restart_15 : decode cX0_restart 15 = .ok (.return_, 1) := by decide +kernel
theorem dX0_setMark_0 : decode cX0_setMark 0 = .ok (.aload_n 0, 1) := by decide +kernel
theorem dX0_setMark_1 : decode cX0_setMark 1 = .ok (.getfield 25, 3) := by decide +kernel
theorem dX0_setMark_4 : decode cX0_setMark 4 = .ok (.aload_n 0, 1) := by decide +kernel
theorem dX0_setMark_5 : decode cX0_setMark 5 = .ok (.getfield 21, 3) := by decide +kernel
theorem dX0_setMark_8 : decode cX0_setMark 8 = .ok (.invokevirtual 50, 3) := by decide +kernel
theorem dX0_setMark_11 : decode cX0_setMark 11 = .ok (.aload_n 0, 1) := by decide +kernel
theorem dX0_setMark_12 : decode cX0_setMark 12 = .ok (.iconst 1, 1) := by decide +kernel
theorem dX0_setMark_13 : decode cX0_setMark 13 = .ok (.putfield 28, 3) := by decide +kernel
theorem dX0_setMark_16 : decode cX0_setMark 16 = .ok (.aload_n 0, 1) := by decide +kernel
theorem dX0_setMark_17 : decode cX0_setMark 17 = .ok (.getfield 25, 3) := by decide +kernel
theorem dX0_setMark_20 : decode cX0_setMark 20 = .ok (.getfield 54, 3) := by decide +kernel
theorem dX0_setMark_23 : decode cX0_setMark 23 = .ok (.ireturn, 1) := by decide +kernel
theorem dX0_goToMark_0 : decode cX0_goToMark 0 = .ok (.aload_n 0, 1) := by decide +kernel
theorem dX0_goToMark_1 : decode cX0_goToMark 1 = .ok (.getfield 21, 3) := by decide +kernel
theorem dX0_goToMark_4 : decode cX0_goToMark 4 = .ok (.aload_n 0, 1) := by decide +kernel
theorem dX0_goToMark_5 : decode cX0_goToMark 5 = .ok (.getfield 25, 3) := by decide +kernel
theorem dX0_goToMark_8 : decode cX0_goToMark 8 = .ok (.invokevirtual 50, 3) := by decide +kernel
theorem dX0_goToMark_11 : decode cX0_goToMark 11 = .ok (.aload_n 0, 1) := by decide +kernel
theorem dX0_goToMark_12 : decode cX0_goToMark 12 = .ok (.getfield 21, 3) := by decide +kernel
theorem dX0_goToMark_15 : decode cX0_goToMark 15 = .ok (.getfield 54, 3) := by decide +kernel
theorem dX0_goToMark_18 : decode cX0_goToMark 18 = .ok (.ireturn, 1) := by decide +kernel
theorem dX0_goOn_0 : decode cX0_goOn 0 = .ok (.aload_n 0, 1) := by decide +kernel
theorem dX0_goOn_1 : decode cX0_goOn 1 = .ok (.getfield 21, 3) := by decide +kernel
theorem dX0_goOn_4 : decode cX0_goOn 4 = .ok (.invokevirtual 57, 3) := by decide +kernel
theorem dX0_goOn_7 : decode cX0_goOn 7 = .ok (.ifCond .eq 5, 3) := by decide +kernel
theorem dX0_goOn_10 : decode cX0_goOn 10 = .ok (.iconst 1, 1) := by decide +kernel
theorem dX0_goOn_11 : decode cX0_goOn 11 = .ok (.ireturn, 1) := by decide +kernel
theorem dX0_goOn_12 : decode cX0_goOn 12 = .ok (.aload_n 0, 1) := by decide +kernel
theorem dX0_goOn_13 : decode cX0_goOn 13 = .ok (.invokevirtual 61, 3) := by decide +kernel
theorem dX0_goOn_16 : decode cX0_goOn 16 = .ok (.istore_n 1, 1) := by decide +kernel
theorem dX0_goOn_17 : decode cX0_goOn 17 = .ok (.iload_n 1, 1) := by decide +kernel
theorem dX0_goOn_18 : decode cX0_goOn 18 = .ok (.ifCond .le 43, 3) := by decide +kernel
theorem dX0_goOn_21 : decode cX0_goOn 21 = .ok (.aload_n 0, 1) := by decide +kernel
theorem dX0_goOn_22 : decode cX0_goOn 22 = .ok (.invokevirtual 61, 3) := by decide +kernel
theorem dX0_goOn_25 : decode cX0_goOn 25 = .ok (.ifCond .le 36, 3) := by decide +kernel
theorem dX0_goOn_28 : decode cX0_goOn 28 = .ok (.aload_n 0, 1) := by decide +kernel
theorem dX0_goOn_29 : decode cX0_goOn 29 = .ok (.invokevirtual 65, 3) := by decide +kernel
theorem dX0_goOn_32 : decode cX0_goOn 32 = .ok (.aload_n 0, 1) := by decide +kernel
theorem dX0_goOn_33 : decode cX0_goOn 33 = .ok (.getfield 21, 3) := by decide +kernel
theorem dX0_goOn_36 : decode cX0_goOn 36 = .ok (.aload_n 0, 1) := by decide +kernel
theorem dX0_goOn_37 : decode cX0_goOn 37 = .ok (.getfield 32, 3) := by decide +kernel
theorem dX0_goOn_40 : decode cX0_goOn 40 = .ok (.invokevirtual 68, 3) := by decide +kernel
theorem dX0_goOn_43 : decode cX0_goOn 43 = .ok (.ifCond .eq 12, 3) := by decide +kernel
theorem dX0_goOn_46 : decode cX0_goOn 46 = .ok (.aload_n 0, 1) := by decide +kernel
theorem dX0_goOn_47 : decode cX0_goOn 47 = .ok (.getfield 21, 3) := by decide +kernel
theorem dX0_goOn_50 : decode cX0_goOn 50 = .ok (.invokevirtual 72, 3) := by decide +kernel
theorem dX0_goOn_53 : decode cX0_goOn 53 = .ok (.iconst 1, 1) := by decide +kernel
theorem dX0_goOn_54 : decode cX0_goOn 54 = .ok (.ireturn, 1) := by decide +kernel
theorem dX0_goOn_55 : decode cX0_goOn 55 = .ok (.iinc 1 (-1), 3) := by decide +kernel
theorem dX0_goOn_58 : decode cX0_goOn 58 = .ok (.goto (-41), 3) := by decide +kernel
theorem dX0_goOn_61 : decode cX0_goOn 61 = .ok (.aload_n 0, 1) := by decide +kernel
theorem dX0_goOn_62 : decode cX0_goOn 62 = .ok (.getfield 21, 3) := by decide +kernel
theorem dX0_goOn_65 : decode cX0_goOn 65 = .ok (.aload_n 0, 1) := by decide +kernel
theorem dX0_goOn_66 : decode cX0_goOn 66 = .ok (.getfield 21, 3) := by decide +kernel
theorem dX0_goOn_69 : decode cX0_goOn 69 = .ok (.getfield 75, 3) := by decide +kernel
theorem dX0_goOn_72 : decode cX0_goOn 72 = .ok (.aload_n 0, 1) := by decide +kernel
theorem dX0_goOn_73 : decode cX0_goOn 73 = .ok (.getfield 21, 3) := by decide +kernel
theorem dX0_goOn_76 : decode cX0_goOn 76 = .ok (.getfield 78, 3) := by decide +kernel
theorem dX0_goOn_79 : decode cX0_goOn 79 = .ok (.aload_n 0, 1) := by decide +kernel
theorem dX0_goOn_80 : decode cX0_goOn 80 = .ok (.getfield 21, 3) := by decide +kernel
theorem dX0_goOn_83 : decode cX0_goOn 83 = .ok (.getfield 54, 3) := by decide +kernel
theorem dX0_goOn_86 : decode cX0_goOn 86 = .ok (.invokevirtual 46, 3) := by decide +kernel
theorem dX0_goOn_89 : decode cX0_goOn 89 = .ok (.iconst 0, 1) := by decide +kernel
theorem dX0_goOn_90 : decode cX0_goOn 90 = .ok (.ireturn, 1) := by decide +kernel
theorem dX0_goBefore_0 : decode cX0_goBefore 0 = .ok (.aload_n 0, 1) := by decide +kernel
theorem dX0_goBefore_1 : decode cX0_goBefore 1 = .ok (.aload_n 0, 1) := by decide +kernel
theorem dX0_goBefore_2 : decode cX0_goBefore 2 = .ok (.getfield 9, 3) := by decide +kernel
theorem dX0_goBefore_5 : decode cX0_goBefore 5 = .ok (.iload_n 1, 1) := by decide +kernel
theorem dX0_goBefore_6 : decode cX0_goBefore 6 = .ok (.invokevirtual 81, 3) := by decide +kernel
theorem dX0_goBefore_9 : decode cX0_goBefore 9 = .ok (.istore_n 2, 1) := by decide +kernel
theorem dX0_goBefore_10 : decode cX0_goBefore 10 = .ok (.aload_n 0, 1) := by decide +kernel
theorem dX0_goBefore_11 : decode cX0_goBefore 11 = .ok (.aload_n 0, 1) := by decide +kernel
theorem dX0_goBefore_12 : decode cX0_goBefore 12 = .ok (.getfield 15, 3) := by decide +kernel
theorem dX0_goBefore_15 : decode cX0_goBefore 15 = .ok (.iload_n 1, 1) := by decide +kernel
theorem dX0_goBefore_16 : decode cX0_goBefore 16 = .ok (.invokevirtual 81, 3) := by decide +kernel
theorem dX0_goBefore_19 : decode cX0_goBefore 19 = .ok (.istore_n 3, 1) := by decide +kernel
theorem dX0_goBefore_20 : decode cX0_goBefore 20 = .ok (.aload_n 0, 1) := by decide +kernel
theorem dX0_goBefore_21 : decode cX0_goBefore 21 = .ok (.getfield 9, 3) := by decide +kernel
theorem dX0_goBefore_24 : decode cX0_goBefore 24 = .ok (.aload_n 0, 1) := by decide +kernel
theorem dX0_goBefore_25 : decode cX0_goBefore 25 = .ok (.getfield 15, 3) := by decide +kernel
theorem dX0_goBefore_28 : decode cX0_goBefore 28 = .ok (.iload_n 2, 1) := by decide +kernel
theorem dX0_goBefore_29 : decode cX0_goBefore 29 = .ok (.iload_n 3, 1) := by decide +kernel
theorem dX0_goBefore_30 : decode cX0_goBefore 30 = .ok (.aload_n 0, 1) := by decide +kernel
theorem dX0_goBefore_31 : decode cX0_goBefore 31 = .ok (.getfield 32, 3) := by decide +kernel
theorem dX0_goBefore_34 : decode cX0_goBefore 34 = .ok (.invokestatic 85, 3) := by decide +kernel
theorem dX0_goBefore_37 : decode cX0_goBefore 37 = .ok (.istore 4, 2) := by decide +kernel
theorem dX0_goBefore_39 : decode cX0_goBefore 39 = .ok (.aload_n 0, 1) := by decide +kernel
theorem dX0_goBefore_40 : decode cX0_goBefore 40 = .ok (.getfield 21, 3) := by decide +kernel
theorem dX0_goBefore_43 : decode cX0_goBefore 43 = .ok (.iload_n 2, 1) := by decide +kernel
theorem dX0_goBefore_44 : decode cX0_goBefore 44 = .ok (.iload_n 3, 1) := by decide +kernel
theorem dX0_goBefore_45 : decode cX0_goBefore 45 = .ok (.iload 4, 2) := by decide +kernel
theorem dX0_goBefore_47 : decode cX0_goBefore 47 = .ok (.invokevirtual 46, 3) := by decide +kernel
theorem dX0_goBefore_50 : decode cX0_goBefore 50 = .ok (.iload 4, 2) := by decide +kernel
theorem dX0_goBefore_52 : decode cX0_goBefore 52 = .ok (.aload_n 0, 1) := by decide +kernel
theorem dX0_goBefore_53 : decode cX0_goBefore 53 = .ok (.getfield 9, 3) := by decide +kernel
theorem dX0_goBefore_56 : decode cX0_goBefore 56 = .ok (.aload_n 0, 1) := by decide +kernel
theorem dX0_goBefore_57 : decode cX0_goBefore 57 = .ok (.getfield 15, 3) := by decide +kernel
theorem dX0_goBefore_60 : decode cX0_goBefore 60 = .ok (.aload_n 0, 1) := by decide +kernel
theorem dX0_goBefore_61 : decode cX0_goBefore 61 = .ok (.getfield 9, 3) := by decide +kernel
theorem dX0_goBefore_64 : decode cX0_goBefore 64 = .ok (.invokevirtual 89, 3) := by decide +kernel
theorem dX0_goBefore_67 : decode cX0_goBefore 67 = .ok (.aload_n 0, 1) := by decide +kernel
theorem dX0_goBefore_68 : decode cX0_goBefore 68 = .ok (.getfield 15, 3) := by decide +kernel
theorem dX0_goBefore_71 : decode cX0_goBefore 71 = .ok (.invokevirtual 89, 3) := by decide +kernel
theorem dX0_goBefore_74 : decode cX0_goBefore 74 = .ok (.aload_n 0, 1) := by decide +kernel
theorem dX0_goBefore_75 : decode cX0_goBefore 75 = .ok (.getfield 32, 3) := by decide +kernel
theorem dX0_goBefore_78 : decode cX0_goBefore 78 = .ok (.invokestatic 85, 3) := by decide +kernel
theorem dX0_goBefore_81 : decode cX0_goBefore 81 = .ok (.if_icmp .ge 7, 3) := by decide +kernel
theorem dX0_goBefore_84 : decode cX0_goBefore 84 = .ok (.iconst 1, 1) := by decide +kernel
theorem dX0_goBefore_85 : decode cX0_goBefore 85 = .ok (.goto 4, 3) := by decide +kernel
theorem dX0_goBefore_88 : decode cX0_goBefore 88 = .ok (.iconst 0, 1) := by decide +kernel
theorem dX0_goBefore_89 : decode cX0_goBefore 89 = .ok (.ireturn, 1) := by decide +kernel
theorem dX0_rowsAhead_0 : decode cX0_rowsAhead 0 = .ok (.aload_n 0, 1) := by decide +kernel
theorem dX0_rowsAhead_1 : decode cX0_rowsAhead 1 = .ok (.getfield 9, 3) := by decide +kernel
theorem dX0_rowsAhead_4 : decode cX0_rowsAhead 4 = .ok (.invokevirtual 89, 3) := by decide +kernel
theorem dX0_rowsAhead_7 : decode cX0_rowsAhead 7 = .ok (.aload_n 0, 1) := by decide +kernel
theorem dX0_rowsAhead_8 : decode cX0_rowsAhead 8 = .ok (.getfield 21, 3) := by decide +kernel
theorem dX0_rowsAhead_11 : decode cX0_rowsAhead 11 = .ok (.getfield 75, 3) := by decide +kernel
theorem dX0_rowsAhead_14 : decode cX0_rowsAhead 14 = .ok (.isub, 1) := by decide +kernel
theorem dX0_rowsAhead_15 : decode cX0_rowsAhead 15 = .ok (.aload_n 0, 1) := by decide +kernel
theorem dX0_rowsAhead_16 : decode cX0_rowsAhead 16 = .ok (.getfield 15, 3) := by decide +kernel
theorem dX0_rowsAhead_19 : decode cX0_rowsAhead 19 = .ok (.invokevirtual 89, 3) := by decide +kernel
theorem dX0_rowsAhead_22 : decode cX0_rowsAhead 22 = .ok (.iadd, 1) := by decide +kernel
theorem dX0_rowsAhead_23 : decode cX0_rowsAhead 23 = .ok (.aload_n 0, 1) := by decide +kernel
theorem dX0_rowsAhead_24 : decode cX0_rowsAhead 24 = .ok (.getfield 21, 3) := by decide +kernel
theorem dX0_rowsAhead_27 : decode cX0_rowsAhead 27 = .ok (.getfield 78, 3) := by decide +kernel
theorem dX0_rowsAhead_30 : decode cX0_rowsAhead 30 = .ok (.isub, 1) := by decide +kernel
theorem dX0_rowsAhead_31 : decode cX0_rowsAhead 31 = .ok (.ireturn, 1) := by decide +kernel
theorem dX0_comeToNewKeys_0 : decode cX0_comeToNewKeys 0 = .ok (.aload_n 0, 1) := by decide +kernel
theorem dX0_comeToNewKeys_1 : decode cX0_comeToNewKeys 1 = .ok (.getfield 9, 3) := by decide +kernel
theorem dX0_comeToNewKeys_4 : decode cX0_comeToNewKeys 4 = .ok (.aload_n 0, 1) := by decide +kernel
theorem dX0_comeToNewKeys_5 : decode cX0_comeToNewKeys 5 = .ok (.getfield 21, 3) := by decide +kernel
theorem dX0_comeToNewKeys_8 : decode cX0_comeToNewKeys 8 = .ok (.getfield 75, 3) := by decide +kernel
theorem dX0_comeToNewKeys_11 : decode cX0_comeToNewKeys 11 = .ok (.invokevirtual 94, 3) := by decide +kernel
theorem dX0_comeToNewKeys_14 : decode cX0_comeToNewKeys 14 = .ok (.istore_n 1, 1) := by decide +kernel
theorem dX0_comeToNewKeys_15 : decode cX0_comeToNewKeys 15 = .ok (.aload_n 0, 1) := by decide +kernel
theorem dX0_comeToNewKeys_16 : decode cX0_comeToNewKeys 16 = .ok (.getfield 15, 3) := by decide +kernel
theorem dX0_comeToNewKeys_19 : decode cX0_comeToNewKeys 19 = .ok (.aload_n 0, 1) := by decide +kernel
theorem dX0_comeToNewKeys_20 : decode cX0_comeToNewKeys 20 = .ok (.getfield 21, 3) := by decide +kernel
theorem dX0_comeToNewKeys_23 : decode cX0_comeToNewKeys 23 = .ok (.getfield 78, 3) := by decide +kernel
theorem dX0_comeToNewKeys_26 : decode cX0_comeToNewKeys 26 = .ok (.invokevirtual 94, 3) := by decide +kernel
theorem dX0_comeToNewKeys_29 : decode cX0_comeToNewKeys 29 = .ok (.istore_n 2, 1) := by decide +kernel
theorem dX0_comeToNewKeys_30 : decode cX0_comeToNewKeys 30 = .ok (.iload_n 1, 1) := by decide +kernel
theorem dX0_comeToNewKeys_31 : decode cX0_comeToNewKeys 31 = .ok (.ifCond .eq 64, 3) := by decide +kernel
theorem dX0_comeToNewKeys_34 : decode cX0_comeToNewKeys 34 = .ok (.iload_n 2, 1) := by decide +kernel
theorem dX0_comeToNewKeys_35 : decode cX0_comeToNewKeys 35 = .ok (.ifCond .eq 60, 3) := by decide +kernel
theorem dX0_comeToNewKeys_38 : decode cX0_comeToNewKeys 38 = .ok (.aload_n 0, 1) := by decide +kernel
theorem dX0_comeToNewKeys_39 : decode cX0_comeToNewKeys 39 = .ok (.aload_n 0, 1) := by decide +kernel
theorem dX0_comeToNewKeys_40 : decode cX0_comeToNewKeys 40 = .ok (.getfield 9, 3) := by decide +kernel
theorem dX0_comeToNewKeys_43 : decode cX0_comeToNewKeys 43 = .ok (.aload_n 0, 1) := by decide +kernel
theorem dX0_comeToNewKeys_44 : decode cX0_comeToNewKeys 44 = .ok (.getfield 21, 3) := by decide +kernel
theorem dX0_comeToNewKeys_47 : decode cX0_comeToNewKeys 47 = .ok (.getfield 75, 3) := by decide +kernel
theorem dX0_comeToNewKeys_50 : decode cX0_comeToNewKeys 50 = .ok (.invokevirtual 97, 3) := by decide +kernel
theorem dX0_comeToNewKeys_53 : decode cX0_comeToNewKeys 53 = .ok (.istore_n 3, 1) := by decide +kernel
theorem dX0_comeToNewKeys_54 : decode cX0_comeToNewKeys 54 = .ok (.aload_n 0, 1) := by decide +kernel
theorem dX0_comeToNewKeys_55 : decode cX0_comeToNewKeys 55 = .ok (.aload_n 0, 1) := by decide +kernel
theorem dX0_comeToNewKeys_56 : decode cX0_comeToNewKeys 56 = .ok (.getfield 15, 3) := by decide +kernel
theorem dX0_comeToNewKeys_59 : decode cX0_comeToNewKeys 59 = .ok (.aload_n 0, 1) := by decide +kernel
theorem dX0_comeToNewKeys_60 : decode cX0_comeToNewKeys 60 = .ok (.getfield 21, 3) := by decide +kernel
theorem dX0_comeToNewKeys_63 : decode cX0_comeToNewKeys 63 = .ok (.getfield 78, 3) := by decide +kernel
theorem dX0_comeToNewKeys_66 : decode cX0_comeToNewKeys 66 = .ok (.invokevirtual 97, 3) := by decide +kernel
theorem dX0_comeToNewKeys_69 : decode cX0_comeToNewKeys 69 = .ok (.istore 4, 2) := by decide +kernel
theorem dX0_comeToNewKeys_71 : decode cX0_comeToNewKeys 71 = .ok (.iload_n 3, 1) := by decide +kernel
theorem dX0_comeToNewKeys_72 : decode cX0_comeToNewKeys 72 = .ok (.iload 4, 2) := by decide +kernel
theorem dX0_comeToNewKeys_74 : decode cX0_comeToNewKeys 74 = .ok (.if_icmp .gt 7, 3) := by decide +kernel
theorem dX0_comeToNewKeys_77 : decode cX0_comeToNewKeys 77 = .ok (.iconst 1, 1) := by decide +kernel
theorem dX0_comeToNewKeys_78 : decode cX0_comeToNewKeys 78 = .ok (.goto 4, 3) := by decide +kernel
theorem dX0_comeToNewKeys_81 : decode cX0_comeToNewKeys 81 = .ok (.iconst 0, 1) := by decide +kernel
theorem dX0_comeToNewKeys_82 : decode cX0_comeToNewKeys 82 = .ok (.istore_n 1, 1) := by decide +kernel
theorem dX0_comeToNewKeys_83 : decode cX0_comeToNewKeys 83 = .ok (.iload 4, 2) := by decide +kernel
theorem dX0_comeToNewKeys_85 : decode cX0_comeToNewKeys 85 = .ok (.iload_n 3, 1) := by decide +kernel
theorem dX0_comeToNewKeys_86 : decode cX0_comeToNewKeys 86 = .ok (.if_icmp .gt 7, 3) := by decide +kernel
theorem dX0_comeToNewKeys_89 : decode cX0_comeToNewKeys 89 = .ok (.iconst 1, 1) := by decide +kernel
theorem dX0_comeToNewKeys_90 : decode cX0_comeToNewKeys 90 = .ok (.goto 4, 3) := by decide +kernel
theorem dX0_comeToNewKeys_93 : decode cX0_comeToNewKeys 93 = .ok (.iconst 0, 1) := by decide +kernel
theorem dX0_comeToNewKeys_94 : decode cX0_comeToNewKeys 94 = .ok (.istore_n 2, 1) := by decide +kernel
theorem dX0_comeToNewKeys_95 : decode cX0_comeToNewKeys 95 = .ok (.aload_n 0, 1) := by decide +kernel
theorem dX0_comeToNewKeys_96 : decode cX0_comeToNewKeys 96 = .ok (.getfield 21, 3) := by decide +kernel
theorem dX0_comeToNewKeys_99 : decode cX0_comeToNewKeys 99 = .ok (.aload_n 0, 1) := by decide +kernel
theorem dX0_comeToNewKeys_100 : decode cX0_comeToNewKeys 100 = .ok (.getfield 21, 3) := by decide +kernel
theorem dX0_comeToNewKeys_103 : decode cX0_comeToNewKeys 103 = .ok (.getfield 75, 3) := by decide +kernel
theorem dX0_comeToNewKeys_106 : decode cX0_comeToNewKeys 106 = .ok (.putfield 100, 3) := by decide +kernel
theorem dX0_comeToNewKeys_109 : decode cX0_comeToNewKeys 109 = .ok (.aload_n 0, 1) := by decide +kernel
theorem dX0_comeToNewKeys_110 : decode cX0_comeToNewKeys 110 = .ok (.getfield 21, 3) := by decide +kernel
theorem dX0_comeToNewKeys_113 : decode cX0_comeToNewKeys 113 = .ok (.aload_n 0, 1) := by decide +kernel
theorem dX0_comeToNewKeys_114 : decode cX0_comeToNewKeys 114 = .ok (.getfield 21, 3) := by decide +kernel
theorem dX0_comeToNewKeys_117 : decode cX0_comeToNewKeys 117 = .ok (.getfield 78, 3) := by decide +kernel
theorem dX0_comeToNewKeys_120 : decode cX0_comeToNewKeys 120 = .ok (.putfield 103, 3) := by decide +kernel
theorem dX0_comeToNewKeys_123 : decode cX0_comeToNewKeys 123 = .ok (.iload_n 1, 1) := by decide +kernel
theorem dX0_comeToNewKeys_124 : decode cX0_comeToNewKeys 124 = .ok (.ifCond .eq 25, 3) := by decide +kernel
theorem dX0_comeToNewKeys_127 : decode cX0_comeToNewKeys 127 = .ok (.aload_n 0, 1) := by decide +kernel
theorem dX0_comeToNewKeys_128 : decode cX0_comeToNewKeys 128 = .ok (.getfield 21, 3) := by decide +kernel
theorem dX0_comeToNewKeys_131 : decode cX0_comeToNewKeys 131 = .ok (.aload_n 0, 1) := by decide +kernel
theorem dX0_comeToNewKeys_132 : decode cX0_comeToNewKeys 132 = .ok (.aload_n 0, 1) := by decide +kernel
theorem dX0_comeToNewKeys_133 : decode cX0_comeToNewKeys 133 = .ok (.getfield 9, 3) := by decide +kernel
theorem dX0_comeToNewKeys_136 : decode cX0_comeToNewKeys 136 = .ok (.aload_n 0, 1) := by decide +kernel
theorem dX0_comeToNewKeys_137 : decode cX0_comeToNewKeys 137 = .ok (.getfield 21, 3) := by decide +kernel
theorem dX0_comeToNewKeys_140 : decode cX0_comeToNewKeys 140 = .ok (.getfield 100, 3) := by decide +kernel
theorem dX0_comeToNewKeys_143 : decode cX0_comeToNewKeys 143 = .ok (.invokevirtual 106, 3) := by decide +kernel
theorem dX0_comeToNewKeys_146 : decode cX0_comeToNewKeys 146 = .ok (.putfield 75, 3) := by decide +kernel
theorem dX0_comeToNewKeys_149 : decode cX0_comeToNewKeys 149 = .ok (.iload_n 2, 1) := by decide +kernel
theorem dX0_comeToNewKeys_150 : decode cX0_comeToNewKeys 150 = .ok (.ifCond .eq 25, 3) := by decide +kernel
theorem dX0_comeToNewKeys_153 : decode cX0_comeToNewKeys 153 = .ok (.aload_n 0, 1) := by decide +kernel
theorem dX0_comeToNewKeys_154 : decode cX0_comeToNewKeys 154 = .ok (.getfield 21, 3) := by decide +kernel
theorem dX0_comeToNewKeys_157 : decode cX0_comeToNewKeys 157 = .ok (.aload_n 0, 1) := by decide +kernel
theorem dX0_comeToNewKeys_158 : decode cX0_comeToNewKeys 158 = .ok (.aload_n 0, 1) := by decide +kernel
theorem dX0_comeToNewKeys_159 : decode cX0_comeToNewKeys 159 = .ok (.getfield 15, 3) := by decide +kernel
theorem dX0_comeToNewKeys_162 : decode cX0_comeToNewKeys 162 = .ok (.aload_n 0, 1) := by decide +kernel
theorem dX0_comeToNewKeys_163 : decode cX0_comeToNewKeys 163 = .ok (.getfield 21, 3) := by decide +kernel
theorem dX0_comeToNewKeys_166 : decode cX0_comeToNewKeys 166 = .ok (.getfield 103, 3) := by decide +kernel
theorem dX0_comeToNewKeys_169 : decode cX0_comeToNewKeys 169 = .ok (.invokevirtual 106, 3) := by decide +kernel
theorem dX0_comeToNewKeys_172 : decode cX0_comeToNewKeys 172 = .ok (.putfield 78, 3) := by decide +kernel
theorem dX0_comeToNewKeys_175 : decode cX0_comeToNewKeys 175 = .ok (.return_, 1) := by decide +kernel
theorem dX0_firstOtherKey_0 : decode cX0_firstOtherKey 0 = .ok (.aload_n 0, 1) := by decide +kernel
theorem dX0_firstOtherKey_1 : decode cX0_firstOtherKey 1 = .ok (.aload_n 1, 1) := by decide +kernel
theorem dX0_firstOtherKey_2 : decode cX0_firstOtherKey 2 = .ok (.iload_n 2, 1) := by decide +kernel
theorem dX0_firstOtherKey_3 : decode cX0_firstOtherKey 3 = .ok (.invokevirtual 97, 3) := by decide +kernel
theorem dX0_firstOtherKey_6 : decode cX0_firstOtherKey 6 = .ok (.istore_n 3, 1) := by decide +kernel
theorem dX0_firstOtherKey_7 : decode cX0_firstOtherKey 7 = .ok (.iload_n 2, 1) := by decide +kernel
theorem dX0_firstOtherKey_8 : decode cX0_firstOtherKey 8 = .ok (.iconst 1, 1) := by decide +kernel
theorem dX0_firstOtherKey_9 : decode cX0_firstOtherKey 9 = .ok (.iadd, 1) := by decide +kernel
theorem dX0_firstOtherKey_10 : decode cX0_firstOtherKey 10 = .ok (.istore 4, 2) := by decide +kernel
theorem dX0_firstOtherKey_12 : decode cX0_firstOtherKey 12 = .ok (.iload 4, 2) := by decide +kernel
theorem dX0_firstOtherKey_14 : decode cX0_firstOtherKey 14 = .ok (.aload_n 1, 1) := by decide +kernel
theorem dX0_firstOtherKey_15 : decode cX0_firstOtherKey 15 = .ok (.invokevirtual 89, 3) := by decide +kernel
theorem dX0_firstOtherKey_18 : decode cX0_firstOtherKey 18 = .ok (.if_icmp .ge 20, 3) := by decide +kernel
theorem dX0_firstOtherKey_21 : decode cX0_firstOtherKey 21 = .ok (.aload_n 0, 1) := by decide +kernel
theorem dX0_firstOtherKey_22 : decode cX0_firstOtherKey 22 = .ok (.aload_n 1, 1) := by decide +kernel
theorem dX0_firstOtherKey_23 : decode cX0_firstOtherKey 23 = .ok (.iload 4, 2) := by decide +kernel
theorem dX0_firstOtherKey_25 : decode cX0_firstOtherKey 25 = .ok (.invokevirtual 97, 3) := by decide +kernel
theorem dX0_firstOtherKey_28 : decode cX0_firstOtherKey 28 = .ok (.iload_n 3, 1) := by decide +kernel
theorem dX0_firstOtherKey_29 : decode cX0_firstOtherKey 29 = .ok (.if_icmp .ne 9, 3) := by decide +kernel
theorem dX0_firstOtherKey_32 : decode cX0_firstOtherKey 32 = .ok (.iinc 4 1, 3) := by decide +kernel
theorem dX0_firstOtherKey_35 : decode cX0_firstOtherKey 35 = .ok (.goto (-23), 3) := by decide +kernel
theorem dX0_firstOtherKey_38 : decode cX0_firstOtherKey 38 = .ok (.iload 4, 2) := by decide +kernel
theorem dX0_firstOtherKey_40 : decode cX0_firstOtherKey 40 = .ok (.ireturn, 1) := by decide +kernel
theorem dX0_firstNotBelow_0 : decode cX0_firstNotBelow 0 = .ok (.iconst 0, 1) := by decide +kernel
theorem dX0_firstNotBelow_1 : decode cX0_firstNotBelow 1 = .ok (.istore_n 3, 1) := by decide +kernel
theorem dX0_firstNotBelow_2 : decode cX0_firstNotBelow 2 = .ok (.aload_n 1, 1) := by decide +kernel
theorem dX0_firstNotBelow_3 : decode cX0_firstNotBelow 3 = .ok (.invokevirtual 89, 3) := by decide +kernel
theorem dX0_firstNotBelow_6 : decode cX0_firstNotBelow 6 = .ok (.istore 4, 2) := by decide +kernel
theorem dX0_firstNotBelow_8 : decode cX0_firstNotBelow 8 = .ok (.iconst 0, 1) := by decide +kernel
theorem dX0_firstNotBelow_9 : decode cX0_firstNotBelow 9 = .ok (.istore 5, 2) := by decide +kernel
theorem dX0_firstNotBelow_11 : decode cX0_firstNotBelow 11 = .ok (.iload 5, 2) := by decide +kernel
theorem dX0_firstNotBelow_13 : decode cX0_firstNotBelow 13 = .ok (.bipush 40, 2) := by decide +kernel
theorem dX0_firstNotBelow_15 : decode cX0_firstNotBelow 15 = .ok (.if_icmp .ge 46, 3) := by decide +kernel
theorem dX0_firstNotBelow_18 : decode cX0_firstNotBelow 18 = .ok (.iload_n 3, 1) := by decide +kernel
theorem dX0_firstNotBelow_19 : decode cX0_firstNotBelow 19 = .ok (.iload 4, 2) := by decide +kernel
theorem dX0_firstNotBelow_21 : decode cX0_firstNotBelow 21 = .ok (.if_icmp .ge 40, 3) := by decide +kernel
theorem dX0_firstNotBelow_24 : decode cX0_firstNotBelow 24 = .ok (.iload_n 3, 1) := by decide +kernel
theorem dX0_firstNotBelow_25 : decode cX0_firstNotBelow 25 = .ok (.iload 4, 2) := by decide +kernel
theorem dX0_firstNotBelow_27 : decode cX0_firstNotBelow 27 = .ok (.iadd, 1) := by decide +kernel
theorem dX0_firstNotBelow_28 : decode cX0_firstNotBelow 28 = .ok (.iconst 2, 1) := by decide +kernel
theorem dX0_firstNotBelow_29 : decode cX0_firstNotBelow 29 = .ok (.idiv, 1) := by decide +kernel
theorem dX0_firstNotBelow_30 : decode cX0_firstNotBelow 30 = .ok (.istore 6, 2) := by decide +kernel
theorem dX0_firstNotBelow_32 : decode cX0_firstNotBelow 32 = .ok (.aload_n 0, 1) := by decide +kernel
theorem dX0_firstNotBelow_33 : decode cX0_firstNotBelow 33 = .ok (.aload_n 1, 1) := by decide +kernel
theorem dX0_firstNotBelow_34 : decode cX0_firstNotBelow 34 = .ok (.iload 6, 2) := by decide +kernel
theorem dX0_firstNotBelow_36 : decode cX0_firstNotBelow 36 = .ok (.invokevirtual 97, 3) := by decide +kernel
theorem dX0_firstNotBelow_39 : decode cX0_firstNotBelow 39 = .ok (.iload_n 2, 1) := by decide +kernel
theorem dX0_firstNotBelow_40 : decode cX0_firstNotBelow 40 = .ok (.if_icmp .ge 11, 3) := by decide +kernel
theorem dX0_firstNotBelow_43 : decode cX0_firstNotBelow 43 = .ok (.iload 6, 2) := by decide +kernel
theorem dX0_firstNotBelow_45 : decode cX0_firstNotBelow 45 = .ok (.iconst 1, 1) := by decide +kernel
theorem dX0_firstNotBelow_46 : decode cX0_firstNotBelow 46 = .ok (.iadd, 1) := by decide +kernel
theorem dX0_firstNotBelow_47 : decode cX0_firstNotBelow 47 = .ok (.istore_n 3, 1) := by decide +kernel
theorem dX0_firstNotBelow_48 : decode cX0_firstNotBelow 48 = .ok (.goto 7, 3) := by decide +kernel
theorem dX0_firstNotBelow_51 : decode cX0_firstNotBelow 51 = .ok (.iload 6, 2) := by decide +kernel
theorem dX0_firstNotBelow_53 : decode cX0_firstNotBelow 53 = .ok (.istore 4, 2) := by decide +kernel
theorem dX0_firstNotBelow_55 : decode cX0_firstNotBelow 55 = .ok (.iinc 5 1, 3) := by decide +kernel
theorem dX0_firstNotBelow_58 : decode cX0_firstNotBelow 58 = .ok (.goto (-47), 3) := by decide +kernel
theorem dX0_firstNotBelow_61 : decode cX0_firstNotBelow 61 = .ok (.iload_n 3, 1) := by decide +kernel
theorem dX0_firstNotBelow_62 : decode cX0_firstNotBelow 62 = .ok (.ireturn, 1) := by decide +kernel
theorem dX0_readKey_0 : decode cX0_readKey 0 = .ok (.aload_n 0, 1) := by decide +kernel
theorem dX0_readKey_1 : decode cX0_readKey 1 = .ok (.dup, 1) := by decide +kernel
theorem dX0_readKey_2 : decode cX0_readKey 2 = .ok (.getfield 36, 3) := by decide +kernel
theorem dX0_readKey_5 : decode cX0_readKey 5 = .ok (.lconst 1, 1) := by decide +kernel
theorem dX0_readKey_6 : decode cX0_readKey 6 = .ok (.ladd, 1) := by decide +kernel
theorem dX0_readKey_7 : decode cX0_readKey 7 = .ok (.putfield 36, 3) := by decide +kernel
theorem dX0_readKey_10 : decode cX0_readKey 10 = .ok (.aload_n 1, 1) := by decide +kernel
theorem dX0_readKey_11 : decode cX0_readKey 11 = .ok (.iload_n 2, 1) := by decide +kernel
theorem dX0_readKey_12 : decode cX0_readKey 12 = .ok (.invokevirtual 109, 3) := by decide +kernel
theorem dX0_readKey_15 : decode cX0_readKey 15 = .ok (.ireturn, 1) := by decide +kernel
theorem dX1_init_0 : decode cX1_init 0 = .ok (.aload_n 0, 1) := by decide +kernel
theorem dX1_init_1 : decode cX1_init 1 = .ok (.invokespecial 3, 3) := by decide +kernel
theorem dX1_init_4 : decode cX1_init 4 = .ok (.aload_n 0, 1) := by decide +kernel
theorem dX1_init_5 : decode cX1_init 5 = .ok (.iload_n 1, 1) := by decide +kernel
theorem dX1_init_6 : decode cX1_init 6 = .ok (.putfield 9, 3) := by decide +kernel
theorem dX1_init_9 : decode cX1_init 9 = .ok (.aload_n 0, 1) := by decide +kernel
theorem dX1_init_10 : decode cX1_init 10 = .ok (.iconst 5, 1) := by decide +kernel
theorem dX1_init_11 : decode cX1_init 11 = .ok (.iload_n 1, 1) := by decide +kernel
theorem dX1_init_12 : decode cX1_init 12 = .ok (.multianewarray 15 2, 4) := by decide +kernel
theorem dX1_init_16 : decode cX1_init 16 = .ok (.putfield 17, 3) := by decide +kernel
theorem dX1_init_19 : decode cX1_init 19 = .ok (.aload_n 0, 1) := by decide +kernel
theorem dX1_init_20 : decode cX1_init 20 = .ok (.new 20, 3) := by decide +kernel
theorem dX1_init_23 : decode cX1_init 23 = .ok (.dup, 1) := by decide +kernel
theorem dX1_init_24 : decode cX1_init 24 = .ok (.invokespecial 22, 3) := by decide +kernel
theorem dX1_init_27 : decode cX1_init 27 = .ok (.putfield 23, 3) := by decide +kernel
theorem dX1_init_30 : decode cX1_init 30 = .ok (.aload_n 0, 1) := by decide +kernel
theorem dX1_init_31 : decode cX1_init 31 = .ok (.new 20, 3) := by decide +kernel
theorem dX1_init_34 : decode cX1_init 34 = .ok (.dup, 1) := by decide +kernel
theorem dX1_init_35 : decode cX1_init 35 = .ok (.invokespecial 22, 3) := by decide +kernel
theorem dX1_init_38 : decode cX1_init 38 = .ok (.putfield 27, 3) := by decide +kernel
theorem dX1_init_41 : decode cX1_init 41 = .ok (.aload_n 0, 1) := by decide +kernel
theorem dX1_init_42 : decode cX1_init 42 = .ok (.iconst 0, 1) := by decide +kernel
theorem dX1_init_43 : decode cX1_init 43 = .ok (.putfield 30, 3) := by decide +kernel
theorem dX1_init_46 : decode cX1_init 46 = .ok (.aload_n 0, 1) := by decide +kernel
theorem dX1_init_47 : decode cX1_init 47 = .ok (.iconst 0, 1) := by decide +kernel
theorem dX1_init_48 : decode cX1_init 48 = .ok (.putfield 33, 3) := by decide +kernel
theorem dX1_init_51 : decode cX1_init 51 = .ok (.return_, 1) := by decide +kernel
theorem dX1_room_0 : decode cX1_room 0 = .ok (.aload_n 0, 1) := by decide +kernel
theorem dX1_room_1 : decode cX1_room 1 = .ok (.getfield 9, 3) := by decide +kernel
theorem dX1_room_4 : decode cX1_room 4 = .ok (.ireturn, 1) := by decide +kernel
theorem dX1_isTold_0 : decode cX1_isTold 0 = .ok (.aload_n 0, 1) := by decide +kernel
theorem dX1_isTold_1 : decode cX1_isTold 1 = .ok (.getfield 33, 3) := by decide +kernel
theorem dX1_isTold_4 : decode cX1_isTold 4 = .ok (.ireturn, 1) := by decide +kernel
theorem dX1_has_0 : decode cX1_has 0 = .ok (.iload_n 1, 1) := by decide +kernel
theorem dX1_has_1 : decode cX1_has 1 = .ok (.ifCond .lt 15, 3) := by decide +kernel
theorem dX1_has_4 : decode cX1_has 4 = .ok (.iload_n 1, 1) := by decide +kernel
theorem dX1_has_5 : decode cX1_has 5 = .ok (.aload_n 0, 1) := by decide +kernel
theorem dX1_has_6 : decode cX1_has 6 = .ok (.getfield 30, 3) := by decide +kernel
theorem dX1_has_9 : decode cX1_has 9 = .ok (.if_icmp .ge 7, 3) := by decide +kernel
theorem dX1_has_12 : decode cX1_has 12 = .ok (.iconst 1, 1) := by decide +kernel
theorem dX1_has_13 : decode cX1_has 13 = .ok (.goto 4, 3) := by decide +kernel
theorem dX1_has_16 : decode cX1_has 16 = .ok (.iconst 0, 1) := by decide +kernel
theorem dX1_has_17 : decode cX1_has 17 = .ok (.ireturn, 1) := by decide +kernel
theorem dX1_forget_0 : decode cX1_forget 0 = .ok (.aload_n 0, 1) := by decide +kernel
theorem dX1_forget_1 : decode cX1_forget 1 = .ok (.iconst 0, 1) := by decide +kernel
theorem dX1_forget_2 : decode cX1_forget 2 = .ok (.putfield 30, 3) := by decide +kernel
theorem dX1_forget_5 : decode cX1_forget 5 = .ok (.aload_n 0, 1) := by decide +kernel
theorem dX1_forget_6 : decode cX1_forget 6 = .ok (.iconst 0, 1) := by decide +kernel
theorem dX1_forget_7 : decode cX1_forget 7 = .ok (.putfield 33, 3) := by decide +kernel
theorem dX1_forget_10 : decode cX1_forget 10 = .ok (.return_, 1) := by decide +kernel
theorem dX1_fact_0 : decode cX1_fact 0 = .ok (.aload_n 0, 1) := by decide +kernel
theorem dX1_fact_1 : decode cX1_fact 1 = .ok (.iload_n 1, 1) := by decide +kernel
theorem dX1_fact_2 : decode cX1_fact 2 = .ok (.invokevirtual 37, 3) := by decide +kernel
theorem dX1_fact_5 : decode cX1_fact 5 = .ok (.ifCond .eq 22, 3) := by decide +kernel
theorem dX1_fact_8 : decode cX1_fact 8 = .ok (.iload_n 2, 1) := by decide +kernel
theorem dX1_fact_9 : decode cX1_fact 9 = .ok (.iconst 5, 1) := by decide +kernel
theorem dX1_fact_10 : decode cX1_fact 10 = .ok (.invokestatic 41, 3) := by decide +kernel
theorem dX1_fact_13 : decode cX1_fact 13 = .ok (.ifCond .eq 14, 3) := by decide +kernel
theorem dX1_fact_16 : decode cX1_fact 16 = .ok (.aload_n 0, 1) := by decide +kernel
theorem dX1_fact_17 : decode cX1_fact 17 = .ok (.getfield 17, 3) := by decide +kernel
theorem dX1_fact_20 : decode cX1_fact 20 = .ok (.iload_n 2, 1) := by decide +kernel
theorem dX1_fact_21 : decode cX1_fact 21 = .ok (.aaload, 1) := by decide +kernel
theorem dX1_fact_22 : decode cX1_fact 22 = .ok (.iload_n 1, 1) := by decide +kernel
theorem dX1_fact_23 : decode cX1_fact 23 = .ok (.laload, 1) := by decide +kernel
theorem dX1_fact_24 : decode cX1_fact 24 = .ok (.goto 4, 3) := by decide +kernel
theorem dX1_fact_27 : decode cX1_fact 27 = .ok (.lconst 0, 1) := by decide +kernel
theorem dX1_fact_28 : decode cX1_fact 28 = .ok (.lreturn, 1) := by decide +kernel
theorem dX1_tell_0 : decode cX1_tell 0 = .ok (.aload_n 0, 1) := by decide +kernel
theorem dX1_tell_1 : decode cX1_tell 1 = .ok (.iconst 0, 1) := by decide +kernel
theorem dX1_tell_2 : decode cX1_tell 2 = .ok (.putfield 30, 3) := by decide +kernel
theorem dX1_tell_5 : decode cX1_tell 5 = .ok (.iconst 0, 1) := by decide +kernel
theorem dX1_tell_6 : decode cX1_tell 6 = .ok (.istore_n 3, 1) := by decide +kernel
theorem dX1_tell_7 : decode cX1_tell 7 = .ok (.iload_n 3, 1) := by decide +kernel
theorem dX1_tell_8 : decode cX1_tell 8 = .ok (.aload_n 1, 1) := by decide +kernel
theorem dX1_tell_9 : decode cX1_tell 9 = .ok (.invokevirtual 45, 3) := by decide +kernel
theorem dX1_tell_12 : decode cX1_tell 12 = .ok (.if_icmp .ge 73, 3) := by decide +kernel
theorem dX1_tell_15 : decode cX1_tell 15 = .ok (.aload_n 0, 1) := by decide +kernel
theorem dX1_tell_16 : decode cX1_tell 16 = .ok (.getfield 30, 3) := by decide +kernel
theorem dX1_tell_19 : decode cX1_tell 19 = .ok (.aload_n 0, 1) := by decide +kernel
theorem dX1_tell_20 : decode cX1_tell 20 = .ok (.getfield 9, 3) := by decide +kernel
theorem dX1_tell_23 : decode cX1_tell 23 = .ok (.if_icmp .ge 62, 3) := by decide +kernel
theorem dX1_tell_26 : decode cX1_tell 26 = .ok (.aload_n 1, 1) := by decide +kernel
theorem dX1_tell_27 : decode cX1_tell 27 = .ok (.iload_n 3, 1) := by decide +kernel
theorem dX1_tell_28 : decode cX1_tell 28 = .ok (.invokevirtual 50, 3) := by decide +kernel
theorem dX1_tell_31 : decode cX1_tell 31 = .ok (.ifCond .eq 48, 3) := by decide +kernel
theorem dX1_tell_34 : decode cX1_tell 34 = .ok (.aload_n 0, 1) := by decide +kernel
theorem dX1_tell_35 : decode cX1_tell 35 = .ok (.getfield 23, 3) := by decide +kernel
theorem dX1_tell_38 : decode cX1_tell 38 = .ok (.aload_n 1, 1) := by decide +kernel
theorem dX1_tell_39 : decode cX1_tell 39 = .ok (.iload_n 3, 1) := by decide +kernel
theorem dX1_tell_40 : decode cX1_tell 40 = .ok (.invokevirtual 53, 3) := by decide +kernel
theorem dX1_tell_43 : decode cX1_tell 43 = .ok (.aload_n 0, 1) := by decide +kernel
theorem dX1_tell_44 : decode cX1_tell 44 = .ok (.getfield 27, 3) := by decide +kernel
theorem dX1_tell_47 : decode cX1_tell 47 = .ok (.aload_n 2, 1) := by decide +kernel
theorem dX1_tell_48 : decode cX1_tell 48 = .ok (.aload_n 1, 1) := by decide +kernel
theorem dX1_tell_49 : decode cX1_tell 49 = .ok (.iload_n 3, 1) := by decide +kernel
theorem dX1_tell_50 : decode cX1_tell 50 = .ok (.invokevirtual 57, 3) := by decide +kernel
theorem dX1_tell_53 : decode cX1_tell 53 = .ok (.invokevirtual 53, 3) := by decide +kernel
theorem dX1_tell_56 : decode cX1_tell 56 = .ok (.aload_n 0, 1) := by decide +kernel
theorem dX1_tell_57 : decode cX1_tell 57 = .ok (.aload_n 0, 1) := by decide +kernel
theorem dX1_tell_58 : decode cX1_tell 58 = .ok (.getfield 30, 3) := by decide +kernel
theorem dX1_tell_61 : decode cX1_tell 61 = .ok (.aload_n 1, 1) := by decide +kernel
theorem dX1_tell_62 : decode cX1_tell 62 = .ok (.iload_n 3, 1) := by decide +kernel
theorem dX1_tell_63 : decode cX1_tell 63 = .ok (.invokevirtual 61, 3) := by decide +kernel
theorem dX1_tell_66 : decode cX1_tell 66 = .ok (.invokevirtual 64, 3) := by decide +kernel
theorem dX1_tell_69 : decode cX1_tell 69 = .ok (.aload_n 0, 1) := by decide +kernel
theorem dX1_tell_70 : decode cX1_tell 70 = .ok (.dup, 1) := by decide +kernel
theorem dX1_tell_71 : decode cX1_tell 71 = .ok (.getfield 30, 3) := by decide +kernel
theorem dX1_tell_74 : decode cX1_tell 74 = .ok (.iconst 1, 1) := by decide +kernel
theorem dX1_tell_75 : decode cX1_tell 75 = .ok (.iadd, 1) := by decide +kernel
theorem dX1_tell_76 : decode cX1_tell 76 = .ok (.putfield 30, 3) := by decide +kernel
theorem dX1_tell_79 : decode cX1_tell 79 = .ok (.iinc 3 1, 3) := by decide +kernel
theorem dX1_tell_82 : decode cX1_tell 82 = .ok (.goto (-75), 3) := by decide +kernel
theorem dX1_tell_85 : decode cX1_tell 85 = .ok (.aload_n 0, 1) := by decide +kernel
theorem dX1_tell_86 : decode cX1_tell 86 = .ok (.iconst 1, 1) := by decide +kernel
theorem dX1_tell_87 : decode cX1_tell 87 = .ok (.putfield 33, 3) := by decide +kernel
theorem dX1_tell_90 : decode cX1_tell 90 = .ok (.aload_n 0, 1) := by decide +kernel
theorem dX1_tell_91 : decode cX1_tell 91 = .ok (.getfield 30, 3) := by decide +kernel
theorem dX1_tell_94 : decode cX1_tell 94 = .ok (.ireturn, 1) := by decide +kernel
theorem dX1_write_0 : decode cX1_write 0 = .ok (.aload_n 0, 1) := by decide +kernel
theorem dX1_write_1 : decode cX1_write 1 = .ok (.getfield 23, 3) := by decide +kernel
theorem dX1_write_4 : decode cX1_write 4 = .ok (.getfield 68, 3) := by decide +kernel
theorem dX1_write_7 : decode cX1_write 7 = .ok (.aload_n 0, 1) := by decide +kernel
theorem dX1_write_8 : decode cX1_write 8 = .ok (.getfield 27, 3) := by decide +kernel
theorem dX1_write_11 : decode cX1_write 11 = .ok (.getfield 68, 3) := by decide +kernel
theorem dX1_write_14 : decode cX1_write 14 = .ok (.lmul, 1) := by decide +kernel
theorem dX1_write_15 : decode cX1_write 15 = .ok (.lstore_n 3, 1) := by decide +kernel
theorem dX1_write_16 : decode cX1_write 16 = .ok (.aload_n 0, 1) := by decide +kernel
theorem dX1_write_17 : decode cX1_write 17 = .ok (.getfield 23, 3) := by decide +kernel
theorem dX1_write_20 : decode cX1_write 20 = .ok (.getfield 68, 3) := by decide +kernel
theorem dX1_write_23 : decode cX1_write 23 = .ok (.aload_n 0, 1) := by decide +kernel
theorem dX1_write_24 : decode cX1_write 24 = .ok (.getfield 27, 3) := by decide +kernel
theorem dX1_write_27 : decode cX1_write 27 = .ok (.getfield 72, 3) := by decide +kernel
theorem dX1_write_30 : decode cX1_write 30 = .ok (.lmul, 1) := by decide +kernel
theorem dX1_write_31 : decode cX1_write 31 = .ok (.lstore 5, 2) := by decide +kernel
theorem dX1_write_33 : decode cX1_write 33 = .ok (.aload_n 0, 1) := by decide +kernel
theorem dX1_write_34 : decode cX1_write 34 = .ok (.getfield 23, 3) := by decide +kernel
theorem dX1_write_37 : decode cX1_write 37 = .ok (.getfield 72, 3) := by decide +kernel
theorem dX1_write_40 : decode cX1_write 40 = .ok (.aload_n 0, 1) := by decide +kernel
theorem dX1_write_41 : decode cX1_write 41 = .ok (.getfield 27, 3) := by decide +kernel
theorem dX1_write_44 : decode cX1_write 44 = .ok (.getfield 68, 3) := by decide +kernel
theorem dX1_write_47 : decode cX1_write 47 = .ok (.lmul, 1) := by decide +kernel
theorem dX1_write_48 : decode cX1_write 48 = .ok (.lstore 7, 2) := by decide +kernel
theorem dX1_write_50 : decode cX1_write 50 = .ok (.aload_n 0, 1) := by decide +kernel
theorem dX1_write_51 : decode cX1_write 51 = .ok (.getfield 23, 3) := by decide +kernel
theorem dX1_write_54 : decode cX1_write 54 = .ok (.getfield 72, 3) := by decide +kernel
theorem dX1_write_57 : decode cX1_write 57 = .ok (.aload_n 0, 1) := by decide +kernel
theorem dX1_write_58 : decode cX1_write 58 = .ok (.getfield 27, 3) := by decide +kernel
theorem dX1_write_61 : decode cX1_write 61 = .ok (.getfield 72, 3) := by decide +kernel
theorem dX1_write_64 : decode cX1_write 64 = .ok (.lmul, 1) := by decide +kernel
theorem dX1_write_65 : decode cX1_write 65 = .ok (.lstore 9, 2) := by decide +kernel
theorem dX1_write_67 : decode cX1_write 67 = .ok (.aload_n 0, 1) := by decide +kernel
theorem dX1_write_68 : decode cX1_write 68 = .ok (.getfield 17, 3) := by decide +kernel
theorem dX1_write_71 : decode cX1_write 71 = .ok (.iconst 0, 1) := by decide +kernel
theorem dX1_write_72 : decode cX1_write 72 = .ok (.aaload, 1) := by decide +kernel
theorem dX1_write_73 : decode cX1_write 73 = .ok (.iload_n 1, 1) := by decide +kernel
theorem dX1_write_74 : decode cX1_write 74 = .ok (.iload_n 2, 1) := by decide +kernel
theorem dX1_write_75 : decode cX1_write 75 = .ok (.i2l, 1) := by decide +kernel
theorem dX1_write_76 : decode cX1_write 76 = .ok (.lastore, 1) := by decide +kernel
theorem dX1_write_77 : decode cX1_write 77 = .ok (.aload_n 0, 1) := by decide +kernel
theorem dX1_write_78 : decode cX1_write 78 = .ok (.getfield 17, 3) := by decide +kernel
theorem dX1_write_81 : decode cX1_write 81 = .ok (.iconst 1, 1) := by decide +kernel
theorem dX1_write_82 : decode cX1_write 82 = .ok (.aaload, 1) := by decide +kernel
theorem dX1_write_83 : decode cX1_write 83 = .ok (.iload_n 1, 1) := by decide +kernel
theorem dX1_write_84 : decode cX1_write 84 = .ok (.aload_n 0, 1) := by decide +kernel
theorem dX1_write_85 : decode cX1_write 85 = .ok (.getfield 23, 3) := by decide +kernel
theorem dX1_write_88 : decode cX1_write 88 = .ok (.getfield 75, 3) := by decide +kernel
theorem dX1_write_91 : decode cX1_write 91 = .ok (.i2l, 1) := by decide +kernel
theorem dX1_write_92 : decode cX1_write 92 = .ok (.aload_n 0, 1) := by decide +kernel
theorem dX1_write_93 : decode cX1_write 93 = .ok (.getfield 27, 3) := by decide +kernel
theorem dX1_write_96 : decode cX1_write 96 = .ok (.getfield 75, 3) := by decide +kernel
theorem dX1_write_99 : decode cX1_write 99 = .ok (.i2l, 1) := by decide +kernel
theorem dX1_write_100 : decode cX1_write 100 = .ok (.lmul, 1) := by decide +kernel
theorem dX1_write_101 : decode cX1_write 101 = .ok (.lastore, 1) := by decide +kernel
theorem dX1_write_102 : decode cX1_write 102 = .ok (.aload_n 0, 1) := by decide +kernel
theorem dX1_write_103 : decode cX1_write 103 = .ok (.getfield 17, 3) := by decide +kernel
theorem dX1_write_106 : decode cX1_write 106 = .ok (.iconst 2, 1) := by decide +kernel
theorem dX1_write_107 : decode cX1_write 107 = .ok (.aaload, 1) := by decide +kernel
theorem dX1_write_108 : decode cX1_write 108 = .ok (.iload_n 1, 1) := by decide +kernel
theorem dX1_write_109 : decode cX1_write 109 = .ok (.aload_n 0, 1) := by decide +kernel
theorem dX1_write_110 : decode cX1_write 110 = .ok (.getfield 23, 3) := by decide +kernel
theorem dX1_write_113 : decode cX1_write 113 = .ok (.getfield 78, 3) := by decide +kernel
theorem dX1_write_116 : decode cX1_write 116 = .ok (.aload_n 0, 1) := by decide +kernel
theorem dX1_write_117 : decode cX1_write 117 = .ok (.getfield 27, 3) := by decide +kernel
theorem dX1_write_120 : decode cX1_write 120 = .ok (.getfield 78, 3) := by decide +kernel
theorem dX1_write_123 : decode cX1_write 123 = .ok (.lmul, 1) := by decide +kernel
theorem dX1_write_124 : decode cX1_write 124 = .ok (.lastore, 1) := by decide +kernel
theorem dX1_write_125 : decode cX1_write 125 = .ok (.aload_n 0, 1) := by decide +kernel
theorem dX1_write_126 : decode cX1_write 126 = .ok (.getfield 17, 3) := by decide +kernel
theorem dX1_write_129 : decode cX1_write 129 = .ok (.iconst 3, 1) := by decide +kernel
theorem dX1_write_130 : decode cX1_write 130 = .ok (.aaload, 1) := by decide +kernel
theorem dX1_write_131 : decode cX1_write 131 = .ok (.iload_n 1, 1) := by decide +kernel
theorem dX1_write_132 : decode cX1_write 132 = .ok (.lload_n 3, 1) := by decide +kernel
theorem dX1_write_133 : decode cX1_write 133 = .ok (.lload 5, 2) := by decide +kernel
theorem dX1_write_135 : decode cX1_write 135 = .ok (.invokestatic 81, 3) := by decide +kernel
theorem dX1_write_138 : decode cX1_write 138 = .ok (.lload 7, 2) := by decide +kernel
theorem dX1_write_140 : decode cX1_write 140 = .ok (.lload 9, 2) := by decide +kernel
theorem dX1_write_142 : decode cX1_write 142 = .ok (.invokestatic 81, 3) := by decide +kernel
theorem dX1_write_145 : decode cX1_write 145 = .ok (.invokestatic 81, 3) := by decide +kernel
theorem dX1_write_148 : decode cX1_write 148 = .ok (.lastore, 1) := by decide +kernel
theorem dX1_write_149 : decode cX1_write 149 = .ok (.aload_n 0, 1) := by decide +kernel
theorem dX1_write_150 : decode cX1_write 150 = .ok (.getfield 17, 3) := by decide +kernel
theorem dX1_write_153 : decode cX1_write 153 = .ok (.iconst 4, 1) := by decide +kernel
theorem dX1_write_154 : decode cX1_write 154 = .ok (.aaload, 1) := by decide +kernel
theorem dX1_write_155 : decode cX1_write 155 = .ok (.iload_n 1, 1) := by decide +kernel
theorem dX1_write_156 : decode cX1_write 156 = .ok (.lload_n 3, 1) := by decide +kernel
theorem dX1_write_157 : decode cX1_write 157 = .ok (.lload 5, 2) := by decide +kernel
theorem dX1_write_159 : decode cX1_write 159 = .ok (.invokestatic 87, 3) := by decide +kernel
theorem dX1_write_162 : decode cX1_write 162 = .ok (.lload 7, 2) := by decide +kernel
theorem dX1_write_164 : decode cX1_write 164 = .ok (.lload 9, 2) := by decide +kernel
theorem dX1_write_166 : decode cX1_write 166 = .ok (.invokestatic 87, 3) := by decide +kernel
theorem dX1_write_169 : decode cX1_write 169 = .ok (.invokestatic 87, 3) := by decide +kernel
theorem dX1_write_172 : decode cX1_write 172 = .ok (.lastore, 1) := by decide +kernel
theorem dX1_write_173 : decode cX1_write 173 = .ok (.return_, 1) := by decide +kernel
theorem dX2_init_0 : decode cX2_init 0 = .ok (.aload_n 0, 1) := by decide +kernel
theorem dX2_init_1 : decode cX2_init 1 = .ok (.invokespecial 3, 3) := by decide +kernel
theorem dX2_init_4 : decode cX2_init 4 = .ok (.aload_n 0, 1) := by decide +kernel
theorem dX2_init_5 : decode cX2_init 5 = .ok (.iconst (-1), 1) := by decide +kernel
theorem dX2_init_6 : decode cX2_init 6 = .ok (.putfield 9, 3) := by decide +kernel
theorem dX2_init_9 : decode cX2_init 9 = .ok (.aload_n 0, 1) := by decide +kernel
theorem dX2_init_10 : decode cX2_init 10 = .ok (.iconst (-1), 1) := by decide +kernel
theorem dX2_init_11 : decode cX2_init 11 = .ok (.putfield 15, 3) := by decide +kernel
theorem dX2_init_14 : decode cX2_init 14 = .ok (.return_, 1) := by decide +kernel
theorem dX2_copy_0 : decode cX2_copy 0 = .ok (.aload_n 0, 1) := by decide +kernel
theorem dX2_copy_1 : decode cX2_copy 1 = .ok (.aload_n 1, 1) := by decide +kernel
theorem dX2_copy_2 : decode cX2_copy 2 = .ok (.getfield 18, 3) := by decide +kernel
theorem dX2_copy_5 : decode cX2_copy 5 = .ok (.putfield 18, 3) := by decide +kernel
theorem dX2_copy_8 : decode cX2_copy 8 = .ok (.aload_n 0, 1) := by decide +kernel
theorem dX2_copy_9 : decode cX2_copy 9 = .ok (.aload_n 1, 1) := by decide +kernel
theorem dX2_copy_10 : decode cX2_copy 10 = .ok (.getfield 21, 3) := by decide +kernel
theorem dX2_copy_13 : decode cX2_copy 13 = .ok (.putfield 21, 3) := by decide +kernel
theorem dX2_copy_16 : decode cX2_copy 16 = .ok (.aload_n 0, 1) := by decide +kernel
theorem dX2_copy_17 : decode cX2_copy 17 = .ok (.aload_n 1, 1) := by decide +kernel
theorem dX2_copy_18 : decode cX2_copy 18 = .ok (.getfield 24, 3) := by decide +kernel
theorem dX2_copy_21 : decode cX2_copy 21 = .ok (.putfield 24, 3) := by decide +kernel
theorem dX2_copy_24 : decode cX2_copy 24 = .ok (.aload_n 0, 1) := by decide +kernel
theorem dX2_copy_25 : decode cX2_copy 25 = .ok (.aload_n 1, 1) := by decide +kernel
theorem dX2_copy_26 : decode cX2_copy 26 = .ok (.getfield 27, 3) := by decide +kernel
theorem dX2_copy_29 : decode cX2_copy 29 = .ok (.putfield 27, 3) := by decide +kernel
theorem dX2_copy_32 : decode cX2_copy 32 = .ok (.aload_n 0, 1) := by decide +kernel
theorem dX2_copy_33 : decode cX2_copy 33 = .ok (.aload_n 1, 1) := by decide +kernel
theorem dX2_copy_34 : decode cX2_copy 34 = .ok (.getfield 9, 3) := by decide +kernel
theorem dX2_copy_37 : decode cX2_copy 37 = .ok (.putfield 9, 3) := by decide +kernel
theorem dX2_copy_40 : decode cX2_copy 40 = .ok (.aload_n 0, 1) := by decide +kernel
theorem dX2_copy_41 : decode cX2_copy 41 = .ok (.aload_n 1, 1) := by decide +kernel
theorem dX2_copy_42 : decode cX2_copy 42 = .ok (.getfield 15, 3) := by decide +kernel
theorem dX2_copy_45 : decode cX2_copy 45 = .ok (.putfield 15, 3) := by decide +kernel
theorem dX2_copy_48 : decode cX2_copy 48 = .ok (.aload_n 0, 1) := by decide +kernel
theorem dX2_copy_49 : decode cX2_copy 49 = .ok (.aload_n 1, 1) := by decide +kernel
theorem dX2_copy_50 : decode cX2_copy 50 = .ok (.getfield 30, 3) := by decide +kernel
theorem dX2_copy_53 : decode cX2_copy 53 = .ok (.putfield 30, 3) := by decide +kernel
theorem dX2_copy_56 : decode cX2_copy 56 = .ok (.return_, 1) := by decide +kernel
theorem dX2_stand_0 : decode cX2_stand 0 = .ok (.aload_n 0, 1) := by decide +kernel
theorem dX2_stand_1 : decode cX2_stand 1 = .ok (.iload_n 1, 1) := by decide +kernel
theorem dX2_stand_2 : decode cX2_stand 2 = .ok (.putfield 18, 3) := by decide +kernel
theorem dX2_stand_5 : decode cX2_stand 5 = .ok (.aload_n 0, 1) := by decide +kernel
theorem dX2_stand_6 : decode cX2_stand 6 = .ok (.iload_n 1, 1) := by decide +kernel
theorem dX2_stand_7 : decode cX2_stand 7 = .ok (.putfield 21, 3) := by decide +kernel
theorem dX2_stand_10 : decode cX2_stand 10 = .ok (.aload_n 0, 1) := by decide +kernel
theorem dX2_stand_11 : decode cX2_stand 11 = .ok (.iload_n 2, 1) := by decide +kernel
theorem dX2_stand_12 : decode cX2_stand 12 = .ok (.putfield 24, 3) := by decide +kernel
theorem dX2_stand_15 : decode cX2_stand 15 = .ok (.aload_n 0, 1) := by decide +kernel
theorem dX2_stand_16 : decode cX2_stand 16 = .ok (.iload_n 2, 1) := by decide +kernel
theorem dX2_stand_17 : decode cX2_stand 17 = .ok (.putfield 27, 3) := by decide +kernel
theorem dX2_stand_20 : decode cX2_stand 20 = .ok (.aload_n 0, 1) := by decide +kernel
theorem dX2_stand_21 : decode cX2_stand 21 = .ok (.iconst (-1), 1) := by decide +kernel
theorem dX2_stand_22 : decode cX2_stand 22 = .ok (.putfield 9, 3) := by decide +kernel
theorem dX2_stand_25 : decode cX2_stand 25 = .ok (.aload_n 0, 1) := by decide +kernel
theorem dX2_stand_26 : decode cX2_stand 26 = .ok (.iconst (-1), 1) := by decide +kernel
theorem dX2_stand_27 : decode cX2_stand 27 = .ok (.putfield 15, 3) := by decide +kernel
theorem dX2_stand_30 : decode cX2_stand 30 = .ok (.aload_n 0, 1) := by decide +kernel
theorem dX2_stand_31 : decode cX2_stand 31 = .ok (.iload_n 3, 1) := by decide +kernel
theorem dX2_stand_32 : decode cX2_stand 32 = .ok (.putfield 30, 3) := by decide +kernel
theorem dX2_stand_35 : decode cX2_stand 35 = .ok (.return_, 1) := by decide +kernel
theorem dX2_hasLeftRows_0 : decode cX2_hasLeftRows 0 = .ok (.aload_n 0, 1) := by decide +kernel
theorem dX2_hasLeftRows_1 : decode cX2_hasLeftRows 1 = .ok (.getfield 18, 3) := by decide +kernel
theorem dX2_hasLeftRows_4 : decode cX2_hasLeftRows 4 = .ok (.aload_n 0, 1) := by decide +kernel
theorem dX2_hasLeftRows_5 : decode cX2_hasLeftRows 5 = .ok (.getfield 21, 3) := by decide +kernel
theorem dX2_hasLeftRows_8 : decode cX2_hasLeftRows 8 = .ok (.if_icmp .ge 7, 3) := by decide +kernel
theorem dX2_hasLeftRows_11 : decode cX2_hasLeftRows 11 = .ok (.iconst 1, 1) := by decide +kernel
theorem dX2_hasLeftRows_12 : decode cX2_hasLeftRows 12 = .ok (.goto 4, 3) := by decide +kernel
theorem dX2_hasLeftRows_15 : decode cX2_hasLeftRows 15 = .ok (.iconst 0, 1) := by decide +kernel
theorem dX2_hasLeftRows_16 : decode cX2_hasLeftRows 16 = .ok (.ireturn, 1) := by decide +kernel
theorem dX2_hasRightRows_0 : decode cX2_hasRightRows 0 = .ok (.aload_n 0, 1) := by decide +kernel
theorem dX2_hasRightRows_1 : decode cX2_hasRightRows 1 = .ok (.getfield 24, 3) := by decide +kernel
theorem dX2_hasRightRows_4 : decode cX2_hasRightRows 4 = .ok (.aload_n 0, 1) := by decide +kernel
theorem dX2_hasRightRows_5 : decode cX2_hasRightRows 5 = .ok (.getfield 27, 3) := by decide +kernel
theorem dX2_hasRightRows_8 : decode cX2_hasRightRows 8 = .ok (.if_icmp .ge 7, 3) := by decide +kernel
theorem dX2_hasRightRows_11 : decode cX2_hasRightRows 11 = .ok (.iconst 1, 1) := by decide +kernel
theorem dX2_hasRightRows_12 : decode cX2_hasRightRows 12 = .ok (.goto 4, 3) := by decide +kernel
theorem dX2_hasRightRows_15 : decode cX2_hasRightRows 15 = .ok (.iconst 0, 1) := by decide +kernel
theorem dX2_hasRightRows_16 : decode cX2_hasRightRows 16 = .ok (.ireturn, 1) := by decide +kernel
theorem dX2_fits_0 : decode cX2_fits 0 = .ok (.aload_n 0, 1) := by decide +kernel
theorem dX2_fits_1 : decode cX2_fits 1 = .ok (.invokevirtual 33, 3) := by decide +kernel
theorem dX2_fits_4 : decode cX2_fits 4 = .ok (.ifCond .ne 15, 3) := by decide +kernel
theorem dX2_fits_7 : decode cX2_fits 7 = .ok (.iload_n 1, 1) := by decide +kernel
theorem dX2_fits_8 : decode cX2_fits 8 = .ok (.iconst 1, 1) := by decide +kernel
theorem dX2_fits_9 : decode cX2_fits 9 = .ok (.iand, 1) := by decide +kernel
theorem dX2_fits_10 : decode cX2_fits 10 = .ok (.ifCond .eq 7, 3) := by decide +kernel
theorem dX2_fits_13 : decode cX2_fits 13 = .ok (.iconst 1, 1) := by decide +kernel
theorem dX2_fits_14 : decode cX2_fits 14 = .ok (.goto 4, 3) := by decide +kernel
theorem dX2_fits_17 : decode cX2_fits 17 = .ok (.iconst 0, 1) := by decide +kernel
theorem dX2_fits_18 : decode cX2_fits 18 = .ok (.ireturn, 1) := by decide +kernel
theorem dX2_fits_19 : decode cX2_fits 19 = .ok (.aload_n 0, 1) := by decide +kernel
theorem dX2_fits_20 : decode cX2_fits 20 = .ok (.invokevirtual 37, 3) := by decide +kernel
theorem dX2_fits_23 : decode cX2_fits 23 = .ok (.ifCond .ne 9, 3) := by decide +kernel
theorem dX2_fits_26 : decode cX2_fits 26 = .ok (.iload_n 1, 1) := by decide +kernel
theorem dX2_fits_27 : decode cX2_fits 27 = .ok (.iconst 2, 1) := by decide +kernel
theorem dX2_fits_28 : decode cX2_fits 28 = .ok (.iand, 1) := by decide +kernel
theorem dX2_fits_29 : decode cX2_fits 29 = .ok (.ifCond .eq 7, 3) := by decide +kernel
theorem dX2_fits_32 : decode cX2_fits 32 = .ok (.iconst 1, 1) := by decide +kernel
theorem dX2_fits_33 : decode cX2_fits 33 = .ok (.goto 4, 3) := by decide +kernel
theorem dX2_fits_36 : decode cX2_fits 36 = .ok (.iconst 0, 1) := by decide +kernel
theorem dX2_fits_37 : decode cX2_fits 37 = .ok (.ireturn, 1) := by decide +kernel
theorem dX2_enterFirstPair_0 : decode cX2_enterFirstPair 0 = .ok (.aload_n 0, 1) := by decide +kernel
theorem dX2_enterFirstPair_1 : decode cX2_enterFirstPair 1 = .ok (.aload_n 0, 1) := by decide +kernel
theorem dX2_enterFirstPair_2 : decode cX2_enterFirstPair 2 = .ok (.invokevirtual 37, 3) := by decide +kernel
theorem dX2_enterFirstPair_5 : decode cX2_enterFirstPair 5 = .ok (.ifCond .eq 10, 3) := by decide +kernel
theorem dX2_enterFirstPair_8 : decode cX2_enterFirstPair 8 = .ok (.aload_n 0, 1) := by decide +kernel
theorem dX2_enterFirstPair_9 : decode cX2_enterFirstPair 9 = .ok (.getfield 18, 3) := by decide +kernel
theorem dX2_enterFirstPair_12 : decode cX2_enterFirstPair 12 = .ok (.goto 4, 3) := by decide +kernel
theorem dX2_enterFirstPair_15 : decode cX2_enterFirstPair 15 = .ok (.iconst (-1), 1) := by decide +kernel
theorem dX2_enterFirstPair_16 : decode cX2_enterFirstPair 16 = .ok (.putfield 9, 3) := by decide +kernel
theorem dX2_enterFirstPair_19 : decode cX2_enterFirstPair 19 = .ok (.aload_n 0, 1) := by decide +kernel
theorem dX2_enterFirstPair_20 : decode cX2_enterFirstPair 20 = .ok (.aload_n 0, 1) := by decide +kernel
theorem dX2_enterFirstPair_21 : decode cX2_enterFirstPair 21 = .ok (.invokevirtual 33, 3) := by decide +kernel
theorem dX2_enterFirstPair_24 : decode cX2_enterFirstPair 24 = .ok (.ifCond .eq 10, 3) := by decide +kernel
theorem dX2_enterFirstPair_27 : decode cX2_enterFirstPair 27 = .ok (.aload_n 0, 1) := by decide +kernel
theorem dX2_enterFirstPair_28 : decode cX2_enterFirstPair 28 = .ok (.getfield 24, 3) := by decide +kernel
theorem dX2_enterFirstPair_31 : decode cX2_enterFirstPair 31 = .ok (.goto 4, 3) := by decide +kernel
theorem dX2_enterFirstPair_34 : decode cX2_enterFirstPair 34 = .ok (.iconst (-1), 1) := by decide +kernel
theorem dX2_enterFirstPair_35 : decode cX2_enterFirstPair 35 = .ok (.putfield 15, 3) := by decide +kernel
theorem dX2_enterFirstPair_38 : decode cX2_enterFirstPair 38 = .ok (.aload_n 0, 1) := by decide +kernel
theorem dX2_enterFirstPair_39 : decode cX2_enterFirstPair 39 = .ok (.dup, 1) := by decide +kernel
theorem dX2_enterFirstPair_40 : decode cX2_enterFirstPair 40 = .ok (.getfield 30, 3) := by decide +kernel
theorem dX2_enterFirstPair_43 : decode cX2_enterFirstPair 43 = .ok (.iconst 1, 1) := by decide +kernel
theorem dX2_enterFirstPair_44 : decode cX2_enterFirstPair 44 = .ok (.iadd, 1) := by decide +kernel
theorem dX2_enterFirstPair_45 : decode cX2_enterFirstPair 45 = .ok (.putfield 30, 3) := by decide +kernel
theorem dX2_enterFirstPair_48 : decode cX2_enterFirstPair 48 = .ok (.return_, 1) := by decide +kernel
theorem dX2_enterNextPair_0 : decode cX2_enterNextPair 0 = .ok (.aload_n 0, 1) := by decide +kernel
theorem dX2_enterNextPair_1 : decode cX2_enterNextPair 1 = .ok (.getfield 15, 3) := by decide +kernel
theorem dX2_enterNextPair_4 : decode cX2_enterNextPair 4 = .ok (.iconst (-1), 1) := by decide +kernel
theorem dX2_enterNextPair_5 : decode cX2_enterNextPair 5 = .ok (.if_icmp .eq 29, 3) := by decide +kernel
theorem dX2_enterNextPair_8 : decode cX2_enterNextPair 8 = .ok (.aload_n 0, 1) := by decide +kernel
theorem dX2_enterNextPair_9 : decode cX2_enterNextPair 9 = .ok (.getfield 15, 3) := by decide +kernel
theorem dX2_enterNextPair_12 : decode cX2_enterNextPair 12 = .ok (.iconst 1, 1) := by decide +kernel
theorem dX2_enterNextPair_13 : decode cX2_enterNextPair 13 = .ok (.iadd, 1) := by decide +kernel
theorem dX2_enterNextPair_14 : decode cX2_enterNextPair 14 = .ok (.aload_n 0, 1) := by decide +kernel
theorem dX2_enterNextPair_15 : decode cX2_enterNextPair 15 = .ok (.getfield 27, 3) := by decide +kernel
theorem dX2_enterNextPair_18 : decode cX2_enterNextPair 18 = .ok (.if_icmp .ge 16, 3) := by decide +kernel
theorem dX2_enterNextPair_21 : decode cX2_enterNextPair 21 = .ok (.aload_n 0, 1) := by decide +kernel
theorem dX2_enterNextPair_22 : decode cX2_enterNextPair 22 = .ok (.dup, 1) := by decide +kernel
theorem dX2_enterNextPair_23 : decode cX2_enterNextPair 23 = .ok (.getfield 15, 3) := by decide +kernel
theorem dX2_enterNextPair_26 : decode cX2_enterNextPair 26 = .ok (.iconst 1, 1) := by decide +kernel
theorem dX2_enterNextPair_27 : decode cX2_enterNextPair 27 = .ok (.iadd, 1) := by decide +kernel
theorem dX2_enterNextPair_28 : decode cX2_enterNextPair 28 = .ok (.putfield 15, 3) := by decide +kernel
theorem dX2_enterNextPair_31 : decode cX2_enterNextPair 31 = .ok (.goto 58, 3) := by decide +kernel
theorem dX2_enterNextPair_34 : decode cX2_enterNextPair 34 = .ok (.aload_n 0, 1) := by decide +kernel
theorem dX2_enterNextPair_35 : decode cX2_enterNextPair 35 = .ok (.getfield 9, 3) := by decide +kernel
theorem dX2_enterNextPair_38 : decode cX2_enterNextPair 38 = .ok (.iconst (-1), 1) := by decide +kernel
theorem dX2_enterNextPair_39 : decode cX2_enterNextPair 39 = .ok (.if_icmp .eq 48, 3) := by decide +kernel
theorem dX2_enterNextPair_42 : decode cX2_enterNextPair 42 = .ok (.aload_n 0, 1) := by decide +kernel
theorem dX2_enterNextPair_43 : decode cX2_enterNextPair 43 = .ok (.getfield 9, 3) := by decide +kernel
theorem dX2_enterNextPair_46 : decode cX2_enterNextPair 46 = .ok (.iconst 1, 1) := by decide +kernel
theorem dX2_enterNextPair_47 : decode cX2_enterNextPair 47 = .ok (.iadd, 1) := by decide +kernel
theorem dX2_enterNextPair_48 : decode cX2_enterNextPair 48 = .ok (.aload_n 0, 1) := by decide +kernel
theorem dX2_enterNextPair_49 : decode cX2_enterNextPair 49 = .ok (.getfield 21, 3) := by decide +kernel
theorem dX2_enterNextPair_52 : decode cX2_enterNextPair 52 = .ok (.if_icmp .ge 35, 3) := by decide +kernel
theorem dX2_enterNextPair_55 : decode cX2_enterNextPair 55 = .ok (.aload_n 0, 1) := by decide +kernel
theorem dX2_enterNextPair_56 : decode cX2_enterNextPair 56 = .ok (.dup, 1) := by decide +kernel
theorem dX2_enterNextPair_57 : decode cX2_enterNextPair 57 = .ok (.getfield 9, 3) := by decide +kernel
theorem dX2_enterNextPair_60 : decode cX2_enterNextPair 60 = .ok (.iconst 1, 1) := by decide +kernel
theorem dX2_enterNextPair_61 : decode cX2_enterNextPair 61 = .ok (.iadd, 1) := by decide +kernel
theorem dX2_enterNextPair_62 : decode cX2_enterNextPair 62 = .ok (.putfield 9, 3) := by decide +kernel
theorem dX2_enterNextPair_65 : decode cX2_enterNextPair 65 = .ok (.aload_n 0, 1) := by decide +kernel
theorem dX2_enterNextPair_66 : decode cX2_enterNextPair 66 = .ok (.aload_n 0, 1) := by decide +kernel
theorem dX2_enterNextPair_67 : decode cX2_enterNextPair 67 = .ok (.invokevirtual 33, 3) := by decide +kernel
theorem dX2_enterNextPair_70 : decode cX2_enterNextPair 70 = .ok (.ifCond .eq 10, 3) := by decide +kernel
theorem dX2_enterNextPair_73 : decode cX2_enterNextPair 73 = .ok (.aload_n 0, 1) := by decide +kernel
theorem dX2_enterNextPair_74 : decode cX2_enterNextPair 74 = .ok (.getfield 24, 3) := by decide +kernel
theorem dX2_enterNextPair_77 : decode cX2_enterNextPair 77 = .ok (.goto 4, 3) := by decide +kernel
theorem dX2_enterNextPair_80 : decode cX2_enterNextPair 80 = .ok (.iconst (-1), 1) := by decide +kernel
theorem dX2_enterNextPair_81 : decode cX2_enterNextPair 81 = .ok (.putfield 15, 3) := by decide +kernel
theorem dX2_enterNextPair_84 : decode cX2_enterNextPair 84 = .ok (.goto 5, 3) := by decide +kernel
theorem dX2_enterNextPair_87 : decode cX2_enterNextPair 87 = .ok (.iconst 0, 1) := by decide +kernel
theorem dX2_enterNextPair_88 : decode cX2_enterNextPair 88 = .ok (.ireturn, 1) := by decide +kernel
theorem dX2_enterNextPair_89 : decode cX2_enterNextPair 89 = .ok (.aload_n 0, 1) := by decide +kernel
theorem dX2_enterNextPair_90 : decode cX2_enterNextPair 90 = .ok (.dup, 1) := by decide +kernel
theorem dX2_enterNextPair_91 : decode cX2_enterNextPair 91 = .ok (.getfield 30, 3) := by decide +kernel
theorem dX2_enterNextPair_94 : decode cX2_enterNextPair 94 = .ok (.iconst 1, 1) := by decide +kernel
theorem dX2_enterNextPair_95 : decode cX2_enterNextPair 95 = .ok (.iadd, 1) := by decide +kernel
theorem dX2_enterNextPair_96 : decode cX2_enterNextPair 96 = .ok (.putfield 30, 3) := by decide +kernel
theorem dX2_enterNextPair_99 : decode cX2_enterNextPair 99 = .ok (.iconst 1, 1) := by decide +kernel
theorem dX2_enterNextPair_100 : decode cX2_enterNextPair 100 = .ok (.ireturn, 1) := by decide +kernel
theorem dX3_init_0 : decode cX3_init 0 = .ok (.aload_n 0, 1) := by decide +kernel
theorem dX3_init_1 : decode cX3_init 1 = .ok (.invokespecial 1, 3) := by decide +kernel
theorem dX3_init_4 : decode cX3_init 4 = .ok (.return_, 1) := by decide +kernel
theorem dX3_measure_0 : decode cX3_measure 0 = .ok (.aload_n 0, 1) := by decide +kernel
theorem dX3_measure_1 : decode cX3_measure 1 = .ok (.iconst 0, 1) := by decide +kernel
theorem dX3_measure_2 : decode cX3_measure 2 = .ok (.putfield 7, 3) := by decide +kernel
theorem dX3_measure_5 : decode cX3_measure 5 = .ok (.aload_n 0, 1) := by decide +kernel
theorem dX3_measure_6 : decode cX3_measure 6 = .ok (.lconst 0, 1) := by decide +kernel
theorem dX3_measure_7 : decode cX3_measure 7 = .ok (.putfield 13, 3) := by decide +kernel
theorem dX3_measure_10 : decode cX3_measure 10 = .ok (.aload_n 0, 1) := by decide +kernel
theorem dX3_measure_11 : decode cX3_measure 11 = .ok (.aload_n 1, 1) := by decide +kernel
theorem dX3_measure_12 : decode cX3_measure 12 = .ok (.iload_n 2, 1) := by decide +kernel
theorem dX3_measure_13 : decode cX3_measure 13 = .ok (.invokevirtual 17, 3) := by decide +kernel
theorem dX3_measure_16 : decode cX3_measure 16 = .ok (.i2l, 1) := by decide +kernel
theorem dX3_measure_17 : decode cX3_measure 17 = .ok (.putfield 23, 3) := by decide +kernel
theorem dX3_measure_20 : decode cX3_measure 20 = .ok (.aload_n 0, 1) := by decide +kernel
theorem dX3_measure_21 : decode cX3_measure 21 = .ok (.aload_n 0, 1) := by decide +kernel
theorem dX3_measure_22 : decode cX3_measure 22 = .ok (.getfield 23, 3) := by decide +kernel
theorem dX3_measure_25 : decode cX3_measure 25 = .ok (.putfield 26, 3) := by decide +kernel
theorem dX3_measure_28 : decode cX3_measure 28 = .ok (.aload_n 1, 1) := by decide +kernel
theorem dX3_measure_29 : decode cX3_measure 29 = .ok (.iload_n 2, 1) := by decide +kernel
theorem dX3_measure_30 : decode cX3_measure 30 = .ok (.invokevirtual 29, 3) := by decide +kernel
theorem dX3_measure_33 : decode cX3_measure 33 = .ok (.istore_n 3, 1) := by decide +kernel
theorem dX3_measure_34 : decode cX3_measure 34 = .ok (.iload_n 2, 1) := by decide +kernel
theorem dX3_measure_35 : decode cX3_measure 35 = .ok (.istore 4, 2) := by decide +kernel
theorem dX3_measure_37 : decode cX3_measure 37 = .ok (.iload 4, 2) := by decide +kernel
theorem dX3_measure_39 : decode cX3_measure 39 = .ok (.aload_n 1, 1) := by decide +kernel
theorem dX3_measure_40 : decode cX3_measure 40 = .ok (.invokevirtual 32, 3) := by decide +kernel
theorem dX3_measure_43 : decode cX3_measure 43 = .ok (.if_icmp .ge 75, 3) := by decide +kernel
theorem dX3_measure_46 : decode cX3_measure 46 = .ok (.aload_n 1, 1) := by decide +kernel
theorem dX3_measure_47 : decode cX3_measure 47 = .ok (.iload 4, 2) := by decide +kernel
theorem dX3_measure_49 : decode cX3_measure 49 = .ok (.invokevirtual 29, 3) := by decide +kernel
theorem dX3_measure_52 : decode cX3_measure 52 = .ok (.iload_n 3, 1) := by decide +kernel
theorem dX3_measure_53 : decode cX3_measure 53 = .ok (.if_icmp .ne 65, 3) := by decide +kernel
theorem dX3_measure_56 : decode cX3_measure 56 = .ok (.aload_n 1, 1) := by decide +kernel
theorem dX3_measure_57 : decode cX3_measure 57 = .ok (.iload 4, 2) := by decide +kernel
theorem dX3_measure_59 : decode cX3_measure 59 = .ok (.invokevirtual 17, 3) := by decide +kernel
theorem dX3_measure_62 : decode cX3_measure 62 = .ok (.i2l, 1) := by decide +kernel
theorem dX3_measure_63 : decode cX3_measure 63 = .ok (.lstore 5, 2) := by decide +kernel
theorem dX3_measure_65 : decode cX3_measure 65 = .ok (.aload_n 0, 1) := by decide +kernel
theorem dX3_measure_66 : decode cX3_measure 66 = .ok (.dup, 1) := by decide +kernel
theorem dX3_measure_67 : decode cX3_measure 67 = .ok (.getfield 7, 3) := by decide +kernel
theorem dX3_measure_70 : decode cX3_measure 70 = .ok (.iconst 1, 1) := by decide +kernel
theorem dX3_measure_71 : decode cX3_measure 71 = .ok (.iadd, 1) := by decide +kernel
theorem dX3_measure_72 : decode cX3_measure 72 = .ok (.putfield 7, 3) := by decide +kernel
theorem dX3_measure_75 : decode cX3_measure 75 = .ok (.aload_n 0, 1) := by decide +kernel
theorem dX3_measure_76 : decode cX3_measure 76 = .ok (.dup, 1) := by decide +kernel
theorem dX3_measure_77 : decode cX3_measure 77 = .ok (.getfield 13, 3) := by decide +kernel
theorem dX3_measure_80 : decode cX3_measure 80 = .ok (.lload 5, 2) := by decide +kernel
theorem dX3_measure_82 : decode cX3_measure 82 = .ok (.ladd, 1) := by decide +kernel
theorem dX3_measure_83 : decode cX3_measure 83 = .ok (.putfield 13, 3) := by decide +kernel
theorem dX3_measure_86 : decode cX3_measure 86 = .ok (.aload_n 0, 1) := by decide +kernel
theorem dX3_measure_87 : decode cX3_measure 87 = .ok (.aload_n 0, 1) := by decide +kernel
theorem dX3_measure_88 : decode cX3_measure 88 = .ok (.getfield 23, 3) := by decide +kernel
theorem dX3_measure_91 : decode cX3_measure 91 = .ok (.lload 5, 2) := by decide +kernel
theorem dX3_measure_93 : decode cX3_measure 93 = .ok (.invokestatic 36, 3) := by decide +kernel
theorem dX3_measure_96 : decode cX3_measure 96 = .ok (.putfield 23, 3) := by decide +kernel
theorem dX3_measure_99 : decode cX3_measure 99 = .ok (.aload_n 0, 1) := by decide +kernel
theorem dX3_measure_100 : decode cX3_measure 100 = .ok (.aload_n 0, 1) := by decide +kernel
theorem dX3_measure_101 : decode cX3_measure 101 = .ok (.getfield 26, 3) := by decide +kernel
theorem dX3_measure_104 : decode cX3_measure 104 = .ok (.lload 5, 2) := by decide +kernel
theorem dX3_measure_106 : decode cX3_measure 106 = .ok (.invokestatic 42, 3) := by decide +kernel
theorem dX3_measure_109 : decode cX3_measure 109 = .ok (.putfield 26, 3) := by decide +kernel
end
section
theorem dX3_measure_112 : decode cX3_measure 112 = .ok (.iinc 4 1, 3) := by decide +kernel
theorem dX3_measure_115 : decode cX3_measure 115 = .ok (.goto (-78), 3) := by decide +kernel
theorem dX3_measure_118 : decode cX3_measure 118 = .ok (.return_, 1) := by decide +kernel
theorem dX4_init_0 : decode cX4_init 0 = .ok (.aload_n 0, 1) := by decide +kernel
theorem dX4_init_1 : decode cX4_init 1 = .ok (.invokespecial 3, 3) := by decide +kernel
theorem dX4_init_4 : decode cX4_init 4 = .ok (.aload_n 0, 1) := by decide +kernel
theorem dX4_init_5 : decode cX4_init 5 = .ok (.iload_n 1, 1) := by decide +kernel
theorem dX4_init_6 : decode cX4_init 6 = .ok (.putfield 9, 3) := by decide +kernel
theorem dX4_init_9 : decode cX4_init 9 = .ok (.aload_n 0, 1) := by decide +kernel
theorem dX4_init_10 : decode cX4_init 10 = .ok (.iload_n 1, 1) := by decide +kernel
theorem dX4_init_11 : decode cX4_init 11 = .ok (.newarray .int, 2) := by decide +kernel
theorem dX4_init_13 : decode cX4_init 13 = .ok (.putfield 15, 3) := by decide +kernel
theorem dX4_init_16 : decode cX4_init 16 = .ok (.aload_n 0, 1) := by decide +kernel
theorem dX4_init_17 : decode cX4_init 17 = .ok (.iload_n 1, 1) := by decide +kernel
theorem dX4_init_18 : decode cX4_init 18 = .ok (.newarray .int, 2) := by decide +kernel
theorem dX4_init_20 : decode cX4_init 20 = .ok (.putfield 19, 3) := by decide +kernel
theorem dX4_init_23 : decode cX4_init 23 = .ok (.aload_n 0, 1) := by decide +kernel
theorem dX4_init_24 : decode cX4_init 24 = .ok (.iload_n 1, 1) := by decide +kernel
theorem dX4_init_25 : decode cX4_init 25 = .ok (.newarray .int, 2) := by decide +kernel
theorem dX4_init_27 : decode cX4_init 27 = .ok (.putfield 22, 3) := by decide +kernel
theorem dX4_init_30 : decode cX4_init 30 = .ok (.aload_n 0, 1) := by decide +kernel
theorem dX4_init_31 : decode cX4_init 31 = .ok (.iload_n 1, 1) := by decide +kernel
theorem dX4_init_32 : decode cX4_init 32 = .ok (.iconst 1, 1) := by decide +kernel
theorem dX4_init_33 : decode cX4_init 33 = .ok (.iadd, 1) := by decide +kernel
theorem dX4_init_34 : decode cX4_init 34 = .ok (.newarray .int, 2) := by decide +kernel
theorem dX4_init_36 : decode cX4_init 36 = .ok (.putfield 25, 3) := by decide +kernel
theorem dX4_init_39 : decode cX4_init 39 = .ok (.aload_n 0, 1) := by decide +kernel
theorem dX4_init_40 : decode cX4_init 40 = .ok (.iload_n 1, 1) := by decide +kernel
theorem dX4_init_41 : decode cX4_init 41 = .ok (.iconst 1, 1) := by decide +kernel
theorem dX4_init_42 : decode cX4_init 42 = .ok (.iadd, 1) := by decide +kernel
theorem dX4_init_43 : decode cX4_init 43 = .ok (.newarray .int, 2) := by decide +kernel
theorem dX4_init_45 : decode cX4_init 45 = .ok (.putfield 28, 3) := by decide +kernel
theorem dX4_init_48 : decode cX4_init 48 = .ok (.aload_n 0, 1) := by decide +kernel
theorem dX4_init_49 : decode cX4_init 49 = .ok (.iload_n 1, 1) := by decide +kernel
theorem dX4_init_50 : decode cX4_init 50 = .ok (.newarray .int, 2) := by decide +kernel
theorem dX4_init_52 : decode cX4_init 52 = .ok (.putfield 31, 3) := by decide +kernel
theorem dX4_init_55 : decode cX4_init 55 = .ok (.aload_n 0, 1) := by decide +kernel
theorem dX4_init_56 : decode cX4_init 56 = .ok (.iconst 0, 1) := by decide +kernel
theorem dX4_init_57 : decode cX4_init 57 = .ok (.putfield 34, 3) := by decide +kernel
theorem dX4_init_60 : decode cX4_init 60 = .ok (.aload_n 0, 1) := by decide +kernel
theorem dX4_init_61 : decode cX4_init 61 = .ok (.iconst 0, 1) := by decide +kernel
theorem dX4_init_62 : decode cX4_init 62 = .ok (.putfield 37, 3) := by decide +kernel
theorem dX4_init_65 : decode cX4_init 65 = .ok (.return_, 1) := by decide +kernel
theorem dX4_size_0 : decode cX4_size 0 = .ok (.aload_n 0, 1) := by decide +kernel
theorem dX4_size_1 : decode cX4_size 1 = .ok (.getfield 34, 3) := by decide +kernel
theorem dX4_size_4 : decode cX4_size 4 = .ok (.ireturn, 1) := by decide +kernel
theorem dX4_hasRoom_0 : decode cX4_hasRoom 0 = .ok (.aload_n 0, 1) := by decide +kernel
theorem dX4_hasRoom_1 : decode cX4_hasRoom 1 = .ok (.getfield 34, 3) := by decide +kernel
theorem dX4_hasRoom_4 : decode cX4_hasRoom 4 = .ok (.aload_n 0, 1) := by decide +kernel
theorem dX4_hasRoom_5 : decode cX4_hasRoom 5 = .ok (.getfield 9, 3) := by decide +kernel
theorem dX4_hasRoom_8 : decode cX4_hasRoom 8 = .ok (.if_icmp .ge 7, 3) := by decide +kernel
theorem dX4_hasRoom_11 : decode cX4_hasRoom 11 = .ok (.iconst 1, 1) := by decide +kernel
theorem dX4_hasRoom_12 : decode cX4_hasRoom 12 = .ok (.goto 4, 3) := by decide +kernel
theorem dX4_hasRoom_15 : decode cX4_hasRoom 15 = .ok (.iconst 0, 1) := by decide +kernel
theorem dX4_hasRoom_16 : decode cX4_hasRoom 16 = .ok (.ireturn, 1) := by decide +kernel
theorem dX4_has_0 : decode cX4_has 0 = .ok (.iload_n 1, 1) := by decide +kernel
theorem dX4_has_1 : decode cX4_has 1 = .ok (.ifCond .lt 15, 3) := by decide +kernel
theorem dX4_has_4 : decode cX4_has 4 = .ok (.iload_n 1, 1) := by decide +kernel
theorem dX4_has_5 : decode cX4_has 5 = .ok (.aload_n 0, 1) := by decide +kernel
theorem dX4_has_6 : decode cX4_has 6 = .ok (.getfield 34, 3) := by decide +kernel
theorem dX4_has_9 : decode cX4_has 9 = .ok (.if_icmp .ge 7, 3) := by decide +kernel
theorem dX4_has_12 : decode cX4_has 12 = .ok (.iconst 1, 1) := by decide +kernel
theorem dX4_has_13 : decode cX4_has 13 = .ok (.goto 4, 3) := by decide +kernel
theorem dX4_has_16 : decode cX4_has 16 = .ok (.iconst 0, 1) := by decide +kernel
theorem dX4_has_17 : decode cX4_has 17 = .ok (.ireturn, 1) := by decide +kernel
theorem dX4_append_0 : decode cX4_append 0 = .ok (.aload_n 0, 1) := by decide +kernel
theorem dX4_append_1 : decode cX4_append 1 = .ok (.invokevirtual 40, 3) := by decide +kernel
theorem dX4_append_4 : decode cX4_append 4 = .ok (.ifCond .ne 5, 3) := by decide +kernel
theorem dX4_append_7 : decode cX4_append 7 = .ok (.iconst (-1), 1) := by decide +kernel
theorem dX4_append_8 : decode cX4_append 8 = .ok (.ireturn, 1) := by decide +kernel
theorem dX4_append_9 : decode cX4_append 9 = .ok (.aload_n 0, 1) := by decide +kernel
theorem dX4_append_10 : decode cX4_append 10 = .ok (.getfield 15, 3) := by decide +kernel
theorem dX4_append_13 : decode cX4_append 13 = .ok (.aload_n 0, 1) := by decide +kernel
theorem dX4_append_14 : decode cX4_append 14 = .ok (.getfield 34, 3) := by decide +kernel
theorem dX4_append_17 : decode cX4_append 17 = .ok (.iload_n 1, 1) := by decide +kernel
theorem dX4_append_18 : decode cX4_append 18 = .ok (.iastore, 1) := by decide +kernel
theorem dX4_append_19 : decode cX4_append 19 = .ok (.aload_n 0, 1) := by decide +kernel
theorem dX4_append_20 : decode cX4_append 20 = .ok (.getfield 19, 3) := by decide +kernel
theorem dX4_append_23 : decode cX4_append 23 = .ok (.aload_n 0, 1) := by decide +kernel
theorem dX4_append_24 : decode cX4_append 24 = .ok (.getfield 34, 3) := by decide +kernel
theorem dX4_append_27 : decode cX4_append 27 = .ok (.iload_n 2, 1) := by decide +kernel
theorem dX4_append_28 : decode cX4_append 28 = .ok (.iastore, 1) := by decide +kernel
theorem dX4_append_29 : decode cX4_append 29 = .ok (.aload_n 0, 1) := by decide +kernel
theorem dX4_append_30 : decode cX4_append 30 = .ok (.dup, 1) := by decide +kernel
theorem dX4_append_31 : decode cX4_append 31 = .ok (.getfield 34, 3) := by decide +kernel
theorem dX4_append_34 : decode cX4_append 34 = .ok (.iconst 1, 1) := by decide +kernel
theorem dX4_append_35 : decode cX4_append 35 = .ok (.iadd, 1) := by decide +kernel
theorem dX4_append_36 : decode cX4_append 36 = .ok (.putfield 34, 3) := by decide +kernel
theorem dX4_append_39 : decode cX4_append 39 = .ok (.aload_n 0, 1) := by decide +kernel
theorem dX4_append_40 : decode cX4_append 40 = .ok (.getfield 34, 3) := by decide +kernel
theorem dX4_append_43 : decode cX4_append 43 = .ok (.iconst 1, 1) := by decide +kernel
theorem dX4_append_44 : decode cX4_append 44 = .ok (.isub, 1) := by decide +kernel
theorem dX4_append_45 : decode cX4_append 45 = .ok (.ireturn, 1) := by decide +kernel
theorem dX4_empty_0 : decode cX4_empty 0 = .ok (.aload_n 0, 1) := by decide +kernel
theorem dX4_empty_1 : decode cX4_empty 1 = .ok (.iconst 0, 1) := by decide +kernel
theorem dX4_empty_2 : decode cX4_empty 2 = .ok (.putfield 34, 3) := by decide +kernel
theorem dX4_empty_5 : decode cX4_empty 5 = .ok (.aload_n 0, 1) := by decide +kernel
theorem dX4_empty_6 : decode cX4_empty 6 = .ok (.iconst 0, 1) := by decide +kernel
theorem dX4_empty_7 : decode cX4_empty 7 = .ok (.putfield 37, 3) := by decide +kernel
theorem dX4_empty_10 : decode cX4_empty 10 = .ok (.return_, 1) := by decide +kernel
theorem dX4_keyAt_0 : decode cX4_keyAt 0 = .ok (.aload_n 0, 1) := by decide +kernel
theorem dX4_keyAt_1 : decode cX4_keyAt 1 = .ok (.iload_n 1, 1) := by decide +kernel
theorem dX4_keyAt_2 : decode cX4_keyAt 2 = .ok (.invokevirtual 44, 3) := by decide +kernel
theorem dX4_keyAt_5 : decode cX4_keyAt 5 = .ok (.ifCond .eq 17, 3) := by decide +kernel
theorem dX4_keyAt_8 : decode cX4_keyAt 8 = .ok (.aload_n 0, 1) := by decide +kernel
theorem dX4_keyAt_9 : decode cX4_keyAt 9 = .ok (.getfield 15, 3) := by decide +kernel
theorem dX4_keyAt_12 : decode cX4_keyAt 12 = .ok (.aload_n 0, 1) := by decide +kernel
theorem dX4_keyAt_13 : decode cX4_keyAt 13 = .ok (.getfield 22, 3) := by decide +kernel
theorem dX4_keyAt_16 : decode cX4_keyAt 16 = .ok (.iload_n 1, 1) := by decide +kernel
theorem dX4_keyAt_17 : decode cX4_keyAt 17 = .ok (.iaload, 1) := by decide +kernel
theorem dX4_keyAt_18 : decode cX4_keyAt 18 = .ok (.iaload, 1) := by decide +kernel
theorem dX4_keyAt_19 : decode cX4_keyAt 19 = .ok (.goto 4, 3) := by decide +kernel
theorem dX4_keyAt_22 : decode cX4_keyAt 22 = .ok (.iconst 0, 1) := by decide +kernel
theorem dX4_keyAt_23 : decode cX4_keyAt 23 = .ok (.ireturn, 1) := by decide +kernel
theorem dX4_valueAt_0 : decode cX4_valueAt 0 = .ok (.aload_n 0, 1) := by decide +kernel
theorem dX4_valueAt_1 : decode cX4_valueAt 1 = .ok (.iload_n 1, 1) := by decide +kernel
theorem dX4_valueAt_2 : decode cX4_valueAt 2 = .ok (.invokevirtual 44, 3) := by decide +kernel
theorem dX4_valueAt_5 : decode cX4_valueAt 5 = .ok (.ifCond .eq 17, 3) := by decide +kernel
theorem dX4_valueAt_8 : decode cX4_valueAt 8 = .ok (.aload_n 0, 1) := by decide +kernel
theorem dX4_valueAt_9 : decode cX4_valueAt 9 = .ok (.getfield 19, 3) := by decide +kernel
theorem dX4_valueAt_12 : decode cX4_valueAt 12 = .ok (.aload_n 0, 1) := by decide +kernel
theorem dX4_valueAt_13 : decode cX4_valueAt 13 = .ok (.getfield 22, 3) := by decide +kernel
theorem dX4_valueAt_16 : decode cX4_valueAt 16 = .ok (.iload_n 1, 1) := by decide +kernel
theorem dX4_valueAt_17 : decode cX4_valueAt 17 = .ok (.iaload, 1) := by decide +kernel
theorem dX4_valueAt_18 : decode cX4_valueAt 18 = .ok (.iaload, 1) := by decide +kernel
theorem dX4_valueAt_19 : decode cX4_valueAt 19 = .ok (.goto 4, 3) := by decide +kernel
theorem dX4_valueAt_22 : decode cX4_valueAt 22 = .ok (.iconst 0, 1) := by decide +kernel
theorem dX4_valueAt_23 : decode cX4_valueAt 23 = .ok (.ireturn, 1) := by decide +kernel
theorem dX4_numberAt_0 : decode cX4_numberAt 0 = .ok (.aload_n 0, 1) := by decide +kernel
theorem dX4_numberAt_1 : decode cX4_numberAt 1 = .ok (.iload_n 1, 1) := by decide +kernel
theorem dX4_numberAt_2 : decode cX4_numberAt 2 = .ok (.invokevirtual 44, 3) := by decide +kernel
theorem dX4_numberAt_5 : decode cX4_numberAt 5 = .ok (.ifCond .eq 12, 3) := by decide +kernel
theorem dX4_numberAt_8 : decode cX4_numberAt 8 = .ok (.aload_n 0, 1) := by decide +kernel
theorem dX4_numberAt_9 : decode cX4_numberAt 9 = .ok (.getfield 22, 3) := by decide +kernel
theorem dX4_numberAt_12 : decode cX4_numberAt 12 = .ok (.iload_n 1, 1) := by decide +kernel
theorem dX4_numberAt_13 : decode cX4_numberAt 13 = .ok (.iaload, 1) := by decide +kernel
theorem dX4_numberAt_14 : decode cX4_numberAt 14 = .ok (.goto 4, 3) := by decide +kernel
theorem dX4_numberAt_17 : decode cX4_numberAt 17 = .ok (.iconst (-1), 1) := by decide +kernel
theorem dX4_numberAt_18 : decode cX4_numberAt 18 = .ok (.ireturn, 1) := by decide +kernel
theorem dX4_sortRows_0 : decode cX4_sortRows 0 = .ok (.aload_n 0, 1) := by decide +kernel
theorem dX4_sortRows_1 : decode cX4_sortRows 1 = .ok (.getfield 37, 3) := by decide +kernel
theorem dX4_sortRows_4 : decode cX4_sortRows 4 = .ok (.istore_n 1, 1) := by decide +kernel
theorem dX4_sortRows_5 : decode cX4_sortRows 5 = .ok (.iload_n 1, 1) := by decide +kernel
theorem dX4_sortRows_6 : decode cX4_sortRows 6 = .ok (.aload_n 0, 1) := by decide +kernel
theorem dX4_sortRows_7 : decode cX4_sortRows 7 = .ok (.getfield 34, 3) := by decide +kernel
theorem dX4_sortRows_10 : decode cX4_sortRows 10 = .ok (.if_icmp .ge 14, 3) := by decide +kernel
theorem dX4_sortRows_13 : decode cX4_sortRows 13 = .ok (.aload_n 0, 1) := by decide +kernel
theorem dX4_sortRows_14 : decode cX4_sortRows 14 = .ok (.iload_n 1, 1) := by decide +kernel
theorem dX4_sortRows_15 : decode cX4_sortRows 15 = .ok (.invokevirtual 48, 3) := by decide +kernel
theorem dX4_sortRows_18 : decode cX4_sortRows 18 = .ok (.iinc 1 1, 3) := by decide +kernel
theorem dX4_sortRows_21 : decode cX4_sortRows 21 = .ok (.goto (-16), 3) := by decide +kernel
theorem dX4_sortRows_24 : decode cX4_sortRows 24 = .ok (.aload_n 0, 1) := by decide +kernel
theorem dX4_sortRows_25 : decode cX4_sortRows 25 = .ok (.aload_n 0, 1) := by decide +kernel
theorem dX4_sortRows_26 : decode cX4_sortRows 26 = .ok (.getfield 34, 3) := by decide +kernel
theorem dX4_sortRows_29 : decode cX4_sortRows 29 = .ok (.putfield 37, 3) := by decide +kernel
theorem dX4_sortRows_32 : decode cX4_sortRows 32 = .ok (.return_, 1) := by decide +kernel
theorem dX4_putInOrder_0 : decode cX4_putInOrder 0 = .ok (.iload_n 1, 1) := by decide +kernel
theorem dX4_putInOrder_1 : decode cX4_putInOrder 1 = .ok (.istore_n 2, 1) := by decide +kernel
theorem dX4_putInOrder_2 : decode cX4_putInOrder 2 = .ok (.iload_n 2, 1) := by decide +kernel
theorem dX4_putInOrder_3 : decode cX4_putInOrder 3 = .ok (.ifCond .le 45, 3) := by decide +kernel
theorem dX4_putInOrder_6 : decode cX4_putInOrder 6 = .ok (.aload_n 0, 1) := by decide +kernel
theorem dX4_putInOrder_7 : decode cX4_putInOrder 7 = .ok (.getfield 15, 3) := by decide +kernel
theorem dX4_putInOrder_10 : decode cX4_putInOrder 10 = .ok (.aload_n 0, 1) := by decide +kernel
theorem dX4_putInOrder_11 : decode cX4_putInOrder 11 = .ok (.getfield 22, 3) := by decide +kernel
theorem dX4_putInOrder_14 : decode cX4_putInOrder 14 = .ok (.iload_n 2, 1) := by decide +kernel
theorem dX4_putInOrder_15 : decode cX4_putInOrder 15 = .ok (.iconst 1, 1) := by decide +kernel
theorem dX4_putInOrder_16 : decode cX4_putInOrder 16 = .ok (.isub, 1) := by decide +kernel
theorem dX4_putInOrder_17 : decode cX4_putInOrder 17 = .ok (.iaload, 1) := by decide +kernel
theorem dX4_putInOrder_18 : decode cX4_putInOrder 18 = .ok (.iaload, 1) := by decide +kernel
theorem dX4_putInOrder_19 : decode cX4_putInOrder 19 = .ok (.aload_n 0, 1) := by decide +kernel
theorem dX4_putInOrder_20 : decode cX4_putInOrder 20 = .ok (.getfield 15, 3) := by decide +kernel
theorem dX4_putInOrder_23 : decode cX4_putInOrder 23 = .ok (.iload_n 1, 1) := by decide +kernel
theorem dX4_putInOrder_24 : decode cX4_putInOrder 24 = .ok (.iaload, 1) := by decide +kernel
theorem dX4_putInOrder_25 : decode cX4_putInOrder 25 = .ok (.if_icmp .le 23, 3) := by decide +kernel
theorem dX4_putInOrder_28 : decode cX4_putInOrder 28 = .ok (.aload_n 0, 1) := by decide +kernel
theorem dX4_putInOrder_29 : decode cX4_putInOrder 29 = .ok (.getfield 22, 3) := by decide +kernel
theorem dX4_putInOrder_32 : decode cX4_putInOrder 32 = .ok (.iload_n 2, 1) := by decide +kernel
theorem dX4_putInOrder_33 : decode cX4_putInOrder 33 = .ok (.aload_n 0, 1) := by decide +kernel
theorem dX4_putInOrder_34 : decode cX4_putInOrder 34 = .ok (.getfield 22, 3) := by decide +kernel
theorem dX4_putInOrder_37 : decode cX4_putInOrder 37 = .ok (.iload_n 2, 1) := by decide +kernel
theorem dX4_putInOrder_38 : decode cX4_putInOrder 38 = .ok (.iconst 1, 1) := by decide +kernel
theorem dX4_putInOrder_39 : decode cX4_putInOrder 39 = .ok (.isub, 1) := by decide +kernel
theorem dX4_putInOrder_40 : decode cX4_putInOrder 40 = .ok (.iaload, 1) := by decide +kernel
theorem dX4_putInOrder_41 : decode cX4_putInOrder 41 = .ok (.iastore, 1) := by decide +kernel
theorem dX4_putInOrder_42 : decode cX4_putInOrder 42 = .ok (.iinc 2 (-1), 3) := by decide +kernel
theorem dX4_putInOrder_45 : decode cX4_putInOrder 45 = .ok (.goto (-43), 3) := by decide +kernel
theorem dX4_putInOrder_48 : decode cX4_putInOrder 48 = .ok (.aload_n 0, 1) := by decide +kernel
theorem dX4_putInOrder_49 : decode cX4_putInOrder 49 = .ok (.getfield 22, 3) := by decide +kernel
theorem dX4_putInOrder_52 : decode cX4_putInOrder 52 = .ok (.iload_n 2, 1) := by decide +kernel
theorem dX4_putInOrder_53 : decode cX4_putInOrder 53 = .ok (.iload_n 1, 1) := by decide +kernel
theorem dX4_putInOrder_54 : decode cX4_putInOrder 54 = .ok (.iastore, 1) := by decide +kernel
theorem dX4_putInOrder_55 : decode cX4_putInOrder 55 = .ok (.return_, 1) := by decide +kernel
theorem dX4_findPartners_0 : decode cX4_findPartners 0 = .ok (.iconst 0, 1) := by decide +kernel
theorem dX4_findPartners_1 : decode cX4_findPartners 1 = .ok (.istore_n 2, 1) := by decide +kernel
theorem dX4_findPartners_2 : decode cX4_findPartners 2 = .ok (.iconst 0, 1) := by decide +kernel
theorem dX4_findPartners_3 : decode cX4_findPartners 3 = .ok (.istore_n 3, 1) := by decide +kernel
theorem dX4_findPartners_4 : decode cX4_findPartners 4 = .ok (.iconst 0, 1) := by decide +kernel
theorem dX4_findPartners_5 : decode cX4_findPartners 5 = .ok (.istore 4, 2) := by decide +kernel
theorem dX4_findPartners_7 : decode cX4_findPartners 7 = .ok (.iload 4, 2) := by decide +kernel
theorem dX4_findPartners_9 : decode cX4_findPartners 9 = .ok (.aload_n 0, 1) := by decide +kernel
theorem dX4_findPartners_10 : decode cX4_findPartners 10 = .ok (.getfield 34, 3) := by decide +kernel
theorem dX4_findPartners_13 : decode cX4_findPartners 13 = .ok (.if_icmp .ge 120, 3) := by decide +kernel
theorem dX4_findPartners_16 : decode cX4_findPartners 16 = .ok (.aload_n 0, 1) := by decide +kernel
theorem dX4_findPartners_17 : decode cX4_findPartners 17 = .ok (.iload 4, 2) := by decide +kernel
theorem dX4_findPartners_19 : decode cX4_findPartners 19 = .ok (.invokevirtual 52, 3) := by decide +kernel
theorem dX4_findPartners_22 : decode cX4_findPartners 22 = .ok (.istore 5, 2) := by decide +kernel
theorem dX4_findPartners_24 : decode cX4_findPartners 24 = .ok (.iload_n 2, 1) := by decide +kernel
theorem dX4_findPartners_25 : decode cX4_findPartners 25 = .ok (.aload_n 1, 1) := by decide +kernel
theorem dX4_findPartners_26 : decode cX4_findPartners 26 = .ok (.getfield 34, 3) := by decide +kernel
theorem dX4_findPartners_29 : decode cX4_findPartners 29 = .ok (.if_icmp .ge 19, 3) := by decide +kernel
theorem dX4_findPartners_32 : decode cX4_findPartners 32 = .ok (.aload_n 1, 1) := by decide +kernel
theorem dX4_findPartners_33 : decode cX4_findPartners 33 = .ok (.iload_n 2, 1) := by decide +kernel
theorem dX4_findPartners_34 : decode cX4_findPartners 34 = .ok (.invokevirtual 52, 3) := by decide +kernel
theorem dX4_findPartners_37 : decode cX4_findPartners 37 = .ok (.iload 5, 2) := by decide +kernel
theorem dX4_findPartners_39 : decode cX4_findPartners 39 = .ok (.if_icmp .ge 9, 3) := by decide +kernel
theorem dX4_findPartners_42 : decode cX4_findPartners 42 = .ok (.iinc 2 1, 3) := by decide +kernel
theorem dX4_findPartners_45 : decode cX4_findPartners 45 = .ok (.goto (-21), 3) := by decide +kernel
theorem dX4_findPartners_48 : decode cX4_findPartners 48 = .ok (.iload_n 3, 1) := by decide +kernel
theorem dX4_findPartners_49 : decode cX4_findPartners 49 = .ok (.aload_n 1, 1) := by decide +kernel
theorem dX4_findPartners_50 : decode cX4_findPartners 50 = .ok (.getfield 34, 3) := by decide +kernel
theorem dX4_findPartners_53 : decode cX4_findPartners 53 = .ok (.if_icmp .ge 19, 3) := by decide +kernel
theorem dX4_findPartners_56 : decode cX4_findPartners 56 = .ok (.aload_n 1, 1) := by decide +kernel
theorem dX4_findPartners_57 : decode cX4_findPartners 57 = .ok (.iload_n 3, 1) := by decide +kernel
theorem dX4_findPartners_58 : decode cX4_findPartners 58 = .ok (.invokevirtual 52, 3) := by decide +kernel
theorem dX4_findPartners_61 : decode cX4_findPartners 61 = .ok (.iload 5, 2) := by decide +kernel
theorem dX4_findPartners_63 : decode cX4_findPartners 63 = .ok (.if_icmp .gt 9, 3) := by decide +kernel
theorem dX4_findPartners_66 : decode cX4_findPartners 66 = .ok (.iinc 3 1, 3) := by decide +kernel
theorem dX4_findPartners_69 : decode cX4_findPartners 69 = .ok (.goto (-21), 3) := by decide +kernel
theorem dX4_findPartners_72 : decode cX4_findPartners 72 = .ok (.aload_n 0, 1) := by decide +kernel
theorem dX4_findPartners_73 : decode cX4_findPartners 73 = .ok (.getfield 31, 3) := by decide +kernel
theorem dX4_findPartners_76 : decode cX4_findPartners 76 = .ok (.iload 4, 2) := by decide +kernel
theorem dX4_findPartners_78 : decode cX4_findPartners 78 = .ok (.iload_n 2, 1) := by decide +kernel
theorem dX4_findPartners_79 : decode cX4_findPartners 79 = .ok (.iastore, 1) := by decide +kernel
theorem dX4_findPartners_80 : decode cX4_findPartners 80 = .ok (.aload_n 0, 1) := by decide +kernel
theorem dX4_findPartners_81 : decode cX4_findPartners 81 = .ok (.getfield 25, 3) := by decide +kernel
theorem dX4_findPartners_84 : decode cX4_findPartners 84 = .ok (.iload 4, 2) := by decide +kernel
theorem dX4_findPartners_86 : decode cX4_findPartners 86 = .ok (.iconst 1, 1) := by decide +kernel
theorem dX4_findPartners_87 : decode cX4_findPartners 87 = .ok (.iadd, 1) := by decide +kernel
theorem dX4_findPartners_88 : decode cX4_findPartners 88 = .ok (.aload_n 0, 1) := by decide +kernel
theorem dX4_findPartners_89 : decode cX4_findPartners 89 = .ok (.getfield 25, 3) := by decide +kernel
theorem dX4_findPartners_92 : decode cX4_findPartners 92 = .ok (.iload 4, 2) := by decide +kernel
theorem dX4_findPartners_94 : decode cX4_findPartners 94 = .ok (.iaload, 1) := by decide +kernel
theorem dX4_findPartners_95 : decode cX4_findPartners 95 = .ok (.iload_n 3, 1) := by decide +kernel
theorem dX4_findPartners_96 : decode cX4_findPartners 96 = .ok (.iadd, 1) := by decide +kernel
theorem dX4_findPartners_97 : decode cX4_findPartners 97 = .ok (.iload_n 2, 1) := by decide +kernel
theorem dX4_findPartners_98 : decode cX4_findPartners 98 = .ok (.isub, 1) := by decide +kernel
theorem dX4_findPartners_99 : decode cX4_findPartners 99 = .ok (.iastore, 1) := by decide +kernel
theorem dX4_findPartners_100 : decode cX4_findPartners 100 = .ok (.aload_n 0, 1) := by decide +kernel
theorem dX4_findPartners_101 : decode cX4_findPartners 101 = .ok (.getfield 28, 3) := by decide +kernel
theorem dX4_findPartners_104 : decode cX4_findPartners 104 = .ok (.iload 4, 2) := by decide +kernel
theorem dX4_findPartners_106 : decode cX4_findPartners 106 = .ok (.iconst 1, 1) := by decide +kernel
theorem dX4_findPartners_107 : decode cX4_findPartners 107 = .ok (.iadd, 1) := by decide +kernel
theorem dX4_findPartners_108 : decode cX4_findPartners 108 = .ok (.aload_n 0, 1) := by decide +kernel
theorem dX4_findPartners_109 : decode cX4_findPartners 109 = .ok (.getfield 28, 3) := by decide +kernel
theorem dX4_findPartners_112 : decode cX4_findPartners 112 = .ok (.iload 4, 2) := by decide +kernel
theorem dX4_findPartners_114 : decode cX4_findPartners 114 = .ok (.iaload, 1) := by decide +kernel
theorem dX4_findPartners_115 : decode cX4_findPartners 115 = .ok (.iload_n 3, 1) := by decide +kernel
theorem dX4_findPartners_116 : decode cX4_findPartners 116 = .ok (.iload_n 2, 1) := by decide +kernel
theorem dX4_findPartners_117 : decode cX4_findPartners 117 = .ok (.if_icmp .ne 7, 3) := by decide +kernel
theorem dX4_findPartners_120 : decode cX4_findPartners 120 = .ok (.iconst 1, 1) := by decide +kernel
theorem dX4_findPartners_121 : decode cX4_findPartners 121 = .ok (.goto 4, 3) := by decide +kernel
theorem dX4_findPartners_124 : decode cX4_findPartners 124 = .ok (.iconst 0, 1) := by decide +kernel
theorem dX4_findPartners_125 : decode cX4_findPartners 125 = .ok (.iadd, 1) := by decide +kernel
theorem dX4_findPartners_126 : decode cX4_findPartners 126 = .ok (.iastore, 1) := by decide +kernel
theorem dX4_findPartners_127 : decode cX4_findPartners 127 = .ok (.iinc 4 1, 3) := by decide +kernel
theorem dX4_findPartners_130 : decode cX4_findPartners 130 = .ok (.goto (-123), 3) := by decide +kernel
theorem dX4_findPartners_133 : decode cX4_findPartners 133 = .ok (.return_, 1) := by decide +kernel
theorem dX4_partnersBefore_0 : decode cX4_partnersBefore 0 = .ok (.iload_n 1, 1) := by decide +kernel
theorem dX4_partnersBefore_1 : decode cX4_partnersBefore 1 = .ok (.ifCond .lt 20, 3) := by decide +kernel
theorem dX4_partnersBefore_4 : decode cX4_partnersBefore 4 = .ok (.iload_n 1, 1) := by decide +kernel
theorem dX4_partnersBefore_5 : decode cX4_partnersBefore 5 = .ok (.aload_n 0, 1) := by decide +kernel
theorem dX4_partnersBefore_6 : decode cX4_partnersBefore 6 = .ok (.getfield 34, 3) := by decide +kernel
theorem dX4_partnersBefore_9 : decode cX4_partnersBefore 9 = .ok (.if_icmp .gt 12, 3) := by decide +kernel
theorem dX4_partnersBefore_12 : decode cX4_partnersBefore 12 = .ok (.aload_n 0, 1) := by decide +kernel
theorem dX4_partnersBefore_13 : decode cX4_partnersBefore 13 = .ok (.getfield 25, 3) := by decide +kernel
theorem dX4_partnersBefore_16 : decode cX4_partnersBefore 16 = .ok (.iload_n 1, 1) := by decide +kernel
theorem dX4_partnersBefore_17 : decode cX4_partnersBefore 17 = .ok (.iaload, 1) := by decide +kernel
theorem dX4_partnersBefore_18 : decode cX4_partnersBefore 18 = .ok (.goto 4, 3) := by decide +kernel
theorem dX4_partnersBefore_21 : decode cX4_partnersBefore 21 = .ok (.iconst 0, 1) := by decide +kernel
theorem dX4_partnersBefore_22 : decode cX4_partnersBefore 22 = .ok (.ireturn, 1) := by decide +kernel
theorem dX4_loneBefore_0 : decode cX4_loneBefore 0 = .ok (.iload_n 1, 1) := by decide +kernel
theorem dX4_loneBefore_1 : decode cX4_loneBefore 1 = .ok (.ifCond .lt 20, 3) := by decide +kernel
theorem dX4_loneBefore_4 : decode cX4_loneBefore 4 = .ok (.iload_n 1, 1) := by decide +kernel
theorem dX4_loneBefore_5 : decode cX4_loneBefore 5 = .ok (.aload_n 0, 1) := by decide +kernel
theorem dX4_loneBefore_6 : decode cX4_loneBefore 6 = .ok (.getfield 34, 3) := by decide +kernel
theorem dX4_loneBefore_9 : decode cX4_loneBefore 9 = .ok (.if_icmp .gt 12, 3) := by decide +kernel
theorem dX4_loneBefore_12 : decode cX4_loneBefore 12 = .ok (.aload_n 0, 1) := by decide +kernel
theorem dX4_loneBefore_13 : decode cX4_loneBefore 13 = .ok (.getfield 28, 3) := by decide +kernel
theorem dX4_loneBefore_16 : decode cX4_loneBefore 16 = .ok (.iload_n 1, 1) := by decide +kernel
theorem dX4_loneBefore_17 : decode cX4_loneBefore 17 = .ok (.iaload, 1) := by decide +kernel
theorem dX4_loneBefore_18 : decode cX4_loneBefore 18 = .ok (.goto 4, 3) := by decide +kernel
theorem dX4_loneBefore_21 : decode cX4_loneBefore 21 = .ok (.iconst 0, 1) := by decide +kernel
theorem dX4_loneBefore_22 : decode cX4_loneBefore 22 = .ok (.ireturn, 1) := by decide +kernel
theorem dX4_firstPartnerOf_0 : decode cX4_firstPartnerOf 0 = .ok (.aload_n 0, 1) := by decide +kernel
theorem dX4_firstPartnerOf_1 : decode cX4_firstPartnerOf 1 = .ok (.iload_n 1, 1) := by decide +kernel
theorem dX4_firstPartnerOf_2 : decode cX4_firstPartnerOf 2 = .ok (.invokevirtual 44, 3) := by decide +kernel
theorem dX4_firstPartnerOf_5 : decode cX4_firstPartnerOf 5 = .ok (.ifCond .eq 12, 3) := by decide +kernel
theorem dX4_firstPartnerOf_8 : decode cX4_firstPartnerOf 8 = .ok (.aload_n 0, 1) := by decide +kernel
theorem dX4_firstPartnerOf_9 : decode cX4_firstPartnerOf 9 = .ok (.getfield 31, 3) := by decide +kernel
theorem dX4_firstPartnerOf_12 : decode cX4_firstPartnerOf 12 = .ok (.iload_n 1, 1) := by decide +kernel
theorem dX4_firstPartnerOf_13 : decode cX4_firstPartnerOf 13 = .ok (.iaload, 1) := by decide +kernel
theorem dX4_firstPartnerOf_14 : decode cX4_firstPartnerOf 14 = .ok (.goto 4, 3) := by decide +kernel
theorem dX4_firstPartnerOf_17 : decode cX4_firstPartnerOf 17 = .ok (.iconst 0, 1) := by decide +kernel
theorem dX4_firstPartnerOf_18 : decode cX4_firstPartnerOf 18 = .ok (.ireturn, 1) := by decide +kernel
theorem dX4_startsGroup_0 : decode cX4_startsGroup 0 = .ok (.iload_n 1, 1) := by decide +kernel
theorem dX4_startsGroup_1 : decode cX4_startsGroup 1 = .ok (.ifCond .eq 18, 3) := by decide +kernel
theorem dX4_startsGroup_4 : decode cX4_startsGroup 4 = .ok (.aload_n 0, 1) := by decide +kernel
theorem dX4_startsGroup_5 : decode cX4_startsGroup 5 = .ok (.iload_n 1, 1) := by decide +kernel
theorem dX4_startsGroup_6 : decode cX4_startsGroup 6 = .ok (.iconst 1, 1) := by decide +kernel
theorem dX4_startsGroup_7 : decode cX4_startsGroup 7 = .ok (.isub, 1) := by decide +kernel
theorem dX4_startsGroup_8 : decode cX4_startsGroup 8 = .ok (.invokevirtual 52, 3) := by decide +kernel
theorem dX4_startsGroup_11 : decode cX4_startsGroup 11 = .ok (.aload_n 0, 1) := by decide +kernel
theorem dX4_startsGroup_12 : decode cX4_startsGroup 12 = .ok (.iload_n 1, 1) := by decide +kernel
theorem dX4_startsGroup_13 : decode cX4_startsGroup 13 = .ok (.invokevirtual 52, 3) := by decide +kernel
theorem dX4_startsGroup_16 : decode cX4_startsGroup 16 = .ok (.if_icmp .eq 7, 3) := by decide +kernel
theorem dX4_startsGroup_19 : decode cX4_startsGroup 19 = .ok (.iconst 1, 1) := by decide +kernel
theorem dX4_startsGroup_20 : decode cX4_startsGroup 20 = .ok (.goto 4, 3) := by decide +kernel
theorem dX4_startsGroup_23 : decode cX4_startsGroup 23 = .ok (.iconst 0, 1) := by decide +kernel
theorem dX4_startsGroup_24 : decode cX4_startsGroup 24 = .ok (.istore_n 2, 1) := by decide +kernel
theorem dX4_startsGroup_25 : decode cX4_startsGroup 25 = .ok (.iload_n 2, 1) := by decide +kernel
theorem dX4_startsGroup_26 : decode cX4_startsGroup 26 = .ok (.ifCond .eq 22, 3) := by decide +kernel
theorem dX4_startsGroup_29 : decode cX4_startsGroup 29 = .ok (.aload_n 0, 1) := by decide +kernel
theorem dX4_startsGroup_30 : decode cX4_startsGroup 30 = .ok (.iload_n 1, 1) := by decide +kernel
theorem dX4_startsGroup_31 : decode cX4_startsGroup 31 = .ok (.iconst 1, 1) := by decide +kernel
theorem dX4_startsGroup_32 : decode cX4_startsGroup 32 = .ok (.iadd, 1) := by decide +kernel
theorem dX4_startsGroup_33 : decode cX4_startsGroup 33 = .ok (.invokevirtual 56, 3) := by decide +kernel
theorem dX4_startsGroup_36 : decode cX4_startsGroup 36 = .ok (.aload_n 0, 1) := by decide +kernel
theorem dX4_startsGroup_37 : decode cX4_startsGroup 37 = .ok (.iload_n 1, 1) := by decide +kernel
theorem dX4_startsGroup_38 : decode cX4_startsGroup 38 = .ok (.invokevirtual 56, 3) := by decide +kernel
theorem dX4_startsGroup_41 : decode cX4_startsGroup 41 = .ok (.if_icmp .le 7, 3) := by decide +kernel
theorem dX4_startsGroup_44 : decode cX4_startsGroup 44 = .ok (.iconst 1, 1) := by decide +kernel
theorem dX4_startsGroup_45 : decode cX4_startsGroup 45 = .ok (.goto 4, 3) := by decide +kernel
theorem dX4_startsGroup_48 : decode cX4_startsGroup 48 = .ok (.iconst 0, 1) := by decide +kernel
theorem dX4_startsGroup_49 : decode cX4_startsGroup 49 = .ok (.ireturn, 1) := by decide +kernel
theorem dX4_groupStarts_0 : decode cX4_groupStarts 0 = .ok (.iconst 0, 1) := by decide +kernel
theorem dX4_groupStarts_1 : decode cX4_groupStarts 1 = .ok (.istore_n 1, 1) := by decide +kernel
theorem dX4_groupStarts_2 : decode cX4_groupStarts 2 = .ok (.iconst 0, 1) := by decide +kernel
theorem dX4_groupStarts_3 : decode cX4_groupStarts 3 = .ok (.istore_n 2, 1) := by decide +kernel
theorem dX4_groupStarts_4 : decode cX4_groupStarts 4 = .ok (.iload_n 2, 1) := by decide +kernel
theorem dX4_groupStarts_5 : decode cX4_groupStarts 5 = .ok (.aload_n 0, 1) := by decide +kernel
theorem dX4_groupStarts_6 : decode cX4_groupStarts 6 = .ok (.getfield 34, 3) := by decide +kernel
theorem dX4_groupStarts_9 : decode cX4_groupStarts 9 = .ok (.if_icmp .ge 20, 3) := by decide +kernel
theorem dX4_groupStarts_12 : decode cX4_groupStarts 12 = .ok (.aload_n 0, 1) := by decide +kernel
theorem dX4_groupStarts_13 : decode cX4_groupStarts 13 = .ok (.iload_n 2, 1) := by decide +kernel
theorem dX4_groupStarts_14 : decode cX4_groupStarts 14 = .ok (.invokevirtual 59, 3) := by decide +kernel
theorem dX4_groupStarts_17 : decode cX4_groupStarts 17 = .ok (.ifCond .eq 6, 3) := by decide +kernel
theorem dX4_groupStarts_20 : decode cX4_groupStarts 20 = .ok (.iinc 1 1, 3) := by decide +kernel
theorem dX4_groupStarts_23 : decode cX4_groupStarts 23 = .ok (.iinc 2 1, 3) := by decide +kernel
theorem dX4_groupStarts_26 : decode cX4_groupStarts 26 = .ok (.goto (-22), 3) := by decide +kernel
theorem dX4_groupStarts_29 : decode cX4_groupStarts 29 = .ok (.iload_n 1, 1) := by decide +kernel
theorem dX4_groupStarts_30 : decode cX4_groupStarts 30 = .ok (.ireturn, 1) := by decide +kernel
theorem dX5_init_0 : decode cX5_init 0 = .ok (.aload_n 0, 1) := by decide +kernel
theorem dX5_init_1 : decode cX5_init 1 = .ok (.invokespecial 1, 3) := by decide +kernel
theorem dX5_init_4 : decode cX5_init 4 = .ok (.new 7, 3) := by decide +kernel
theorem dX5_init_7 : decode cX5_init 7 = .ok (.dup, 1) := by decide +kernel
theorem dX5_init_8 : decode cX5_init 8 = .ok (.iload_n 1, 1) := by decide +kernel
theorem dX5_init_9 : decode cX5_init 9 = .ok (.invokestatic 9, 3) := by decide +kernel
theorem dX5_init_12 : decode cX5_init 12 = .ok (.invokespecial 15, 3) := by decide +kernel
theorem dX5_init_15 : decode cX5_init 15 = .ok (.astore 4, 2) := by decide +kernel
theorem dX5_init_17 : decode cX5_init 17 = .ok (.new 7, 3) := by decide +kernel
theorem dX5_init_20 : decode cX5_init 20 = .ok (.dup, 1) := by decide +kernel
theorem dX5_init_21 : decode cX5_init 21 = .ok (.iload_n 2, 1) := by decide +kernel
theorem dX5_init_22 : decode cX5_init 22 = .ok (.invokestatic 9, 3) := by decide +kernel
theorem dX5_init_25 : decode cX5_init 25 = .ok (.invokespecial 15, 3) := by decide +kernel
theorem dX5_init_28 : decode cX5_init 28 = .ok (.astore 5, 2) := by decide +kernel
theorem dX5_init_30 : decode cX5_init 30 = .ok (.aload_n 0, 1) := by decide +kernel
theorem dX5_init_31 : decode cX5_init 31 = .ok (.aload 4, 2) := by decide +kernel
theorem dX5_init_33 : decode cX5_init 33 = .ok (.putfield 18, 3) := by decide +kernel
theorem dX5_init_36 : decode cX5_init 36 = .ok (.aload_n 0, 1) := by decide +kernel
theorem dX5_init_37 : decode cX5_init 37 = .ok (.aload 5, 2) := by decide +kernel
theorem dX5_init_39 : decode cX5_init 39 = .ok (.putfield 22, 3) := by decide +kernel
theorem dX5_init_42 : decode cX5_init 42 = .ok (.aload_n 0, 1) := by decide +kernel
theorem dX5_init_43 : decode cX5_init 43 = .ok (.new 25, 3) := by decide +kernel
theorem dX5_init_46 : decode cX5_init 46 = .ok (.dup, 1) := by decide +kernel
theorem dX5_init_47 : decode cX5_init 47 = .ok (.aload 4, 2) := by decide +kernel
theorem dX5_init_49 : decode cX5_init 49 = .ok (.aload 5, 2) := by decide +kernel
theorem dX5_init_51 : decode cX5_init 51 = .ok (.invokespecial 27, 3) := by decide +kernel
theorem dX5_init_54 : decode cX5_init 54 = .ok (.putfield 30, 3) := by decide +kernel
theorem dX5_init_57 : decode cX5_init 57 = .ok (.aload_n 0, 1) := by decide +kernel
theorem dX5_init_58 : decode cX5_init 58 = .ok (.new 34, 3) := by decide +kernel
theorem dX5_init_61 : decode cX5_init 61 = .ok (.dup, 1) := by decide +kernel
theorem dX5_init_62 : decode cX5_init 62 = .ok (.iload_n 3, 1) := by decide +kernel
theorem dX5_init_63 : decode cX5_init 63 = .ok (.invokestatic 9, 3) := by decide +kernel
theorem dX5_init_66 : decode cX5_init 66 = .ok (.invokespecial 36, 3) := by decide +kernel
theorem dX5_init_69 : decode cX5_init 69 = .ok (.putfield 37, 3) := by decide +kernel
theorem dX5_init_72 : decode cX5_init 72 = .ok (.aload_n 0, 1) := by decide +kernel
theorem dX5_init_73 : decode cX5_init 73 = .ok (.iconst 0, 1) := by decide +kernel
theorem dX5_init_74 : decode cX5_init 74 = .ok (.putfield 41, 3) := by decide +kernel
theorem dX5_init_77 : decode cX5_init 77 = .ok (.return_, 1) := by decide +kernel
theorem dX5_add_0 : decode cX5_add 0 = .ok (.aload_n 0, 1) := by decide +kernel
theorem dX5_add_1 : decode cX5_add 1 = .ok (.iload_n 1, 1) := by decide +kernel
theorem dX5_add_2 : decode cX5_add 2 = .ok (.invokevirtual 45, 3) := by decide +kernel
theorem dX5_add_5 : decode cX5_add 5 = .ok (.astore 4, 2) := by decide +kernel
theorem dX5_add_7 : decode cX5_add 7 = .ok (.aload 4, 2) := by decide +kernel
theorem dX5_add_9 : decode cX5_add 9 = .ok (.invokevirtual 49, 3) := by decide +kernel
theorem dX5_add_12 : decode cX5_add 12 = .ok (.invokestatic 53, 3) := by decide +kernel
theorem dX5_add_15 : decode cX5_add 15 = .ok (.aload_n 0, 1) := by decide +kernel
theorem dX5_add_16 : decode cX5_add 16 = .ok (.iconst 0, 1) := by decide +kernel
theorem dX5_add_17 : decode cX5_add 17 = .ok (.putfield 41, 3) := by decide +kernel
theorem dX5_add_20 : decode cX5_add 20 = .ok (.aload 4, 2) := by decide +kernel
theorem dX5_add_22 : decode cX5_add 22 = .ok (.iload_n 2, 1) := by decide +kernel
theorem dX5_add_23 : decode cX5_add 23 = .ok (.iload_n 3, 1) := by decide +kernel
theorem dX5_add_24 : decode cX5_add 24 = .ok (.invokevirtual 57, 3) := by decide +kernel
theorem dX5_add_27 : decode cX5_add 27 = .ok (.ireturn, 1) := by decide +kernel
theorem dX5_prepare_0 : decode cX5_prepare 0 = .ok (.aload_n 0, 1) := by decide +kernel
theorem dX5_prepare_1 : decode cX5_prepare 1 = .ok (.getfield 18, 3) := by decide +kernel
theorem dX5_prepare_4 : decode cX5_prepare 4 = .ok (.invokevirtual 61, 3) := by decide +kernel
theorem dX5_prepare_7 : decode cX5_prepare 7 = .ok (.aload_n 0, 1) := by decide +kernel
theorem dX5_prepare_8 : decode cX5_prepare 8 = .ok (.getfield 22, 3) := by decide +kernel
theorem dX5_prepare_11 : decode cX5_prepare 11 = .ok (.invokevirtual 61, 3) := by decide +kernel
theorem dX5_prepare_14 : decode cX5_prepare 14 = .ok (.aload_n 0, 1) := by decide +kernel
theorem dX5_prepare_15 : decode cX5_prepare 15 = .ok (.getfield 18, 3) := by decide +kernel
theorem dX5_prepare_18 : decode cX5_prepare 18 = .ok (.aload_n 0, 1) := by decide +kernel
theorem dX5_prepare_19 : decode cX5_prepare 19 = .ok (.getfield 22, 3) := by decide +kernel
theorem dX5_prepare_22 : decode cX5_prepare 22 = .ok (.invokevirtual 64, 3) := by decide +kernel
theorem dX5_prepare_25 : decode cX5_prepare 25 = .ok (.aload_n 0, 1) := by decide +kernel
theorem dX5_prepare_26 : decode cX5_prepare 26 = .ok (.getfield 22, 3) := by decide +kernel
theorem dX5_prepare_29 : decode cX5_prepare 29 = .ok (.aload_n 0, 1) := by decide +kernel
theorem dX5_prepare_30 : decode cX5_prepare 30 = .ok (.getfield 18, 3) := by decide +kernel
theorem dX5_prepare_33 : decode cX5_prepare 33 = .ok (.invokevirtual 64, 3) := by decide +kernel
theorem dX5_prepare_36 : decode cX5_prepare 36 = .ok (.aload_n 0, 1) := by decide +kernel
theorem dX5_prepare_37 : decode cX5_prepare 37 = .ok (.getfield 30, 3) := by decide +kernel
theorem dX5_prepare_40 : decode cX5_prepare 40 = .ok (.invokevirtual 68, 3) := by decide +kernel
theorem dX5_prepare_43 : decode cX5_prepare 43 = .ok (.aload_n 0, 1) := by decide +kernel
theorem dX5_prepare_44 : decode cX5_prepare 44 = .ok (.getfield 30, 3) := by decide +kernel
theorem dX5_prepare_47 : decode cX5_prepare 47 = .ok (.invokevirtual 71, 3) := by decide +kernel
theorem dX5_prepare_50 : decode cX5_prepare 50 = .ok (.aload_n 0, 1) := by decide +kernel
theorem dX5_prepare_51 : decode cX5_prepare 51 = .ok (.getfield 37, 3) := by decide +kernel
theorem dX5_prepare_54 : decode cX5_prepare 54 = .ok (.invokevirtual 74, 3) := by decide +kernel
theorem dX5_prepare_57 : decode cX5_prepare 57 = .ok (.aload_n 0, 1) := by decide +kernel
theorem dX5_prepare_58 : decode cX5_prepare 58 = .ok (.iconst 1, 1) := by decide +kernel
theorem dX5_prepare_59 : decode cX5_prepare 59 = .ok (.putfield 41, 3) := by decide +kernel
theorem dX5_prepare_62 : decode cX5_prepare 62 = .ok (.return_, 1) := by decide +kernel
theorem dX5_kind_0 : decode cX5_kind 0 = .ok (.iload_n 1, 1) := by decide +kernel
theorem dX5_kind_1 : decode cX5_kind 1 = .ok (.iconst 4, 1) := by decide +kernel
theorem dX5_kind_2 : decode cX5_kind 2 = .ok (.invokestatic 77, 3) := by decide +kernel
theorem dX5_kind_5 : decode cX5_kind 5 = .ok (.invokestatic 81, 3) := by decide +kernel
theorem dX5_kind_8 : decode cX5_kind 8 = .ok (.aload_n 0, 1) := by decide +kernel
theorem dX5_kind_9 : decode cX5_kind 9 = .ok (.getfield 30, 3) := by decide +kernel
theorem dX5_kind_12 : decode cX5_kind 12 = .ok (.iload_n 1, 1) := by decide +kernel
theorem dX5_kind_13 : decode cX5_kind 13 = .ok (.invokevirtual 84, 3) := by decide +kernel
theorem dX5_kind_16 : decode cX5_kind 16 = .ok (.aload_n 0, 1) := by decide +kernel
theorem dX5_kind_17 : decode cX5_kind 17 = .ok (.getfield 30, 3) := by decide +kernel
theorem dX5_kind_20 : decode cX5_kind 20 = .ok (.invokevirtual 68, 3) := by decide +kernel
theorem dX5_kind_23 : decode cX5_kind 23 = .ok (.aload_n 0, 1) := by decide +kernel
theorem dX5_kind_24 : decode cX5_kind 24 = .ok (.getfield 30, 3) := by decide +kernel
theorem dX5_kind_27 : decode cX5_kind 27 = .ok (.invokevirtual 71, 3) := by decide +kernel
theorem dX5_kind_30 : decode cX5_kind 30 = .ok (.return_, 1) := by decide +kernel
theorem dX5_next_0 : decode cX5_next 0 = .ok (.aload_n 0, 1) := by decide +kernel
theorem dX5_next_1 : decode cX5_next 1 = .ok (.getfield 41, 3) := by decide +kernel
theorem dX5_next_4 : decode cX5_next 4 = .ok (.invokestatic 53, 3) := by decide +kernel
theorem dX5_next_7 : decode cX5_next 7 = .ok (.aload_n 0, 1) := by decide +kernel
theorem dX5_next_8 : decode cX5_next 8 = .ok (.getfield 30, 3) := by decide +kernel
theorem dX5_next_11 : decode cX5_next 11 = .ok (.invokevirtual 87, 3) := by decide +kernel
theorem dX5_next_14 : decode cX5_next 14 = .ok (.ireturn, 1) := by decide +kernel
theorem dX5_pair_0 : decode cX5_pair 0 = .ok (.iload_n 1, 1) := by decide +kernel
theorem dX5_pair_1 : decode cX5_pair 1 = .ok (.iconst 5, 1) := by decide +kernel
theorem dX5_pair_2 : decode cX5_pair 2 = .ok (.invokestatic 77, 3) := by decide +kernel
theorem dX5_pair_5 : decode cX5_pair 5 = .ok (.invokestatic 81, 3) := by decide +kernel
theorem dX5_pair_8 : decode cX5_pair 8 = .ok (.aload_n 0, 1) := by decide +kernel
theorem dX5_pair_9 : decode cX5_pair 9 = .ok (.getfield 41, 3) := by decide +kernel
theorem dX5_pair_12 : decode cX5_pair 12 = .ok (.ifCond .eq 13, 3) := by decide +kernel
theorem dX5_pair_15 : decode cX5_pair 15 = .ok (.aload_n 0, 1) := by decide +kernel
theorem dX5_pair_16 : decode cX5_pair 16 = .ok (.getfield 30, 3) := by decide +kernel
theorem dX5_pair_19 : decode cX5_pair 19 = .ok (.invokevirtual 90, 3) := by decide +kernel
theorem dX5_pair_22 : decode cX5_pair 22 = .ok (.goto 4, 3) := by decide +kernel
theorem dX5_pair_25 : decode cX5_pair 25 = .ok (.iconst (-1), 1) := by decide +kernel
theorem dX5_pair_26 : decode cX5_pair 26 = .ok (.istore_n 2, 1) := by decide +kernel
theorem dX5_pair_27 : decode cX5_pair 27 = .ok (.aload_n 0, 1) := by decide +kernel
theorem dX5_pair_28 : decode cX5_pair 28 = .ok (.getfield 41, 3) := by decide +kernel
theorem dX5_pair_31 : decode cX5_pair 31 = .ok (.ifCond .eq 13, 3) := by decide +kernel
theorem dX5_pair_34 : decode cX5_pair 34 = .ok (.aload_n 0, 1) := by decide +kernel
theorem dX5_pair_35 : decode cX5_pair 35 = .ok (.getfield 30, 3) := by decide +kernel
theorem dX5_pair_38 : decode cX5_pair 38 = .ok (.invokevirtual 94, 3) := by decide +kernel
theorem dX5_pair_41 : decode cX5_pair 41 = .ok (.goto 4, 3) := by decide +kernel
theorem dX5_pair_44 : decode cX5_pair 44 = .ok (.iconst (-1), 1) := by decide +kernel
theorem dX5_pair_45 : decode cX5_pair 45 = .ok (.istore_n 3, 1) := by decide +kernel
theorem dX5_pair_46 : decode cX5_pair 46 = .ok (.iload_n 1, 1) := by decide +kernel
theorem dX5_pair_47 : decode cX5_pair 47 = .ok (.tableswitch 87 0 3 #[29, 60, 69, 78], 29) := by decide +kernel
theorem dX5_pair_76 : decode cX5_pair 76 = .ok (.aload_n 0, 1) := by decide +kernel
theorem dX5_pair_77 : decode cX5_pair 77 = .ok (.getfield 18, 3) := by decide +kernel
theorem dX5_pair_80 : decode cX5_pair 80 = .ok (.iload_n 2, 1) := by decide +kernel
theorem dX5_pair_81 : decode cX5_pair 81 = .ok (.invokevirtual 97, 3) := by decide +kernel
theorem dX5_pair_84 : decode cX5_pair 84 = .ok (.ifCond .eq 14, 3) := by decide +kernel
theorem dX5_pair_87 : decode cX5_pair 87 = .ok (.aload_n 0, 1) := by decide +kernel
theorem dX5_pair_88 : decode cX5_pair 88 = .ok (.getfield 18, 3) := by decide +kernel
theorem dX5_pair_91 : decode cX5_pair 91 = .ok (.iload_n 2, 1) := by decide +kernel
theorem dX5_pair_92 : decode cX5_pair 92 = .ok (.invokevirtual 101, 3) := by decide +kernel
theorem dX5_pair_95 : decode cX5_pair 95 = .ok (.goto 11, 3) := by decide +kernel
theorem dX5_pair_98 : decode cX5_pair 98 = .ok (.aload_n 0, 1) := by decide +kernel
theorem dX5_pair_99 : decode cX5_pair 99 = .ok (.getfield 22, 3) := by decide +kernel
theorem dX5_pair_102 : decode cX5_pair 102 = .ok (.iload_n 3, 1) := by decide +kernel
theorem dX5_pair_103 : decode cX5_pair 103 = .ok (.invokevirtual 101, 3) := by decide +kernel
theorem dX5_pair_106 : decode cX5_pair 106 = .ok (.ireturn, 1) := by decide +kernel
theorem dX5_pair_107 : decode cX5_pair 107 = .ok (.aload_n 0, 1) := by decide +kernel
theorem dX5_pair_108 : decode cX5_pair 108 = .ok (.getfield 18, 3) := by decide +kernel
theorem dX5_pair_111 : decode cX5_pair 111 = .ok (.iload_n 2, 1) := by decide +kernel
theorem dX5_pair_112 : decode cX5_pair 112 = .ok (.invokevirtual 104, 3) := by decide +kernel
theorem dX5_pair_115 : decode cX5_pair 115 = .ok (.ireturn, 1) := by decide +kernel
theorem dX5_pair_116 : decode cX5_pair 116 = .ok (.aload_n 0, 1) := by decide +kernel
theorem dX5_pair_117 : decode cX5_pair 117 = .ok (.getfield 22, 3) := by decide +kernel
theorem dX5_pair_120 : decode cX5_pair 120 = .ok (.iload_n 3, 1) := by decide +kernel
theorem dX5_pair_121 : decode cX5_pair 121 = .ok (.invokevirtual 104, 3) := by decide +kernel
theorem dX5_pair_124 : decode cX5_pair 124 = .ok (.ireturn, 1) := by decide +kernel
theorem dX5_pair_125 : decode cX5_pair 125 = .ok (.aload_n 0, 1) := by decide +kernel
theorem dX5_pair_126 : decode cX5_pair 126 = .ok (.getfield 18, 3) := by decide +kernel
theorem dX5_pair_129 : decode cX5_pair 129 = .ok (.iload_n 2, 1) := by decide +kernel
theorem dX5_pair_130 : decode cX5_pair 130 = .ok (.invokevirtual 107, 3) := by decide +kernel
theorem dX5_pair_133 : decode cX5_pair 133 = .ok (.ireturn, 1) := by decide +kernel
theorem dX5_pair_134 : decode cX5_pair 134 = .ok (.aload_n 0, 1) := by decide +kernel
theorem dX5_pair_135 : decode cX5_pair 135 = .ok (.getfield 22, 3) := by decide +kernel
theorem dX5_pair_138 : decode cX5_pair 138 = .ok (.iload_n 3, 1) := by decide +kernel
theorem dX5_pair_139 : decode cX5_pair 139 = .ok (.invokevirtual 107, 3) := by decide +kernel
theorem dX5_pair_142 : decode cX5_pair 142 = .ok (.ireturn, 1) := by decide +kernel
theorem dX5_mark_0 : decode cX5_mark 0 = .ok (.aload_n 0, 1) := by decide +kernel
theorem dX5_mark_1 : decode cX5_mark 1 = .ok (.getfield 41, 3) := by decide +kernel
theorem dX5_mark_4 : decode cX5_mark 4 = .ok (.invokestatic 53, 3) := by decide +kernel
theorem dX5_mark_7 : decode cX5_mark 7 = .ok (.aload_n 0, 1) := by decide +kernel
theorem dX5_mark_8 : decode cX5_mark 8 = .ok (.getfield 30, 3) := by decide +kernel
theorem dX5_mark_11 : decode cX5_mark 11 = .ok (.invokevirtual 110, 3) := by decide +kernel
theorem dX5_mark_14 : decode cX5_mark 14 = .ok (.ireturn, 1) := by decide +kernel
theorem dX5_back_0 : decode cX5_back 0 = .ok (.aload_n 0, 1) := by decide +kernel
theorem dX5_back_1 : decode cX5_back 1 = .ok (.getfield 41, 3) := by decide +kernel
theorem dX5_back_4 : decode cX5_back 4 = .ok (.ifCond .eq 17, 3) := by decide +kernel
theorem dX5_back_7 : decode cX5_back 7 = .ok (.aload_n 0, 1) := by decide +kernel
theorem dX5_back_8 : decode cX5_back 8 = .ok (.getfield 30, 3) := by decide +kernel
theorem dX5_back_11 : decode cX5_back 11 = .ok (.invokevirtual 113, 3) := by decide +kernel
theorem dX5_back_14 : decode cX5_back 14 = .ok (.ifCond .eq 7, 3) := by decide +kernel
theorem dX5_back_17 : decode cX5_back 17 = .ok (.iconst 1, 1) := by decide +kernel
theorem dX5_back_18 : decode cX5_back 18 = .ok (.goto 4, 3) := by decide +kernel
theorem dX5_back_21 : decode cX5_back 21 = .ok (.iconst 0, 1) := by decide +kernel
theorem dX5_back_22 : decode cX5_back 22 = .ok (.invokestatic 53, 3) := by decide +kernel
theorem dX5_back_25 : decode cX5_back 25 = .ok (.aload_n 0, 1) := by decide +kernel
theorem dX5_back_26 : decode cX5_back 26 = .ok (.getfield 30, 3) := by decide +kernel
theorem dX5_back_29 : decode cX5_back 29 = .ok (.invokevirtual 116, 3) := by decide +kernel
theorem dX5_back_32 : decode cX5_back 32 = .ok (.ireturn, 1) := by decide +kernel
theorem dX5_seek_0 : decode cX5_seek 0 = .ok (.aload_n 0, 1) := by decide +kernel
theorem dX5_seek_1 : decode cX5_seek 1 = .ok (.getfield 41, 3) := by decide +kernel
theorem dX5_seek_4 : decode cX5_seek 4 = .ok (.invokestatic 53, 3) := by decide +kernel
theorem dX5_seek_7 : decode cX5_seek 7 = .ok (.aload_n 0, 1) := by decide +kernel
theorem dX5_seek_8 : decode cX5_seek 8 = .ok (.getfield 30, 3) := by decide +kernel
theorem dX5_seek_11 : decode cX5_seek 11 = .ok (.iload_n 1, 1) := by decide +kernel
theorem dX5_seek_12 : decode cX5_seek 12 = .ok (.invokevirtual 119, 3) := by decide +kernel
theorem dX5_seek_15 : decode cX5_seek 15 = .ok (.ireturn, 1) := by decide +kernel
theorem dX5_rewind_0 : decode cX5_rewind 0 = .ok (.aload_n 0, 1) := by decide +kernel
theorem dX5_rewind_1 : decode cX5_rewind 1 = .ok (.getfield 41, 3) := by decide +kernel
theorem dX5_rewind_4 : decode cX5_rewind 4 = .ok (.invokestatic 53, 3) := by decide +kernel
theorem dX5_rewind_7 : decode cX5_rewind 7 = .ok (.aload_n 0, 1) := by decide +kernel
theorem dX5_rewind_8 : decode cX5_rewind 8 = .ok (.getfield 30, 3) := by decide +kernel
theorem dX5_rewind_11 : decode cX5_rewind 11 = .ok (.invokevirtual 68, 3) := by decide +kernel
theorem dX5_rewind_14 : decode cX5_rewind 14 = .ok (.return_, 1) := by decide +kernel
theorem dX5_count_0 : decode cX5_count 0 = .ok (.iload_n 1, 1) := by decide +kernel
theorem dX5_count_1 : decode cX5_count 1 = .ok (.iconst 4, 1) := by decide +kernel
theorem dX5_count_2 : decode cX5_count 2 = .ok (.invokestatic 77, 3) := by decide +kernel
theorem dX5_count_5 : decode cX5_count 5 = .ok (.invokestatic 81, 3) := by decide +kernel
theorem dX5_count_8 : decode cX5_count 8 = .ok (.aload_n 0, 1) := by decide +kernel
theorem dX5_count_9 : decode cX5_count 9 = .ok (.getfield 41, 3) := by decide +kernel
theorem dX5_count_12 : decode cX5_count 12 = .ok (.invokestatic 53, 3) := by decide +kernel
theorem dX5_count_15 : decode cX5_count 15 = .ok (.aload_n 0, 1) := by decide +kernel
theorem dX5_count_16 : decode cX5_count 16 = .ok (.getfield 18, 3) := by decide +kernel
theorem dX5_count_19 : decode cX5_count 19 = .ok (.aload_n 0, 1) := by decide +kernel
theorem dX5_count_20 : decode cX5_count 20 = .ok (.getfield 22, 3) := by decide +kernel
theorem dX5_count_23 : decode cX5_count 23 = .ok (.aload_n 0, 1) := by decide +kernel
theorem dX5_count_24 : decode cX5_count 24 = .ok (.getfield 18, 3) := by decide +kernel
theorem dX5_count_27 : decode cX5_count 27 = .ok (.invokevirtual 122, 3) := by decide +kernel
theorem dX5_count_30 : decode cX5_count 30 = .ok (.aload_n 0, 1) := by decide +kernel
theorem dX5_count_31 : decode cX5_count 31 = .ok (.getfield 22, 3) := by decide +kernel
theorem dX5_count_34 : decode cX5_count 34 = .ok (.invokevirtual 122, 3) := by decide +kernel
theorem dX5_count_37 : decode cX5_count 37 = .ok (.iload_n 1, 1) := by decide +kernel
theorem dX5_count_38 : decode cX5_count 38 = .ok (.invokestatic 125, 3) := by decide +kernel
theorem dX5_count_41 : decode cX5_count 41 = .ok (.i2l, 1) := by decide +kernel
theorem dX5_count_42 : decode cX5_count 42 = .ok (.lreturn, 1) := by decide +kernel
theorem dX5_rows_0 : decode cX5_rows 0 = .ok (.aload_n 0, 1) := by decide +kernel
theorem dX5_rows_1 : decode cX5_rows 1 = .ok (.getfield 41, 3) := by decide +kernel
theorem dX5_rows_4 : decode cX5_rows 4 = .ok (.invokestatic 53, 3) := by decide +kernel
theorem dX5_rows_7 : decode cX5_rows 7 = .ok (.aload_n 0, 1) := by decide +kernel
theorem dX5_rows_8 : decode cX5_rows 8 = .ok (.iload_n 1, 1) := by decide +kernel
theorem dX5_rows_9 : decode cX5_rows 9 = .ok (.invokevirtual 45, 3) := by decide +kernel
theorem dX5_rows_12 : decode cX5_rows 12 = .ok (.astore_n 3, 1) := by decide +kernel
theorem dX5_rows_13 : decode cX5_rows 13 = .ok (.aload_n 3, 1) := by decide +kernel
theorem dX5_rows_14 : decode cX5_rows 14 = .ok (.aload_n 3, 1) := by decide +kernel
theorem dX5_rows_15 : decode cX5_rows 15 = .ok (.invokevirtual 122, 3) := by decide +kernel
theorem dX5_rows_18 : decode cX5_rows 18 = .ok (.invokevirtual 129, 3) := by decide +kernel
theorem dX5_rows_21 : decode cX5_rows 21 = .ok (.istore 4, 2) := by decide +kernel
theorem dX5_rows_23 : decode cX5_rows 23 = .ok (.iload_n 2, 1) := by decide +kernel
theorem dX5_rows_24 : decode cX5_rows 24 = .ok (.ifCond .eq 13, 3) := by decide +kernel
theorem dX5_rows_27 : decode cX5_rows 27 = .ok (.aload_n 3, 1) := by decide +kernel
theorem dX5_rows_28 : decode cX5_rows 28 = .ok (.invokevirtual 122, 3) := by decide +kernel
theorem dX5_rows_31 : decode cX5_rows 31 = .ok (.iload 4, 2) := by decide +kernel
theorem dX5_rows_33 : decode cX5_rows 33 = .ok (.isub, 1) := by decide +kernel
theorem dX5_rows_34 : decode cX5_rows 34 = .ok (.goto 5, 3) := by decide +kernel
theorem dX5_rows_37 : decode cX5_rows 37 = .ok (.iload 4, 2) := by decide +kernel
theorem dX5_rows_39 : decode cX5_rows 39 = .ok (.ireturn, 1) := by decide +kernel
theorem dX5_groups_0 : decode cX5_groups 0 = .ok (.aload_n 0, 1) := by decide +kernel
theorem dX5_groups_1 : decode cX5_groups 1 = .ok (.getfield 41, 3) := by decide +kernel
theorem dX5_groups_4 : decode cX5_groups 4 = .ok (.invokestatic 53, 3) := by decide +kernel
theorem dX5_groups_7 : decode cX5_groups 7 = .ok (.aload_n 0, 1) := by decide +kernel
theorem dX5_groups_8 : decode cX5_groups 8 = .ok (.getfield 18, 3) := by decide +kernel
theorem dX5_groups_11 : decode cX5_groups 11 = .ok (.invokevirtual 132, 3) := by decide +kernel
theorem dX5_groups_14 : decode cX5_groups 14 = .ok (.aload_n 0, 1) := by decide +kernel
theorem dX5_groups_15 : decode cX5_groups 15 = .ok (.getfield 37, 3) := by decide +kernel
theorem dX5_groups_18 : decode cX5_groups 18 = .ok (.invokevirtual 135, 3) := by decide +kernel
theorem dX5_groups_21 : decode cX5_groups 21 = .ok (.if_icmp .le 13, 3) := by decide +kernel
theorem dX5_groups_24 : decode cX5_groups 24 = .ok (.new 138, 3) := by decide +kernel
theorem dX5_groups_27 : decode cX5_groups 27 = .ok (.dup, 1) := by decide +kernel
theorem dX5_groups_28 : decode cX5_groups 28 = .ok (.ldc 140, 2) := by decide +kernel
theorem dX5_groups_30 : decode cX5_groups 30 = .ok (.invokespecial 142, 3) := by decide +kernel
theorem dX5_groups_33 : decode cX5_groups 33 = .ok (.athrow, 1) := by decide +kernel
theorem dX5_groups_34 : decode cX5_groups 34 = .ok (.aload_n 0, 1) := by decide +kernel
theorem dX5_groups_35 : decode cX5_groups 35 = .ok (.getfield 37, 3) := by decide +kernel
theorem dX5_groups_38 : decode cX5_groups 38 = .ok (.aload_n 0, 1) := by decide +kernel
theorem dX5_groups_39 : decode cX5_groups 39 = .ok (.getfield 18, 3) := by decide +kernel
theorem dX5_groups_42 : decode cX5_groups 42 = .ok (.aload_n 0, 1) := by decide +kernel
theorem dX5_groups_43 : decode cX5_groups 43 = .ok (.getfield 22, 3) := by decide +kernel
theorem dX5_groups_46 : decode cX5_groups 46 = .ok (.invokevirtual 145, 3) := by decide +kernel
theorem dX5_groups_49 : decode cX5_groups 49 = .ok (.ireturn, 1) := by decide +kernel
theorem dX5_group_0 : decode cX5_group 0 = .ok (.aload_n 0, 1) := by decide +kernel
theorem dX5_group_1 : decode cX5_group 1 = .ok (.getfield 41, 3) := by decide +kernel
theorem dX5_group_4 : decode cX5_group 4 = .ok (.ifCond .eq 17, 3) := by decide +kernel
theorem dX5_group_7 : decode cX5_group 7 = .ok (.aload_n 0, 1) := by decide +kernel
theorem dX5_group_8 : decode cX5_group 8 = .ok (.getfield 37, 3) := by decide +kernel
theorem dX5_group_11 : decode cX5_group 11 = .ok (.invokevirtual 149, 3) := by decide +kernel
theorem dX5_group_14 : decode cX5_group 14 = .ok (.ifCond .eq 7, 3) := by decide +kernel
theorem dX5_group_17 : decode cX5_group 17 = .ok (.iconst 1, 1) := by decide +kernel
theorem dX5_group_18 : decode cX5_group 18 = .ok (.goto 4, 3) := by decide +kernel
theorem dX5_group_21 : decode cX5_group 21 = .ok (.iconst 0, 1) := by decide +kernel
theorem dX5_group_22 : decode cX5_group 22 = .ok (.istore_n 3, 1) := by decide +kernel
theorem dX5_group_23 : decode cX5_group 23 = .ok (.iload_n 1, 1) := by decide +kernel
theorem dX5_group_24 : decode cX5_group 24 = .ok (.ifCond .lt 30, 3) := by decide +kernel
theorem dX5_group_27 : decode cX5_group 27 = .ok (.iload_n 3, 1) := by decide +kernel
theorem dX5_group_28 : decode cX5_group 28 = .ok (.ifCond .eq 14, 3) := by decide +kernel
theorem dX5_group_31 : decode cX5_group 31 = .ok (.aload_n 0, 1) := by decide +kernel
theorem dX5_group_32 : decode cX5_group 32 = .ok (.getfield 37, 3) := by decide +kernel
theorem dX5_group_35 : decode cX5_group 35 = .ok (.iload_n 1, 1) := by decide +kernel
theorem dX5_group_36 : decode cX5_group 36 = .ok (.invokevirtual 152, 3) := by decide +kernel
theorem dX5_group_39 : decode cX5_group 39 = .ok (.ifCond .eq 15, 3) := by decide +kernel
theorem dX5_group_42 : decode cX5_group 42 = .ok (.iload_n 2, 1) := by decide +kernel
theorem dX5_group_43 : decode cX5_group 43 = .ok (.iconst 5, 1) := by decide +kernel
theorem dX5_group_44 : decode cX5_group 44 = .ok (.invokestatic 77, 3) := by decide +kernel
theorem dX5_group_47 : decode cX5_group 47 = .ok (.ifCond .eq 7, 3) := by decide +kernel
theorem dX5_group_50 : decode cX5_group 50 = .ok (.iconst 1, 1) := by decide +kernel
theorem dX5_group_51 : decode cX5_group 51 = .ok (.goto 4, 3) := by decide +kernel
theorem dX5_group_54 : decode cX5_group 54 = .ok (.iconst 0, 1) := by decide +kernel
theorem dX5_group_55 : decode cX5_group 55 = .ok (.invokestatic 81, 3) := by decide +kernel
theorem dX5_group_58 : decode cX5_group 58 = .ok (.iload_n 3, 1) := by decide +kernel
theorem dX5_group_59 : decode cX5_group 59 = .ok (.invokestatic 53, 3) := by decide +kernel
theorem dX5_group_62 : decode cX5_group 62 = .ok (.aload_n 0, 1) := by decide +kernel
theorem dX5_group_63 : decode cX5_group 63 = .ok (.getfield 37, 3) := by decide +kernel
theorem dX5_group_66 : decode cX5_group 66 = .ok (.iload_n 1, 1) := by decide +kernel
theorem dX5_group_67 : decode cX5_group 67 = .ok (.iload_n 2, 1) := by decide +kernel
theorem dX5_group_68 : decode cX5_group 68 = .ok (.invokevirtual 153, 3) := by decide +kernel
theorem dX5_group_71 : decode cX5_group 71 = .ok (.lreturn, 1) := by decide +kernel
theorem dX5_sorted_0 : decode cX5_sorted 0 = .ok (.aload_n 0, 1) := by decide +kernel
theorem dX5_sorted_1 : decode cX5_sorted 1 = .ok (.iload_n 1, 1) := by decide +kernel
theorem dX5_sorted_2 : decode cX5_sorted 2 = .ok (.invokevirtual 45, 3) := by decide +kernel
theorem dX5_sorted_5 : decode cX5_sorted 5 = .ok (.astore 4, 2) := by decide +kernel
theorem dX5_sorted_7 : decode cX5_sorted 7 = .ok (.aload 4, 2) := by decide +kernel
theorem dX5_sorted_9 : decode cX5_sorted 9 = .ok (.iload_n 2, 1) := by decide +kernel
theorem dX5_sorted_10 : decode cX5_sorted 10 = .ok (.invokevirtual 97, 3) := by decide +kernel
theorem dX5_sorted_13 : decode cX5_sorted 13 = .ok (.ifCond .eq 15, 3) := by decide +kernel
theorem dX5_sorted_16 : decode cX5_sorted 16 = .ok (.iload_n 3, 1) := by decide +kernel
theorem dX5_sorted_17 : decode cX5_sorted 17 = .ok (.iconst 3, 1) := by decide +kernel
theorem dX5_sorted_18 : decode cX5_sorted 18 = .ok (.invokestatic 77, 3) := by decide +kernel
theorem dX5_sorted_21 : decode cX5_sorted 21 = .ok (.ifCond .eq 7, 3) := by decide +kernel
theorem dX5_sorted_24 : decode cX5_sorted 24 = .ok (.iconst 1, 1) := by decide +kernel
theorem dX5_sorted_25 : decode cX5_sorted 25 = .ok (.goto 4, 3) := by decide +kernel
theorem dX5_sorted_28 : decode cX5_sorted 28 = .ok (.iconst 0, 1) := by decide +kernel
theorem dX5_sorted_29 : decode cX5_sorted 29 = .ok (.invokestatic 81, 3) := by decide +kernel
theorem dX5_sorted_32 : decode cX5_sorted 32 = .ok (.aload_n 0, 1) := by decide +kernel
theorem dX5_sorted_33 : decode cX5_sorted 33 = .ok (.getfield 41, 3) := by decide +kernel
theorem dX5_sorted_36 : decode cX5_sorted 36 = .ok (.invokestatic 53, 3) := by decide +kernel
theorem dX5_sorted_39 : decode cX5_sorted 39 = .ok (.iload_n 3, 1) := by decide +kernel
theorem dX5_sorted_40 : decode cX5_sorted 40 = .ok (.lookupswitch 42 #[(0, 28), (1, 35)], 28) := by decide +kernel
theorem dX5_sorted_68 : decode cX5_sorted 68 = .ok (.aload 4, 2) := by decide +kernel
theorem dX5_sorted_70 : decode cX5_sorted 70 = .ok (.iload_n 2, 1) := by decide +kernel
theorem dX5_sorted_71 : decode cX5_sorted 71 = .ok (.invokevirtual 101, 3) := by decide +kernel
theorem dX5_sorted_74 : decode cX5_sorted 74 = .ok (.ireturn, 1) := by decide +kernel
theorem dX5_sorted_75 : decode cX5_sorted 75 = .ok (.aload 4, 2) := by decide +kernel
theorem dX5_sorted_77 : decode cX5_sorted 77 = .ok (.iload_n 2, 1) := by decide +kernel
theorem dX5_sorted_78 : decode cX5_sorted 78 = .ok (.invokevirtual 104, 3) := by decide +kernel
theorem dX5_sorted_81 : decode cX5_sorted 81 = .ok (.ireturn, 1) := by decide +kernel
theorem dX5_sorted_82 : decode cX5_sorted 82 = .ok (.aload 4, 2) := by decide +kernel
theorem dX5_sorted_84 : decode cX5_sorted 84 = .ok (.iload_n 2, 1) := by decide +kernel
theorem dX5_sorted_85 : decode cX5_sorted 85 = .ok (.invokevirtual 107, 3) := by decide +kernel
theorem dX5_sorted_88 : decode cX5_sorted 88 = .ok (.ireturn, 1) := by decide +kernel
theorem dX5_about_0 : decode cX5_about 0 = .ok (.iload_n 1, 1) := by decide +kernel
theorem dX5_about_1 : decode cX5_about 1 = .ok (.iconst 5, 1) := by decide +kernel
theorem dX5_about_2 : decode cX5_about 2 = .ok (.invokestatic 77, 3) := by decide +kernel
theorem dX5_about_5 : decode cX5_about 5 = .ok (.invokestatic 81, 3) := by decide +kernel
theorem dX5_about_8 : decode cX5_about 8 = .ok (.iload_n 1, 1) := by decide +kernel
theorem dX5_about_9 : decode cX5_about 9 = .ok (.tableswitch 70 0 3 #[31, 39, 48, 57], 31) := by decide +kernel
theorem dX5_about_40 : decode cX5_about 40 = .ok (.aload_n 0, 1) := by decide +kernel
theorem dX5_about_41 : decode cX5_about 41 = .ok (.getfield 30, 3) := by decide +kernel
theorem dX5_about_44 : decode cX5_about 44 = .ok (.invokevirtual 157, 3) := by decide +kernel
theorem dX5_about_47 : decode cX5_about 47 = .ok (.lreturn, 1) := by decide +kernel
theorem dX5_about_48 : decode cX5_about 48 = .ok (.aload_n 0, 1) := by decide +kernel
theorem dX5_about_49 : decode cX5_about 49 = .ok (.getfield 18, 3) := by decide +kernel
theorem dX5_about_52 : decode cX5_about 52 = .ok (.invokevirtual 122, 3) := by decide +kernel
theorem dX5_about_55 : decode cX5_about 55 = .ok (.i2l, 1) := by decide +kernel
theorem dX5_about_56 : decode cX5_about 56 = .ok (.lreturn, 1) := by decide +kernel
theorem dX5_about_57 : decode cX5_about 57 = .ok (.aload_n 0, 1) := by decide +kernel
theorem dX5_about_58 : decode cX5_about 58 = .ok (.getfield 22, 3) := by decide +kernel
theorem dX5_about_61 : decode cX5_about 61 = .ok (.invokevirtual 122, 3) := by decide +kernel
theorem dX5_about_64 : decode cX5_about 64 = .ok (.i2l, 1) := by decide +kernel
theorem dX5_about_65 : decode cX5_about 65 = .ok (.lreturn, 1) := by decide +kernel
theorem dX5_about_66 : decode cX5_about 66 = .ok (.aload_n 0, 1) := by decide +kernel
theorem dX5_about_67 : decode cX5_about 67 = .ok (.getfield 41, 3) := by decide +kernel
theorem dX5_about_70 : decode cX5_about 70 = .ok (.ifCond .eq 7, 3) := by decide +kernel
theorem dX5_about_73 : decode cX5_about 73 = .ok (.lconst 1, 1) := by decide +kernel
theorem dX5_about_74 : decode cX5_about 74 = .ok (.goto 4, 3) := by decide +kernel
theorem dX5_about_77 : decode cX5_about 77 = .ok (.lconst 0, 1) := by decide +kernel
theorem dX5_about_78 : decode cX5_about 78 = .ok (.lreturn, 1) := by decide +kernel
theorem dX5_about_79 : decode cX5_about 79 = .ok (.aload_n 0, 1) := by decide +kernel
theorem dX5_about_80 : decode cX5_about 80 = .ok (.getfield 30, 3) := by decide +kernel
theorem dX5_about_83 : decode cX5_about 83 = .ok (.invokevirtual 161, 3) := by decide +kernel
theorem dX5_about_86 : decode cX5_about 86 = .ok (.i2l, 1) := by decide +kernel
theorem dX5_about_87 : decode cX5_about 87 = .ok (.lreturn, 1) := by decide +kernel
theorem dX5_clear_0 : decode cX5_clear 0 = .ok (.aload_n 0, 1) := by decide +kernel
theorem dX5_clear_1 : decode cX5_clear 1 = .ok (.getfield 18, 3) := by decide +kernel
theorem dX5_clear_4 : decode cX5_clear 4 = .ok (.invokevirtual 164, 3) := by decide +kernel
theorem dX5_clear_7 : decode cX5_clear 7 = .ok (.aload_n 0, 1) := by decide +kernel
theorem dX5_clear_8 : decode cX5_clear 8 = .ok (.getfield 22, 3) := by decide +kernel
theorem dX5_clear_11 : decode cX5_clear 11 = .ok (.invokevirtual 164, 3) := by decide +kernel
theorem dX5_clear_14 : decode cX5_clear 14 = .ok (.aload_n 0, 1) := by decide +kernel
theorem dX5_clear_15 : decode cX5_clear 15 = .ok (.getfield 30, 3) := by decide +kernel
theorem dX5_clear_18 : decode cX5_clear 18 = .ok (.iconst 0, 1) := by decide +kernel
theorem dX5_clear_19 : decode cX5_clear 19 = .ok (.invokevirtual 84, 3) := by decide +kernel
theorem dX5_clear_22 : decode cX5_clear 22 = .ok (.aload_n 0, 1) := by decide +kernel
theorem dX5_clear_23 : decode cX5_clear 23 = .ok (.iconst 0, 1) := by decide +kernel
theorem dX5_clear_24 : decode cX5_clear 24 = .ok (.putfield 41, 3) := by decide +kernel
theorem dX5_clear_27 : decode cX5_clear 27 = .ok (.return_, 1) := by decide +kernel
theorem dX5_tableOf_0 : decode cX5_tableOf 0 = .ok (.iload_n 1, 1) := by decide +kernel
theorem dX5_tableOf_1 : decode cX5_tableOf 1 = .ok (.ifCond .eq 10, 3) := by decide +kernel
theorem dX5_tableOf_4 : decode cX5_tableOf 4 = .ok (.aload_n 0, 1) := by decide +kernel
theorem dX5_tableOf_5 : decode cX5_tableOf 5 = .ok (.getfield 18, 3) := by decide +kernel
theorem dX5_tableOf_8 : decode cX5_tableOf 8 = .ok (.goto 7, 3) := by decide +kernel
theorem dX5_tableOf_11 : decode cX5_tableOf 11 = .ok (.aload_n 0, 1) := by decide +kernel
theorem dX5_tableOf_12 : decode cX5_tableOf 12 = .ok (.getfield 22, 3) := by decide +kernel
theorem dX5_tableOf_15 : decode cX5_tableOf 15 = .ok (.areturn, 1) := by decide +kernel
theorem dX5_roomFor_0 : decode cX5_roomFor 0 = .ok (.iconst 0, 1) := by decide +kernel
theorem dX5_roomFor_1 : decode cX5_roomFor 1 = .ok (.sipush 400, 3) := by decide +kernel
theorem dX5_roomFor_4 : decode cX5_roomFor 4 = .ok (.iload_n 0, 1) := by decide +kernel
theorem dX5_roomFor_5 : decode cX5_roomFor 5 = .ok (.invokestatic 167, 3) := by decide +kernel
theorem dX5_roomFor_8 : decode cX5_roomFor 8 = .ok (.invokestatic 172, 3) := by decide +kernel
theorem dX5_roomFor_11 : decode cX5_roomFor 11 = .ok (.ireturn, 1) := by decide +kernel
theorem dX5_isBelow_0 : decode cX5_isBelow 0 = .ok (.iload_n 0, 1) := by decide +kernel
theorem dX5_isBelow_1 : decode cX5_isBelow 1 = .ok (.ifCond .lt 12, 3) := by decide +kernel
theorem dX5_isBelow_4 : decode cX5_isBelow 4 = .ok (.iload_n 0, 1) := by decide +kernel
theorem dX5_isBelow_5 : decode cX5_isBelow 5 = .ok (.iload_n 1, 1) := by decide +kernel
theorem dX5_isBelow_6 : decode cX5_isBelow 6 = .ok (.if_icmp .ge 7, 3) := by decide +kernel
theorem dX5_isBelow_9 : decode cX5_isBelow 9 = .ok (.iconst 1, 1) := by decide +kernel
theorem dX5_isBelow_10 : decode cX5_isBelow 10 = .ok (.goto 4, 3) := by decide +kernel
theorem dX5_isBelow_13 : decode cX5_isBelow 13 = .ok (.iconst 0, 1) := by decide +kernel
theorem dX5_isBelow_14 : decode cX5_isBelow 14 = .ok (.ireturn, 1) := by decide +kernel
theorem dX5_requireArgument_0 : decode cX5_requireArgument 0 = .ok (.iload_n 0, 1) := by decide +kernel
theorem dX5_requireArgument_1 : decode cX5_requireArgument 1 = .ok (.ifCond .ne 13, 3) := by decide +kernel
theorem dX5_requireArgument_4 : decode cX5_requireArgument 4 = .ok (.new 175, 3) := by decide +kernel
theorem dX5_requireArgument_7 : decode cX5_requireArgument 7 = .ok (.dup, 1) := by decide +kernel
theorem dX5_requireArgument_8 : decode cX5_requireArgument 8 = .ok (.ldc 177, 2) := by decide +kernel
theorem dX5_requireArgument_10 : decode cX5_requireArgument 10 = .ok (.invokespecial 179, 3) := by decide +kernel
theorem dX5_requireArgument_13 : decode cX5_requireArgument 13 = .ok (.athrow, 1) := by decide +kernel
theorem dX5_requireArgument_14 : decode cX5_requireArgument 14 = .ok (.return_, 1) := by decide +kernel
theorem dX5_requireState_0 : decode cX5_requireState 0 = .ok (.iload_n 0, 1) := by decide +kernel
theorem dX5_requireState_1 : decode cX5_requireState 1 = .ok (.ifCond .ne 13, 3) := by decide +kernel
theorem dX5_requireState_4 : decode cX5_requireState 4 = .ok (.new 180, 3) := by decide +kernel
theorem dX5_requireState_7 : decode cX5_requireState 7 = .ok (.dup, 1) := by decide +kernel
theorem dX5_requireState_8 : decode cX5_requireState 8 = .ok (.ldc 182, 2) := by decide +kernel
theorem dX5_requireState_10 : decode cX5_requireState 10 = .ok (.invokespecial 184, 3) := by decide +kernel
theorem dX5_requireState_13 : decode cX5_requireState 13 = .ok (.athrow, 1) := by decide +kernel
theorem dX5_requireState_14 : decode cX5_requireState 14 = .ok (.return_, 1) := by decide +kernel
theorem dX5_pairsBefore_0 : decode cX5_pairsBefore 0 = .ok (.aload_n 0, 1) := by decide +kernel
theorem dX5_pairsBefore_1 : decode cX5_pairsBefore 1 = .ok (.iload_n 2, 1) := by decide +kernel
theorem dX5_pairsBefore_2 : decode cX5_pairsBefore 2 = .ok (.invokevirtual 185, 3) := by decide +kernel
theorem dX5_pairsBefore_5 : decode cX5_pairsBefore 5 = .ok (.istore 5, 2) := by decide +kernel
theorem dX5_pairsBefore_7 : decode cX5_pairsBefore 7 = .ok (.iload 4, 2) := by decide +kernel
theorem dX5_pairsBefore_9 : decode cX5_pairsBefore 9 = .ok (.iconst 1, 1) := by decide +kernel
theorem dX5_pairsBefore_10 : decode cX5_pairsBefore 10 = .ok (.iand, 1) := by decide +kernel
theorem dX5_pairsBefore_11 : decode cX5_pairsBefore 11 = .ok (.ifCond .eq 13, 3) := by decide +kernel
theorem dX5_pairsBefore_14 : decode cX5_pairsBefore 14 = .ok (.iload 5, 2) := by decide +kernel
theorem dX5_pairsBefore_16 : decode cX5_pairsBefore 16 = .ok (.aload_n 0, 1) := by decide +kernel
theorem dX5_pairsBefore_17 : decode cX5_pairsBefore 17 = .ok (.iload_n 2, 1) := by decide +kernel
theorem dX5_pairsBefore_18 : decode cX5_pairsBefore 18 = .ok (.invokevirtual 129, 3) := by decide +kernel
theorem dX5_pairsBefore_21 : decode cX5_pairsBefore 21 = .ok (.iadd, 1) := by decide +kernel
theorem dX5_pairsBefore_22 : decode cX5_pairsBefore 22 = .ok (.istore 5, 2) := by decide +kernel
theorem dX5_pairsBefore_24 : decode cX5_pairsBefore 24 = .ok (.iload 4, 2) := by decide +kernel
theorem dX5_pairsBefore_26 : decode cX5_pairsBefore 26 = .ok (.iconst 2, 1) := by decide +kernel
theorem dX5_pairsBefore_27 : decode cX5_pairsBefore 27 = .ok (.iand, 1) := by decide +kernel
theorem dX5_pairsBefore_28 : decode cX5_pairsBefore 28 = .ok (.ifCond .eq 13, 3) := by decide +kernel
theorem dX5_pairsBefore_31 : decode cX5_pairsBefore 31 = .ok (.iload 5, 2) := by decide +kernel
theorem dX5_pairsBefore_33 : decode cX5_pairsBefore 33 = .ok (.aload_n 1, 1) := by decide +kernel
theorem dX5_pairsBefore_34 : decode cX5_pairsBefore 34 = .ok (.iload_n 3, 1) := by decide +kernel
theorem dX5_pairsBefore_35 : decode cX5_pairsBefore 35 = .ok (.invokevirtual 129, 3) := by decide +kernel
theorem dX5_pairsBefore_38 : decode cX5_pairsBefore 38 = .ok (.iadd, 1) := by decide +kernel
theorem dX5_pairsBefore_39 : decode cX5_pairsBefore 39 = .ok (.istore 5, 2) := by decide +kernel
theorem dX5_pairsBefore_41 : decode cX5_pairsBefore 41 = .ok (.iload 5, 2) := by decide +kernel
theorem dX5_pairsBefore_43 : decode cX5_pairsBefore 43 = .ok (.ireturn, 1) := by decide +kernel
end
section
theorem dX6_init_0 : decode cX6_init 0 = .ok (.aload_n 0, 1) := by decide +kernel
theorem dX6_init_1 : decode cX6_init 1 = .ok (.invokespecial 1, 3) := by decide +kernel
theorem dX6_init_4 : decode cX6_init 4 = .ok (.aload_n 0, 1) := by decide +kernel
theorem dX6_init_5 : decode cX6_init 5 = .ok (.iconst 2, 1) := by decide +kernel
theorem dX6_init_6 : decode cX6_init 6 = .ok (.newarray .int, 2) := by decide +kernel
theorem dX6_init_8 : decode cX6_init 8 = .ok (.putfield 7, 3) := by decide +kernel
theorem dX6_init_11 : decode cX6_init 11 = .ok (.aload_n 0, 1) := by decide +kernel
theorem dX6_init_12 : decode cX6_init 12 = .ok (.sipush 800, 3) := by decide +kernel
theorem dX6_init_15 : decode cX6_init 15 = .ok (.newarray .int, 2) := by decide +kernel
theorem dX6_init_17 : decode cX6_init 17 = .ok (.putfield 13, 3) := by decide +kernel
theorem dX6_init_20 : decode cX6_init 20 = .ok (.aload_n 0, 1) := by decide +kernel
theorem dX6_init_21 : decode cX6_init 21 = .ok (.sipush 800, 3) := by decide +kernel
theorem dX6_init_24 : decode cX6_init 24 = .ok (.newarray .int, 2) := by decide +kernel
theorem dX6_init_26 : decode cX6_init 26 = .ok (.putfield 16, 3) := by decide +kernel
theorem dX6_init_29 : decode cX6_init 29 = .ok (.aload_n 0, 1) := by decide +kernel
theorem dX6_init_30 : decode cX6_init 30 = .ok (.sipush 800, 3) := by decide +kernel
theorem dX6_init_33 : decode cX6_init 33 = .ok (.newarray .int, 2) := by decide +kernel
theorem dX6_init_35 : decode cX6_init 35 = .ok (.putfield 19, 3) := by decide +kernel
theorem dX6_init_38 : decode cX6_init 38 = .ok (.aload_n 0, 1) := by decide +kernel
theorem dX6_init_39 : decode cX6_init 39 = .ok (.iconst 2, 1) := by decide +kernel
theorem dX6_init_40 : decode cX6_init 40 = .ok (.newarray .int, 2) := by decide +kernel
theorem dX6_init_42 : decode cX6_init 42 = .ok (.putfield 22, 3) := by decide +kernel
theorem dX6_init_45 : decode cX6_init 45 = .ok (.aload_n 0, 1) := by decide +kernel
theorem dX6_init_46 : decode cX6_init 46 = .ok (.bipush 24, 2) := by decide +kernel
theorem dX6_init_48 : decode cX6_init 48 = .ok (.newarray .int, 2) := by decide +kernel
theorem dX6_init_50 : decode cX6_init 50 = .ok (.putfield 25, 3) := by decide +kernel
theorem dX6_init_53 : decode cX6_init 53 = .ok (.aload_n 0, 1) := by decide +kernel
theorem dX6_init_54 : decode cX6_init 54 = .ok (.getfield 7, 3) := by decide +kernel
theorem dX6_init_57 : decode cX6_init 57 = .ok (.iconst 0, 1) := by decide +kernel
theorem dX6_init_58 : decode cX6_init 58 = .ok (.iload_n 1, 1) := by decide +kernel
theorem dX6_init_59 : decode cX6_init 59 = .ok (.invokestatic 28, 3) := by decide +kernel
theorem dX6_init_62 : decode cX6_init 62 = .ok (.iastore, 1) := by decide +kernel
theorem dX6_init_63 : decode cX6_init 63 = .ok (.aload_n 0, 1) := by decide +kernel
theorem dX6_init_64 : decode cX6_init 64 = .ok (.getfield 7, 3) := by decide +kernel
theorem dX6_init_67 : decode cX6_init 67 = .ok (.iconst 1, 1) := by decide +kernel
theorem dX6_init_68 : decode cX6_init 68 = .ok (.iload_n 2, 1) := by decide +kernel
theorem dX6_init_69 : decode cX6_init 69 = .ok (.invokestatic 28, 3) := by decide +kernel
theorem dX6_init_72 : decode cX6_init 72 = .ok (.iastore, 1) := by decide +kernel
theorem dX6_init_73 : decode cX6_init 73 = .ok (.aload_n 0, 1) := by decide +kernel
theorem dX6_init_74 : decode cX6_init 74 = .ok (.iload_n 3, 1) := by decide +kernel
theorem dX6_init_75 : decode cX6_init 75 = .ok (.invokestatic 28, 3) := by decide +kernel
theorem dX6_init_78 : decode cX6_init 78 = .ok (.putfield 32, 3) := by decide +kernel
theorem dX6_init_81 : decode cX6_init 81 = .ok (.return_, 1) := by decide +kernel
theorem dX6_between_0 : decode cX6_between 0 = .ok (.iload_n 0, 1) := by decide +kernel
theorem dX6_between_1 : decode cX6_between 1 = .ok (.ifCond .ge 7, 3) := by decide +kernel
theorem dX6_between_4 : decode cX6_between 4 = .ok (.iconst 0, 1) := by decide +kernel
theorem dX6_between_5 : decode cX6_between 5 = .ok (.goto 17, 3) := by decide +kernel
theorem dX6_between_8 : decode cX6_between 8 = .ok (.iload_n 0, 1) := by decide +kernel
theorem dX6_between_9 : decode cX6_between 9 = .ok (.sipush 400, 3) := by decide +kernel
theorem dX6_between_12 : decode cX6_between 12 = .ok (.if_icmp .le 9, 3) := by decide +kernel
theorem dX6_between_15 : decode cX6_between 15 = .ok (.sipush 400, 3) := by decide +kernel
theorem dX6_between_18 : decode cX6_between 18 = .ok (.goto 4, 3) := by decide +kernel
theorem dX6_between_21 : decode cX6_between 21 = .ok (.iload_n 0, 1) := by decide +kernel
theorem dX6_between_22 : decode cX6_between 22 = .ok (.ireturn, 1) := by decide +kernel
theorem dX6_thrown_0 : decode cX6_thrown 0 = .ok (.aload_n 0, 1) := by decide +kernel
theorem dX6_thrown_1 : decode cX6_thrown 1 = .ok (.getfield 36, 3) := by decide +kernel
theorem dX6_thrown_4 : decode cX6_thrown 4 = .ok (.ireturn, 1) := by decide +kernel
theorem dX6_refuses_0 : decode cX6_refuses 0 = .ok (.aload_n 0, 1) := by decide +kernel
theorem dX6_refuses_1 : decode cX6_refuses 1 = .ok (.iload_n 1, 1) := by decide +kernel
theorem dX6_refuses_2 : decode cX6_refuses 2 = .ok (.putfield 36, 3) := by decide +kernel
theorem dX6_refuses_5 : decode cX6_refuses 5 = .ok (.iload_n 1, 1) := by decide +kernel
theorem dX6_refuses_6 : decode cX6_refuses 6 = .ok (.ifCond .le 7, 3) := by decide +kernel
theorem dX6_refuses_9 : decode cX6_refuses 9 = .ok (.iconst 1, 1) := by decide +kernel
theorem dX6_refuses_10 : decode cX6_refuses 10 = .ok (.goto 4, 3) := by decide +kernel
theorem dX6_refuses_13 : decode cX6_refuses 13 = .ok (.iconst 0, 1) := by decide +kernel
theorem dX6_refuses_14 : decode cX6_refuses 14 = .ok (.ireturn, 1) := by decide +kernel
theorem dX6_key_0 : decode cX6_key 0 = .ok (.aload_n 0, 1) := by decide +kernel
theorem dX6_key_1 : decode cX6_key 1 = .ok (.getfield 13, 3) := by decide +kernel
theorem dX6_key_4 : decode cX6_key 4 = .ok (.sipush 400, 3) := by decide +kernel
theorem dX6_key_7 : decode cX6_key 7 = .ok (.iload_n 1, 1) := by decide +kernel
theorem dX6_key_8 : decode cX6_key 8 = .ok (.imul, 1) := by decide +kernel
theorem dX6_key_9 : decode cX6_key 9 = .ok (.aload_n 0, 1) := by decide +kernel
theorem dX6_key_10 : decode cX6_key 10 = .ok (.getfield 19, 3) := by decide +kernel
theorem dX6_key_13 : decode cX6_key 13 = .ok (.sipush 400, 3) := by decide +kernel
theorem dX6_key_16 : decode cX6_key 16 = .ok (.iload_n 1, 1) := by decide +kernel
theorem dX6_key_17 : decode cX6_key 17 = .ok (.imul, 1) := by decide +kernel
theorem dX6_key_18 : decode cX6_key 18 = .ok (.iload_n 2, 1) := by decide +kernel
theorem dX6_key_19 : decode cX6_key 19 = .ok (.iadd, 1) := by decide +kernel
theorem dX6_key_20 : decode cX6_key 20 = .ok (.iaload, 1) := by decide +kernel
theorem dX6_key_21 : decode cX6_key 21 = .ok (.iadd, 1) := by decide +kernel
theorem dX6_key_22 : decode cX6_key 22 = .ok (.iaload, 1) := by decide +kernel
theorem dX6_key_23 : decode cX6_key 23 = .ok (.ireturn, 1) := by decide +kernel
theorem dX6_value_0 : decode cX6_value 0 = .ok (.aload_n 0, 1) := by decide +kernel
theorem dX6_value_1 : decode cX6_value 1 = .ok (.getfield 16, 3) := by decide +kernel
theorem dX6_value_4 : decode cX6_value 4 = .ok (.sipush 400, 3) := by decide +kernel
theorem dX6_value_7 : decode cX6_value 7 = .ok (.iload_n 1, 1) := by decide +kernel
theorem dX6_value_8 : decode cX6_value 8 = .ok (.imul, 1) := by decide +kernel
theorem dX6_value_9 : decode cX6_value 9 = .ok (.aload_n 0, 1) := by decide +kernel
theorem dX6_value_10 : decode cX6_value 10 = .ok (.getfield 19, 3) := by decide +kernel
theorem dX6_value_13 : decode cX6_value 13 = .ok (.sipush 400, 3) := by decide +kernel
theorem dX6_value_16 : decode cX6_value 16 = .ok (.iload_n 1, 1) := by decide +kernel
theorem dX6_value_17 : decode cX6_value 17 = .ok (.imul, 1) := by decide +kernel
theorem dX6_value_18 : decode cX6_value 18 = .ok (.iload_n 2, 1) := by decide +kernel
theorem dX6_value_19 : decode cX6_value 19 = .ok (.iadd, 1) := by decide +kernel
theorem dX6_value_20 : decode cX6_value 20 = .ok (.iaload, 1) := by decide +kernel
theorem dX6_value_21 : decode cX6_value 21 = .ok (.iadd, 1) := by decide +kernel
theorem dX6_value_22 : decode cX6_value 22 = .ok (.iaload, 1) := by decide +kernel
theorem dX6_value_23 : decode cX6_value 23 = .ok (.ireturn, 1) := by decide +kernel
theorem dX6_begins_0 : decode cX6_begins 0 = .ok (.iconst 0, 1) := by decide +kernel
theorem dX6_begins_1 : decode cX6_begins 1 = .ok (.istore_n 1, 1) := by decide +kernel
theorem dX6_begins_2 : decode cX6_begins 2 = .ok (.iload_n 1, 1) := by decide +kernel
theorem dX6_begins_3 : decode cX6_begins 3 = .ok (.bipush 12, 2) := by decide +kernel
theorem dX6_begins_5 : decode cX6_begins 5 = .ok (.if_icmp .ge 16, 3) := by decide +kernel
theorem dX6_begins_8 : decode cX6_begins 8 = .ok (.aload_n 0, 1) := by decide +kernel
theorem dX6_begins_9 : decode cX6_begins 9 = .ok (.getfield 25, 3) := by decide +kernel
theorem dX6_begins_12 : decode cX6_begins 12 = .ok (.iload_n 1, 1) := by decide +kernel
theorem dX6_begins_13 : decode cX6_begins 13 = .ok (.iconst 0, 1) := by decide +kernel
theorem dX6_begins_14 : decode cX6_begins 14 = .ok (.iastore, 1) := by decide +kernel
theorem dX6_begins_15 : decode cX6_begins 15 = .ok (.iinc 1 1, 3) := by decide +kernel
theorem dX6_begins_18 : decode cX6_begins 18 = .ok (.goto (-16), 3) := by decide +kernel
theorem dX6_begins_21 : decode cX6_begins 21 = .ok (.return_, 1) := by decide +kernel
theorem dX6_add_0 : decode cX6_add 0 = .ok (.iload_n 1, 1) := by decide +kernel
theorem dX6_add_1 : decode cX6_add 1 = .ok (.ifCond .eq 7, 3) := by decide +kernel
theorem dX6_add_4 : decode cX6_add 4 = .ok (.iconst 0, 1) := by decide +kernel
theorem dX6_add_5 : decode cX6_add 5 = .ok (.goto 4, 3) := by decide +kernel
theorem dX6_add_8 : decode cX6_add 8 = .ok (.iconst 1, 1) := by decide +kernel
theorem dX6_add_9 : decode cX6_add 9 = .ok (.istore 4, 2) := by decide +kernel
theorem dX6_add_11 : decode cX6_add 11 = .ok (.aload_n 0, 1) := by decide +kernel
theorem dX6_add_12 : decode cX6_add 12 = .ok (.aload_n 0, 1) := by decide +kernel
theorem dX6_add_13 : decode cX6_add 13 = .ok (.getfield 22, 3) := by decide +kernel
theorem dX6_add_16 : decode cX6_add 16 = .ok (.iload 4, 2) := by decide +kernel
theorem dX6_add_18 : decode cX6_add 18 = .ok (.iaload, 1) := by decide +kernel
theorem dX6_add_19 : decode cX6_add 19 = .ok (.aload_n 0, 1) := by decide +kernel
theorem dX6_add_20 : decode cX6_add 20 = .ok (.getfield 7, 3) := by decide +kernel
theorem dX6_add_23 : decode cX6_add 23 = .ok (.iload 4, 2) := by decide +kernel
theorem dX6_add_25 : decode cX6_add 25 = .ok (.iaload, 1) := by decide +kernel
theorem dX6_add_26 : decode cX6_add 26 = .ok (.if_icmp .ne 7, 3) := by decide +kernel
theorem dX6_add_29 : decode cX6_add 29 = .ok (.iconst 1, 1) := by decide +kernel
theorem dX6_add_30 : decode cX6_add 30 = .ok (.goto 4, 3) := by decide +kernel
theorem dX6_add_33 : decode cX6_add 33 = .ok (.iconst 0, 1) := by decide +kernel
theorem dX6_add_34 : decode cX6_add 34 = .ok (.invokevirtual 39, 3) := by decide +kernel
theorem dX6_add_37 : decode cX6_add 37 = .ok (.ifCond .eq 5, 3) := by decide +kernel
theorem dX6_add_40 : decode cX6_add 40 = .ok (.iconst 0, 1) := by decide +kernel
theorem dX6_add_41 : decode cX6_add 41 = .ok (.ireturn, 1) := by decide +kernel
theorem dX6_add_42 : decode cX6_add 42 = .ok (.aload_n 0, 1) := by decide +kernel
theorem dX6_add_43 : decode cX6_add 43 = .ok (.getfield 22, 3) := by decide +kernel
theorem dX6_add_46 : decode cX6_add 46 = .ok (.iload 4, 2) := by decide +kernel
theorem dX6_add_48 : decode cX6_add 48 = .ok (.iaload, 1) := by decide +kernel
theorem dX6_add_49 : decode cX6_add 49 = .ok (.istore 5, 2) := by decide +kernel
theorem dX6_add_51 : decode cX6_add 51 = .ok (.aload_n 0, 1) := by decide +kernel
theorem dX6_add_52 : decode cX6_add 52 = .ok (.getfield 13, 3) := by decide +kernel
theorem dX6_add_55 : decode cX6_add 55 = .ok (.sipush 400, 3) := by decide +kernel
theorem dX6_add_58 : decode cX6_add 58 = .ok (.iload 4, 2) := by decide +kernel
theorem dX6_add_60 : decode cX6_add 60 = .ok (.imul, 1) := by decide +kernel
theorem dX6_add_61 : decode cX6_add 61 = .ok (.iload 5, 2) := by decide +kernel
theorem dX6_add_63 : decode cX6_add 63 = .ok (.iadd, 1) := by decide +kernel
theorem dX6_add_64 : decode cX6_add 64 = .ok (.iload_n 2, 1) := by decide +kernel
theorem dX6_add_65 : decode cX6_add 65 = .ok (.iastore, 1) := by decide +kernel
theorem dX6_add_66 : decode cX6_add 66 = .ok (.aload_n 0, 1) := by decide +kernel
theorem dX6_add_67 : decode cX6_add 67 = .ok (.getfield 16, 3) := by decide +kernel
theorem dX6_add_70 : decode cX6_add 70 = .ok (.sipush 400, 3) := by decide +kernel
theorem dX6_add_73 : decode cX6_add 73 = .ok (.iload 4, 2) := by decide +kernel
theorem dX6_add_75 : decode cX6_add 75 = .ok (.imul, 1) := by decide +kernel
theorem dX6_add_76 : decode cX6_add 76 = .ok (.iload 5, 2) := by decide +kernel
theorem dX6_add_78 : decode cX6_add 78 = .ok (.iadd, 1) := by decide +kernel
theorem dX6_add_79 : decode cX6_add 79 = .ok (.iload_n 3, 1) := by decide +kernel
theorem dX6_add_80 : decode cX6_add 80 = .ok (.iastore, 1) := by decide +kernel
theorem dX6_add_81 : decode cX6_add 81 = .ok (.aload_n 0, 1) := by decide +kernel
theorem dX6_add_82 : decode cX6_add 82 = .ok (.getfield 22, 3) := by decide +kernel
theorem dX6_add_85 : decode cX6_add 85 = .ok (.iload 4, 2) := by decide +kernel
theorem dX6_add_87 : decode cX6_add 87 = .ok (.dup2, 1) := by decide +kernel
theorem dX6_add_88 : decode cX6_add 88 = .ok (.iaload, 1) := by decide +kernel
theorem dX6_add_89 : decode cX6_add 89 = .ok (.iconst 1, 1) := by decide +kernel
theorem dX6_add_90 : decode cX6_add 90 = .ok (.iadd, 1) := by decide +kernel
theorem dX6_add_91 : decode cX6_add 91 = .ok (.iastore, 1) := by decide +kernel
theorem dX6_add_92 : decode cX6_add 92 = .ok (.aload_n 0, 1) := by decide +kernel
theorem dX6_add_93 : decode cX6_add 93 = .ok (.iconst 0, 1) := by decide +kernel
theorem dX6_add_94 : decode cX6_add 94 = .ok (.putfield 43, 3) := by decide +kernel
theorem dX6_add_97 : decode cX6_add 97 = .ok (.aload_n 0, 1) := by decide +kernel
theorem dX6_add_98 : decode cX6_add 98 = .ok (.iconst 0, 1) := by decide +kernel
theorem dX6_add_99 : decode cX6_add 99 = .ok (.putfield 47, 3) := by decide +kernel
theorem dX6_add_102 : decode cX6_add 102 = .ok (.iload 5, 2) := by decide +kernel
theorem dX6_add_104 : decode cX6_add 104 = .ok (.ireturn, 1) := by decide +kernel
theorem dX6_prepare_0 : decode cX6_prepare 0 = .ok (.aload_n 0, 1) := by decide +kernel
theorem dX6_prepare_1 : decode cX6_prepare 1 = .ok (.iconst 0, 1) := by decide +kernel
theorem dX6_prepare_2 : decode cX6_prepare 2 = .ok (.putfield 36, 3) := by decide +kernel
theorem dX6_prepare_5 : decode cX6_prepare 5 = .ok (.iconst 0, 1) := by decide +kernel
theorem dX6_prepare_6 : decode cX6_prepare 6 = .ok (.istore_n 1, 1) := by decide +kernel
theorem dX6_prepare_7 : decode cX6_prepare 7 = .ok (.iload_n 1, 1) := by decide +kernel
theorem dX6_prepare_8 : decode cX6_prepare 8 = .ok (.iconst 2, 1) := by decide +kernel
theorem dX6_prepare_9 : decode cX6_prepare 9 = .ok (.if_icmp .ge 118, 3) := by decide +kernel
theorem dX6_prepare_12 : decode cX6_prepare 12 = .ok (.iconst 0, 1) := by decide +kernel
theorem dX6_prepare_13 : decode cX6_prepare 13 = .ok (.istore_n 2, 1) := by decide +kernel
theorem dX6_prepare_14 : decode cX6_prepare 14 = .ok (.iload_n 2, 1) := by decide +kernel
theorem dX6_prepare_15 : decode cX6_prepare 15 = .ok (.aload_n 0, 1) := by decide +kernel
theorem dX6_prepare_16 : decode cX6_prepare 16 = .ok (.getfield 22, 3) := by decide +kernel
theorem dX6_prepare_19 : decode cX6_prepare 19 = .ok (.iload_n 1, 1) := by decide +kernel
theorem dX6_prepare_20 : decode cX6_prepare 20 = .ok (.iaload, 1) := by decide +kernel
theorem dX6_prepare_21 : decode cX6_prepare 21 = .ok (.if_icmp .ge 100, 3) := by decide +kernel
theorem dX6_prepare_24 : decode cX6_prepare 24 = .ok (.iload_n 2, 1) := by decide +kernel
theorem dX6_prepare_25 : decode cX6_prepare 25 = .ok (.istore_n 3, 1) := by decide +kernel
theorem dX6_prepare_26 : decode cX6_prepare 26 = .ok (.iload_n 3, 1) := by decide +kernel
theorem dX6_prepare_27 : decode cX6_prepare 27 = .ok (.ifCond .le 75, 3) := by decide +kernel
theorem dX6_prepare_30 : decode cX6_prepare 30 = .ok (.aload_n 0, 1) := by decide +kernel
theorem dX6_prepare_31 : decode cX6_prepare 31 = .ok (.getfield 13, 3) := by decide +kernel
theorem dX6_prepare_34 : decode cX6_prepare 34 = .ok (.sipush 400, 3) := by decide +kernel
theorem dX6_prepare_37 : decode cX6_prepare 37 = .ok (.iload_n 1, 1) := by decide +kernel
theorem dX6_prepare_38 : decode cX6_prepare 38 = .ok (.imul, 1) := by decide +kernel
theorem dX6_prepare_39 : decode cX6_prepare 39 = .ok (.aload_n 0, 1) := by decide +kernel
theorem dX6_prepare_40 : decode cX6_prepare 40 = .ok (.getfield 19, 3) := by decide +kernel
theorem dX6_prepare_43 : decode cX6_prepare 43 = .ok (.sipush 400, 3) := by decide +kernel
theorem dX6_prepare_46 : decode cX6_prepare 46 = .ok (.iload_n 1, 1) := by decide +kernel
theorem dX6_prepare_47 : decode cX6_prepare 47 = .ok (.imul, 1) := by decide +kernel
theorem dX6_prepare_48 : decode cX6_prepare 48 = .ok (.iload_n 3, 1) := by decide +kernel
theorem dX6_prepare_49 : decode cX6_prepare 49 = .ok (.iadd, 1) := by decide +kernel
theorem dX6_prepare_50 : decode cX6_prepare 50 = .ok (.iconst 1, 1) := by decide +kernel
theorem dX6_prepare_51 : decode cX6_prepare 51 = .ok (.isub, 1) := by decide +kernel
theorem dX6_prepare_52 : decode cX6_prepare 52 = .ok (.iaload, 1) := by decide +kernel
theorem dX6_prepare_53 : decode cX6_prepare 53 = .ok (.iadd, 1) := by decide +kernel
theorem dX6_prepare_54 : decode cX6_prepare 54 = .ok (.iaload, 1) := by decide +kernel
theorem dX6_prepare_55 : decode cX6_prepare 55 = .ok (.aload_n 0, 1) := by decide +kernel
theorem dX6_prepare_56 : decode cX6_prepare 56 = .ok (.getfield 13, 3) := by decide +kernel
theorem dX6_prepare_59 : decode cX6_prepare 59 = .ok (.sipush 400, 3) := by decide +kernel
theorem dX6_prepare_62 : decode cX6_prepare 62 = .ok (.iload_n 1, 1) := by decide +kernel
theorem dX6_prepare_63 : decode cX6_prepare 63 = .ok (.imul, 1) := by decide +kernel
theorem dX6_prepare_64 : decode cX6_prepare 64 = .ok (.iload_n 2, 1) := by decide +kernel
theorem dX6_prepare_65 : decode cX6_prepare 65 = .ok (.iadd, 1) := by decide +kernel
theorem dX6_prepare_66 : decode cX6_prepare 66 = .ok (.iaload, 1) := by decide +kernel
theorem dX6_prepare_67 : decode cX6_prepare 67 = .ok (.if_icmp .le 35, 3) := by decide +kernel
theorem dX6_prepare_70 : decode cX6_prepare 70 = .ok (.aload_n 0, 1) := by decide +kernel
theorem dX6_prepare_71 : decode cX6_prepare 71 = .ok (.getfield 19, 3) := by decide +kernel
theorem dX6_prepare_74 : decode cX6_prepare 74 = .ok (.sipush 400, 3) := by decide +kernel
theorem dX6_prepare_77 : decode cX6_prepare 77 = .ok (.iload_n 1, 1) := by decide +kernel
theorem dX6_prepare_78 : decode cX6_prepare 78 = .ok (.imul, 1) := by decide +kernel
theorem dX6_prepare_79 : decode cX6_prepare 79 = .ok (.iload_n 3, 1) := by decide +kernel
theorem dX6_prepare_80 : decode cX6_prepare 80 = .ok (.iadd, 1) := by decide +kernel
theorem dX6_prepare_81 : decode cX6_prepare 81 = .ok (.aload_n 0, 1) := by decide +kernel
theorem dX6_prepare_82 : decode cX6_prepare 82 = .ok (.getfield 19, 3) := by decide +kernel
theorem dX6_prepare_85 : decode cX6_prepare 85 = .ok (.sipush 400, 3) := by decide +kernel
theorem dX6_prepare_88 : decode cX6_prepare 88 = .ok (.iload_n 1, 1) := by decide +kernel
theorem dX6_prepare_89 : decode cX6_prepare 89 = .ok (.imul, 1) := by decide +kernel
theorem dX6_prepare_90 : decode cX6_prepare 90 = .ok (.iload_n 3, 1) := by decide +kernel
theorem dX6_prepare_91 : decode cX6_prepare 91 = .ok (.iadd, 1) := by decide +kernel
theorem dX6_prepare_92 : decode cX6_prepare 92 = .ok (.iconst 1, 1) := by decide +kernel
theorem dX6_prepare_93 : decode cX6_prepare 93 = .ok (.isub, 1) := by decide +kernel
theorem dX6_prepare_94 : decode cX6_prepare 94 = .ok (.iaload, 1) := by decide +kernel
theorem dX6_prepare_95 : decode cX6_prepare 95 = .ok (.iastore, 1) := by decide +kernel
theorem dX6_prepare_96 : decode cX6_prepare 96 = .ok (.iinc 3 (-1), 3) := by decide +kernel
theorem dX6_prepare_99 : decode cX6_prepare 99 = .ok (.goto (-73), 3) := by decide +kernel
theorem dX6_prepare_102 : decode cX6_prepare 102 = .ok (.aload_n 0, 1) := by decide +kernel
theorem dX6_prepare_103 : decode cX6_prepare 103 = .ok (.getfield 19, 3) := by decide +kernel
theorem dX6_prepare_106 : decode cX6_prepare 106 = .ok (.sipush 400, 3) := by decide +kernel
theorem dX6_prepare_109 : decode cX6_prepare 109 = .ok (.iload_n 1, 1) := by decide +kernel
theorem dX6_prepare_110 : decode cX6_prepare 110 = .ok (.imul, 1) := by decide +kernel
theorem dX6_prepare_111 : decode cX6_prepare 111 = .ok (.iload_n 3, 1) := by decide +kernel
theorem dX6_prepare_112 : decode cX6_prepare 112 = .ok (.iadd, 1) := by decide +kernel
theorem dX6_prepare_113 : decode cX6_prepare 113 = .ok (.iload_n 2, 1) := by decide +kernel
theorem dX6_prepare_114 : decode cX6_prepare 114 = .ok (.iastore, 1) := by decide +kernel
theorem dX6_prepare_115 : decode cX6_prepare 115 = .ok (.iinc 2 1, 3) := by decide +kernel
theorem dX6_prepare_118 : decode cX6_prepare 118 = .ok (.goto (-104), 3) := by decide +kernel
theorem dX6_prepare_121 : decode cX6_prepare 121 = .ok (.iinc 1 1, 3) := by decide +kernel
theorem dX6_prepare_124 : decode cX6_prepare 124 = .ok (.goto (-117), 3) := by decide +kernel
theorem dX6_prepare_127 : decode cX6_prepare 127 = .ok (.aload_n 0, 1) := by decide +kernel
theorem dX6_prepare_128 : decode cX6_prepare 128 = .ok (.invokevirtual 50, 3) := by decide +kernel
theorem dX6_prepare_131 : decode cX6_prepare 131 = .ok (.aload_n 0, 1) := by decide +kernel
theorem dX6_prepare_132 : decode cX6_prepare 132 = .ok (.lconst 0, 1) := by decide +kernel
theorem dX6_prepare_133 : decode cX6_prepare 133 = .ok (.putfield 53, 3) := by decide +kernel
theorem dX6_prepare_136 : decode cX6_prepare 136 = .ok (.aload_n 0, 1) := by decide +kernel
theorem dX6_prepare_137 : decode cX6_prepare 137 = .ok (.iconst 0, 1) := by decide +kernel
theorem dX6_prepare_138 : decode cX6_prepare 138 = .ok (.putfield 57, 3) := by decide +kernel
theorem dX6_prepare_141 : decode cX6_prepare 141 = .ok (.aload_n 0, 1) := by decide +kernel
theorem dX6_prepare_142 : decode cX6_prepare 142 = .ok (.iconst 0, 1) := by decide +kernel
theorem dX6_prepare_143 : decode cX6_prepare 143 = .ok (.putfield 47, 3) := by decide +kernel
theorem dX6_prepare_146 : decode cX6_prepare 146 = .ok (.aload_n 0, 1) := by decide +kernel
theorem dX6_prepare_147 : decode cX6_prepare 147 = .ok (.iconst 1, 1) := by decide +kernel
theorem dX6_prepare_148 : decode cX6_prepare 148 = .ok (.putfield 43, 3) := by decide +kernel
theorem dX6_prepare_151 : decode cX6_prepare 151 = .ok (.return_, 1) := by decide +kernel
theorem dX6_kind_0 : decode cX6_kind 0 = .ok (.aload_n 0, 1) := by decide +kernel
theorem dX6_kind_1 : decode cX6_kind 1 = .ok (.iload_n 1, 1) := by decide +kernel
theorem dX6_kind_2 : decode cX6_kind 2 = .ok (.ifCond .lt 8, 3) := by decide +kernel
theorem dX6_kind_5 : decode cX6_kind 5 = .ok (.iload_n 1, 1) := by decide +kernel
theorem dX6_kind_6 : decode cX6_kind 6 = .ok (.iconst 3, 1) := by decide +kernel
theorem dX6_kind_7 : decode cX6_kind 7 = .ok (.if_icmp .le 7, 3) := by decide +kernel
theorem dX6_kind_10 : decode cX6_kind 10 = .ok (.iconst 1, 1) := by decide +kernel
theorem dX6_kind_11 : decode cX6_kind 11 = .ok (.goto 4, 3) := by decide +kernel
theorem dX6_kind_14 : decode cX6_kind 14 = .ok (.iconst 0, 1) := by decide +kernel
theorem dX6_kind_15 : decode cX6_kind 15 = .ok (.invokevirtual 39, 3) := by decide +kernel
theorem dX6_kind_18 : decode cX6_kind 18 = .ok (.ifCond .eq 4, 3) := by decide +kernel
theorem dX6_kind_21 : decode cX6_kind 21 = .ok (.return_, 1) := by decide +kernel
theorem dX6_kind_22 : decode cX6_kind 22 = .ok (.aload_n 0, 1) := by decide +kernel
theorem dX6_kind_23 : decode cX6_kind 23 = .ok (.iload_n 1, 1) := by decide +kernel
theorem dX6_kind_24 : decode cX6_kind 24 = .ok (.putfield 60, 3) := by decide +kernel
theorem dX6_kind_27 : decode cX6_kind 27 = .ok (.aload_n 0, 1) := by decide +kernel
theorem dX6_kind_28 : decode cX6_kind 28 = .ok (.invokevirtual 50, 3) := by decide +kernel
theorem dX6_kind_31 : decode cX6_kind 31 = .ok (.aload_n 0, 1) := by decide +kernel
theorem dX6_kind_32 : decode cX6_kind 32 = .ok (.lconst 0, 1) := by decide +kernel
theorem dX6_kind_33 : decode cX6_kind 33 = .ok (.putfield 53, 3) := by decide +kernel
theorem dX6_kind_36 : decode cX6_kind 36 = .ok (.aload_n 0, 1) := by decide +kernel
theorem dX6_kind_37 : decode cX6_kind 37 = .ok (.iconst 0, 1) := by decide +kernel
theorem dX6_kind_38 : decode cX6_kind 38 = .ok (.putfield 57, 3) := by decide +kernel
theorem dX6_kind_41 : decode cX6_kind 41 = .ok (.return_, 1) := by decide +kernel
theorem dX6_tells_0 : decode cX6_tells 0 = .ok (.iload_n 1, 1) := by decide +kernel
theorem dX6_tells_1 : decode cX6_tells 1 = .ok (.ifCond .eq 14, 3) := by decide +kernel
theorem dX6_tells_4 : decode cX6_tells 4 = .ok (.iload_n 0, 1) := by decide +kernel
theorem dX6_tells_5 : decode cX6_tells 5 = .ok (.iload_n 1, 1) := by decide +kernel
theorem dX6_tells_6 : decode cX6_tells 6 = .ok (.iconst 1, 1) := by decide +kernel
theorem dX6_tells_7 : decode cX6_tells 7 = .ok (.isub, 1) := by decide +kernel
theorem dX6_tells_8 : decode cX6_tells 8 = .ok (.ishr, 1) := by decide +kernel
theorem dX6_tells_9 : decode cX6_tells 9 = .ok (.iconst 1, 1) := by decide +kernel
theorem dX6_tells_10 : decode cX6_tells 10 = .ok (.iand, 1) := by decide +kernel
theorem dX6_tells_11 : decode cX6_tells 11 = .ok (.iconst 1, 1) := by decide +kernel
theorem dX6_tells_12 : decode cX6_tells 12 = .ok (.if_icmp .ne 7, 3) := by decide +kernel
theorem dX6_tells_15 : decode cX6_tells 15 = .ok (.iconst 1, 1) := by decide +kernel
theorem dX6_tells_16 : decode cX6_tells 16 = .ok (.goto 4, 3) := by decide +kernel
theorem dX6_tells_19 : decode cX6_tells 19 = .ok (.iconst 0, 1) := by decide +kernel
theorem dX6_tells_20 : decode cX6_tells 20 = .ok (.ireturn, 1) := by decide +kernel
theorem dX6_goes_0 : decode cX6_goes 0 = .ok (.aload_n 0, 1) := by decide +kernel
theorem dX6_goes_1 : decode cX6_goes 1 = .ok (.getfield 25, 3) := by decide +kernel
theorem dX6_goes_4 : decode cX6_goes 4 = .ok (.iconst 0, 1) := by decide +kernel
theorem dX6_goes_5 : decode cX6_goes 5 = .ok (.iload_n 1, 1) := by decide +kernel
theorem dX6_goes_6 : decode cX6_goes 6 = .ok (.iadd, 1) := by decide +kernel
theorem dX6_goes_7 : decode cX6_goes 7 = .ok (.iaload, 1) := by decide +kernel
theorem dX6_goes_8 : decode cX6_goes 8 = .ok (.istore_n 2, 1) := by decide +kernel
theorem dX6_goes_9 : decode cX6_goes 9 = .ok (.iload_n 2, 1) := by decide +kernel
theorem dX6_goes_10 : decode cX6_goes 10 = .ok (.iconst 1, 1) := by decide +kernel
theorem dX6_goes_11 : decode cX6_goes 11 = .ok (.iadd, 1) := by decide +kernel
theorem dX6_goes_12 : decode cX6_goes 12 = .ok (.istore_n 3, 1) := by decide +kernel
theorem dX6_goes_13 : decode cX6_goes 13 = .ok (.aload_n 0, 1) := by decide +kernel
theorem dX6_goes_14 : decode cX6_goes 14 = .ok (.dup, 1) := by decide +kernel
theorem dX6_goes_15 : decode cX6_goes 15 = .ok (.getfield 53, 3) := by decide +kernel
theorem dX6_goes_18 : decode cX6_goes 18 = .ok (.lconst 1, 1) := by decide +kernel
theorem dX6_goes_19 : decode cX6_goes 19 = .ok (.ladd, 1) := by decide +kernel
theorem dX6_goes_20 : decode cX6_goes 20 = .ok (.putfield 53, 3) := by decide +kernel
theorem dX6_goes_23 : decode cX6_goes 23 = .ok (.iload_n 3, 1) := by decide +kernel
theorem dX6_goes_24 : decode cX6_goes 24 = .ok (.aload_n 0, 1) := by decide +kernel
theorem dX6_goes_25 : decode cX6_goes 25 = .ok (.getfield 22, 3) := by decide +kernel
theorem dX6_goes_28 : decode cX6_goes 28 = .ok (.iload_n 1, 1) := by decide +kernel
theorem dX6_goes_29 : decode cX6_goes 29 = .ok (.iaload, 1) := by decide +kernel
theorem dX6_goes_30 : decode cX6_goes 30 = .ok (.if_icmp .ge 34, 3) := by decide +kernel
theorem dX6_goes_33 : decode cX6_goes 33 = .ok (.aload_n 0, 1) := by decide +kernel
theorem dX6_goes_34 : decode cX6_goes 34 = .ok (.iload_n 1, 1) := by decide +kernel
theorem dX6_goes_35 : decode cX6_goes 35 = .ok (.iload_n 3, 1) := by decide +kernel
theorem dX6_goes_36 : decode cX6_goes 36 = .ok (.invokevirtual 63, 3) := by decide +kernel
theorem dX6_goes_39 : decode cX6_goes 39 = .ok (.aload_n 0, 1) := by decide +kernel
theorem dX6_goes_40 : decode cX6_goes 40 = .ok (.iload_n 1, 1) := by decide +kernel
theorem dX6_goes_41 : decode cX6_goes 41 = .ok (.iload_n 2, 1) := by decide +kernel
theorem dX6_goes_42 : decode cX6_goes 42 = .ok (.invokevirtual 63, 3) := by decide +kernel
theorem dX6_goes_45 : decode cX6_goes 45 = .ok (.if_icmp .ne 19, 3) := by decide +kernel
theorem dX6_goes_48 : decode cX6_goes 48 = .ok (.iinc 3 1, 3) := by decide +kernel
theorem dX6_goes_51 : decode cX6_goes 51 = .ok (.aload_n 0, 1) := by decide +kernel
theorem dX6_goes_52 : decode cX6_goes 52 = .ok (.dup, 1) := by decide +kernel
theorem dX6_goes_53 : decode cX6_goes 53 = .ok (.getfield 53, 3) := by decide +kernel
theorem dX6_goes_56 : decode cX6_goes 56 = .ok (.lconst 1, 1) := by decide +kernel
theorem dX6_goes_57 : decode cX6_goes 57 = .ok (.ladd, 1) := by decide +kernel
theorem dX6_goes_58 : decode cX6_goes 58 = .ok (.putfield 53, 3) := by decide +kernel
theorem dX6_goes_61 : decode cX6_goes 61 = .ok (.goto (-38), 3) := by decide +kernel
theorem dX6_goes_64 : decode cX6_goes 64 = .ok (.aload_n 0, 1) := by decide +kernel
theorem dX6_goes_65 : decode cX6_goes 65 = .ok (.dup, 1) := by decide +kernel
theorem dX6_goes_66 : decode cX6_goes 66 = .ok (.getfield 53, 3) := by decide +kernel
theorem dX6_goes_69 : decode cX6_goes 69 = .ok (.iload_n 3, 1) := by decide +kernel
theorem dX6_goes_70 : decode cX6_goes 70 = .ok (.aload_n 0, 1) := by decide +kernel
theorem dX6_goes_71 : decode cX6_goes 71 = .ok (.getfield 22, 3) := by decide +kernel
theorem dX6_goes_74 : decode cX6_goes 74 = .ok (.iload_n 1, 1) := by decide +kernel
theorem dX6_goes_75 : decode cX6_goes 75 = .ok (.iaload, 1) := by decide +kernel
theorem dX6_goes_76 : decode cX6_goes 76 = .ok (.if_icmp .ge 7, 3) := by decide +kernel
theorem dX6_goes_79 : decode cX6_goes 79 = .ok (.lconst 1, 1) := by decide +kernel
theorem dX6_goes_80 : decode cX6_goes 80 = .ok (.goto 4, 3) := by decide +kernel
theorem dX6_goes_83 : decode cX6_goes 83 = .ok (.lconst 0, 1) := by decide +kernel
theorem dX6_goes_84 : decode cX6_goes 84 = .ok (.ladd, 1) := by decide +kernel
theorem dX6_goes_85 : decode cX6_goes 85 = .ok (.putfield 53, 3) := by decide +kernel
theorem dX6_goes_88 : decode cX6_goes 88 = .ok (.aload_n 0, 1) := by decide +kernel
theorem dX6_goes_89 : decode cX6_goes 89 = .ok (.getfield 25, 3) := by decide +kernel
theorem dX6_goes_92 : decode cX6_goes 92 = .ok (.iconst 2, 1) := by decide +kernel
theorem dX6_goes_93 : decode cX6_goes 93 = .ok (.iload_n 1, 1) := by decide +kernel
theorem dX6_goes_94 : decode cX6_goes 94 = .ok (.iadd, 1) := by decide +kernel
theorem dX6_goes_95 : decode cX6_goes 95 = .ok (.iload_n 2, 1) := by decide +kernel
theorem dX6_goes_96 : decode cX6_goes 96 = .ok (.iastore, 1) := by decide +kernel
theorem dX6_goes_97 : decode cX6_goes 97 = .ok (.aload_n 0, 1) := by decide +kernel
theorem dX6_goes_98 : decode cX6_goes 98 = .ok (.getfield 25, 3) := by decide +kernel
theorem dX6_goes_101 : decode cX6_goes 101 = .ok (.iconst 4, 1) := by decide +kernel
theorem dX6_goes_102 : decode cX6_goes 102 = .ok (.iload_n 1, 1) := by decide +kernel
theorem dX6_goes_103 : decode cX6_goes 103 = .ok (.iadd, 1) := by decide +kernel
theorem dX6_goes_104 : decode cX6_goes 104 = .ok (.iload_n 3, 1) := by decide +kernel
theorem dX6_goes_105 : decode cX6_goes 105 = .ok (.iastore, 1) := by decide +kernel
theorem dX6_goes_106 : decode cX6_goes 106 = .ok (.aload_n 0, 1) := by decide +kernel
theorem dX6_goes_107 : decode cX6_goes 107 = .ok (.getfield 25, 3) := by decide +kernel
theorem dX6_goes_110 : decode cX6_goes 110 = .ok (.bipush 6, 2) := by decide +kernel
theorem dX6_goes_112 : decode cX6_goes 112 = .ok (.iload_n 1, 1) := by decide +kernel
theorem dX6_goes_113 : decode cX6_goes 113 = .ok (.iadd, 1) := by decide +kernel
theorem dX6_goes_114 : decode cX6_goes 114 = .ok (.iload_n 2, 1) := by decide +kernel
theorem dX6_goes_115 : decode cX6_goes 115 = .ok (.iastore, 1) := by decide +kernel
theorem dX6_goes_116 : decode cX6_goes 116 = .ok (.aload_n 0, 1) := by decide +kernel
theorem dX6_goes_117 : decode cX6_goes 117 = .ok (.getfield 25, 3) := by decide +kernel
theorem dX6_goes_120 : decode cX6_goes 120 = .ok (.iconst 0, 1) := by decide +kernel
theorem dX6_goes_121 : decode cX6_goes 121 = .ok (.iload_n 1, 1) := by decide +kernel
theorem dX6_goes_122 : decode cX6_goes 122 = .ok (.iadd, 1) := by decide +kernel
theorem dX6_goes_123 : decode cX6_goes 123 = .ok (.iload_n 3, 1) := by decide +kernel
theorem dX6_goes_124 : decode cX6_goes 124 = .ok (.iastore, 1) := by decide +kernel
theorem dX6_goes_125 : decode cX6_goes 125 = .ok (.return_, 1) := by decide +kernel
theorem dX6_steps_0 : decode cX6_steps 0 = .ok (.aload_n 0, 1) := by decide +kernel
theorem dX6_steps_1 : decode cX6_steps 1 = .ok (.getfield 25, 3) := by decide +kernel
theorem dX6_steps_4 : decode cX6_steps 4 = .ok (.bipush 8, 2) := by decide +kernel
theorem dX6_steps_6 : decode cX6_steps 6 = .ok (.iaload, 1) := by decide +kernel
theorem dX6_steps_7 : decode cX6_steps 7 = .ok (.istore_n 1, 1) := by decide +kernel
theorem dX6_steps_8 : decode cX6_steps 8 = .ok (.iload_n 1, 1) := by decide +kernel
theorem dX6_steps_9 : decode cX6_steps 9 = .ok (.ifCond .eq 48, 3) := by decide +kernel
theorem dX6_steps_12 : decode cX6_steps 12 = .ok (.aload_n 0, 1) := by decide +kernel
theorem dX6_steps_13 : decode cX6_steps 13 = .ok (.getfield 25, 3) := by decide +kernel
theorem dX6_steps_16 : decode cX6_steps 16 = .ok (.bipush 6, 2) := by decide +kernel
theorem dX6_steps_18 : decode cX6_steps 18 = .ok (.iload_n 1, 1) := by decide +kernel
theorem dX6_steps_19 : decode cX6_steps 19 = .ok (.iadd, 1) := by decide +kernel
theorem dX6_steps_20 : decode cX6_steps 20 = .ok (.iconst 1, 1) := by decide +kernel
theorem dX6_steps_21 : decode cX6_steps 21 = .ok (.isub, 1) := by decide +kernel
theorem dX6_steps_22 : decode cX6_steps 22 = .ok (.dup2, 1) := by decide +kernel
theorem dX6_steps_23 : decode cX6_steps 23 = .ok (.iaload, 1) := by decide +kernel
theorem dX6_steps_24 : decode cX6_steps 24 = .ok (.iconst 1, 1) := by decide +kernel
theorem dX6_steps_25 : decode cX6_steps 25 = .ok (.iadd, 1) := by decide +kernel
theorem dX6_steps_26 : decode cX6_steps 26 = .ok (.iastore, 1) := by decide +kernel
theorem dX6_steps_27 : decode cX6_steps 27 = .ok (.aload_n 0, 1) := by decide +kernel
theorem dX6_steps_28 : decode cX6_steps 28 = .ok (.getfield 25, 3) := by decide +kernel
theorem dX6_steps_31 : decode cX6_steps 31 = .ok (.bipush 6, 2) := by decide +kernel
theorem dX6_steps_33 : decode cX6_steps 33 = .ok (.iload_n 1, 1) := by decide +kernel
theorem dX6_steps_34 : decode cX6_steps 34 = .ok (.iadd, 1) := by decide +kernel
theorem dX6_steps_35 : decode cX6_steps 35 = .ok (.iconst 1, 1) := by decide +kernel
theorem dX6_steps_36 : decode cX6_steps 36 = .ok (.isub, 1) := by decide +kernel
theorem dX6_steps_37 : decode cX6_steps 37 = .ok (.iaload, 1) := by decide +kernel
theorem dX6_steps_38 : decode cX6_steps 38 = .ok (.aload_n 0, 1) := by decide +kernel
theorem dX6_steps_39 : decode cX6_steps 39 = .ok (.getfield 25, 3) := by decide +kernel
theorem dX6_steps_42 : decode cX6_steps 42 = .ok (.iconst 4, 1) := by decide +kernel
theorem dX6_steps_43 : decode cX6_steps 43 = .ok (.iload_n 1, 1) := by decide +kernel
theorem dX6_steps_44 : decode cX6_steps 44 = .ok (.iadd, 1) := by decide +kernel
theorem dX6_steps_45 : decode cX6_steps 45 = .ok (.iconst 1, 1) := by decide +kernel
theorem dX6_steps_46 : decode cX6_steps 46 = .ok (.isub, 1) := by decide +kernel
theorem dX6_steps_47 : decode cX6_steps 47 = .ok (.iaload, 1) := by decide +kernel
theorem dX6_steps_48 : decode cX6_steps 48 = .ok (.if_icmp .ge 7, 3) := by decide +kernel
theorem dX6_steps_51 : decode cX6_steps 51 = .ok (.iconst 1, 1) := by decide +kernel
theorem dX6_steps_52 : decode cX6_steps 52 = .ok (.goto 4, 3) := by decide +kernel
theorem dX6_steps_55 : decode cX6_steps 55 = .ok (.iconst 0, 1) := by decide +kernel
theorem dX6_steps_56 : decode cX6_steps 56 = .ok (.ireturn, 1) := by decide +kernel
theorem dX6_steps_57 : decode cX6_steps 57 = .ok (.aload_n 0, 1) := by decide +kernel
theorem dX6_steps_58 : decode cX6_steps 58 = .ok (.getfield 25, 3) := by decide +kernel
theorem dX6_steps_61 : decode cX6_steps 61 = .ok (.bipush 7, 2) := by decide +kernel
theorem dX6_steps_63 : decode cX6_steps 63 = .ok (.dup2, 1) := by decide +kernel
theorem dX6_steps_64 : decode cX6_steps 64 = .ok (.iaload, 1) := by decide +kernel
theorem dX6_steps_65 : decode cX6_steps 65 = .ok (.iconst 1, 1) := by decide +kernel
theorem dX6_steps_66 : decode cX6_steps 66 = .ok (.iadd, 1) := by decide +kernel
theorem dX6_steps_67 : decode cX6_steps 67 = .ok (.iastore, 1) := by decide +kernel
theorem dX6_steps_68 : decode cX6_steps 68 = .ok (.aload_n 0, 1) := by decide +kernel
theorem dX6_steps_69 : decode cX6_steps 69 = .ok (.getfield 25, 3) := by decide +kernel
theorem dX6_steps_72 : decode cX6_steps 72 = .ok (.bipush 7, 2) := by decide +kernel
theorem dX6_steps_74 : decode cX6_steps 74 = .ok (.iaload, 1) := by decide +kernel
theorem dX6_steps_75 : decode cX6_steps 75 = .ok (.aload_n 0, 1) := by decide +kernel
theorem dX6_steps_76 : decode cX6_steps 76 = .ok (.getfield 25, 3) := by decide +kernel
theorem dX6_steps_79 : decode cX6_steps 79 = .ok (.iconst 5, 1) := by decide +kernel
theorem dX6_steps_80 : decode cX6_steps 80 = .ok (.iaload, 1) := by decide +kernel
theorem dX6_steps_81 : decode cX6_steps 81 = .ok (.if_icmp .ne 27, 3) := by decide +kernel
theorem dX6_steps_84 : decode cX6_steps 84 = .ok (.aload_n 0, 1) := by decide +kernel
theorem dX6_steps_85 : decode cX6_steps 85 = .ok (.getfield 25, 3) := by decide +kernel
theorem dX6_steps_88 : decode cX6_steps 88 = .ok (.bipush 7, 2) := by decide +kernel
theorem dX6_steps_90 : decode cX6_steps 90 = .ok (.aload_n 0, 1) := by decide +kernel
theorem dX6_steps_91 : decode cX6_steps 91 = .ok (.getfield 25, 3) := by decide +kernel
theorem dX6_steps_94 : decode cX6_steps 94 = .ok (.iconst 3, 1) := by decide +kernel
theorem dX6_steps_95 : decode cX6_steps 95 = .ok (.iaload, 1) := by decide +kernel
theorem dX6_steps_96 : decode cX6_steps 96 = .ok (.iastore, 1) := by decide +kernel
theorem dX6_steps_97 : decode cX6_steps 97 = .ok (.aload_n 0, 1) := by decide +kernel
theorem dX6_steps_98 : decode cX6_steps 98 = .ok (.getfield 25, 3) := by decide +kernel
theorem dX6_steps_101 : decode cX6_steps 101 = .ok (.bipush 6, 2) := by decide +kernel
theorem dX6_steps_103 : decode cX6_steps 103 = .ok (.dup2, 1) := by decide +kernel
theorem dX6_steps_104 : decode cX6_steps 104 = .ok (.iaload, 1) := by decide +kernel
theorem dX6_steps_105 : decode cX6_steps 105 = .ok (.iconst 1, 1) := by decide +kernel
theorem dX6_steps_106 : decode cX6_steps 106 = .ok (.iadd, 1) := by decide +kernel
theorem dX6_steps_107 : decode cX6_steps 107 = .ok (.iastore, 1) := by decide +kernel
theorem dX6_steps_108 : decode cX6_steps 108 = .ok (.aload_n 0, 1) := by decide +kernel
theorem dX6_steps_109 : decode cX6_steps 109 = .ok (.getfield 25, 3) := by decide +kernel
theorem dX6_steps_112 : decode cX6_steps 112 = .ok (.bipush 6, 2) := by decide +kernel
theorem dX6_steps_114 : decode cX6_steps 114 = .ok (.iaload, 1) := by decide +kernel
theorem dX6_steps_115 : decode cX6_steps 115 = .ok (.aload_n 0, 1) := by decide +kernel
theorem dX6_steps_116 : decode cX6_steps 116 = .ok (.getfield 25, 3) := by decide +kernel
theorem dX6_steps_119 : decode cX6_steps 119 = .ok (.iconst 4, 1) := by decide +kernel
theorem dX6_steps_120 : decode cX6_steps 120 = .ok (.iaload, 1) := by decide +kernel
theorem dX6_steps_121 : decode cX6_steps 121 = .ok (.if_icmp .ge 7, 3) := by decide +kernel
theorem dX6_steps_124 : decode cX6_steps 124 = .ok (.iconst 1, 1) := by decide +kernel
theorem dX6_steps_125 : decode cX6_steps 125 = .ok (.goto 4, 3) := by decide +kernel
theorem dX6_steps_128 : decode cX6_steps 128 = .ok (.iconst 0, 1) := by decide +kernel
theorem dX6_steps_129 : decode cX6_steps 129 = .ok (.ireturn, 1) := by decide +kernel
theorem dX6_next_0 : decode cX6_next 0 = .ok (.aload_n 0, 1) := by decide +kernel
theorem dX6_next_1 : decode cX6_next 1 = .ok (.aload_n 0, 1) := by decide +kernel
theorem dX6_next_2 : decode cX6_next 2 = .ok (.getfield 43, 3) := by decide +kernel
theorem dX6_next_5 : decode cX6_next 5 = .ok (.ifCond .eq 7, 3) := by decide +kernel
theorem dX6_next_8 : decode cX6_next 8 = .ok (.iconst 0, 1) := by decide +kernel
theorem dX6_next_9 : decode cX6_next 9 = .ok (.goto 4, 3) := by decide +kernel
theorem dX6_next_12 : decode cX6_next 12 = .ok (.iconst 1, 1) := by decide +kernel
theorem dX6_next_13 : decode cX6_next 13 = .ok (.invokevirtual 39, 3) := by decide +kernel
theorem dX6_next_16 : decode cX6_next 16 = .ok (.ifCond .eq 5, 3) := by decide +kernel
theorem dX6_next_19 : decode cX6_next 19 = .ok (.iconst 0, 1) := by decide +kernel
theorem dX6_next_20 : decode cX6_next 20 = .ok (.ireturn, 1) := by decide +kernel
theorem dX6_next_21 : decode cX6_next 21 = .ok (.aload_n 0, 1) := by decide +kernel
theorem dX6_next_22 : decode cX6_next 22 = .ok (.getfield 25, 3) := by decide +kernel
theorem dX6_next_25 : decode cX6_next 25 = .ok (.bipush 9, 2) := by decide +kernel
theorem dX6_next_27 : decode cX6_next 27 = .ok (.iaload, 1) := by decide +kernel
theorem dX6_next_28 : decode cX6_next 28 = .ok (.iconst 1, 1) := by decide +kernel
theorem dX6_next_29 : decode cX6_next 29 = .ok (.if_icmp .ne 23, 3) := by decide +kernel
theorem dX6_next_32 : decode cX6_next 32 = .ok (.aload_n 0, 1) := by decide +kernel
theorem dX6_next_33 : decode cX6_next 33 = .ok (.invokevirtual 67, 3) := by decide +kernel
theorem dX6_next_36 : decode cX6_next 36 = .ok (.ifCond .eq 16, 3) := by decide +kernel
theorem dX6_next_39 : decode cX6_next 39 = .ok (.aload_n 0, 1) := by decide +kernel
theorem dX6_next_40 : decode cX6_next 40 = .ok (.getfield 25, 3) := by decide +kernel
theorem dX6_next_43 : decode cX6_next 43 = .ok (.bipush 10, 2) := by decide +kernel
theorem dX6_next_45 : decode cX6_next 45 = .ok (.dup2, 1) := by decide +kernel
theorem dX6_next_46 : decode cX6_next 46 = .ok (.iaload, 1) := by decide +kernel
theorem dX6_next_47 : decode cX6_next 47 = .ok (.iconst 1, 1) := by decide +kernel
theorem dX6_next_48 : decode cX6_next 48 = .ok (.iadd, 1) := by decide +kernel
theorem dX6_next_49 : decode cX6_next 49 = .ok (.iastore, 1) := by decide +kernel
theorem dX6_next_50 : decode cX6_next 50 = .ok (.iconst 1, 1) := by decide +kernel
theorem dX6_next_51 : decode cX6_next 51 = .ok (.ireturn, 1) := by decide +kernel
theorem dX6_next_52 : decode cX6_next 52 = .ok (.aload_n 0, 1) := by decide +kernel
theorem dX6_next_53 : decode cX6_next 53 = .ok (.getfield 25, 3) := by decide +kernel
theorem dX6_next_56 : decode cX6_next 56 = .ok (.bipush 9, 2) := by decide +kernel
theorem dX6_next_58 : decode cX6_next 58 = .ok (.iconst 0, 1) := by decide +kernel
theorem dX6_next_59 : decode cX6_next 59 = .ok (.iastore, 1) := by decide +kernel
theorem dX6_next_60 : decode cX6_next 60 = .ok (.aload_n 0, 1) := by decide +kernel
theorem dX6_next_61 : decode cX6_next 61 = .ok (.getfield 25, 3) := by decide +kernel
theorem dX6_next_64 : decode cX6_next 64 = .ok (.iconst 0, 1) := by decide +kernel
theorem dX6_next_65 : decode cX6_next 65 = .ok (.iaload, 1) := by decide +kernel
theorem dX6_next_66 : decode cX6_next 66 = .ok (.aload_n 0, 1) := by decide +kernel
theorem dX6_next_67 : decode cX6_next 67 = .ok (.getfield 22, 3) := by decide +kernel
theorem dX6_next_70 : decode cX6_next 70 = .ok (.iconst 0, 1) := by decide +kernel
theorem dX6_next_71 : decode cX6_next 71 = .ok (.iaload, 1) := by decide +kernel
theorem dX6_next_72 : decode cX6_next 72 = .ok (.if_icmp .lt 18, 3) := by decide +kernel
theorem dX6_next_75 : decode cX6_next 75 = .ok (.aload_n 0, 1) := by decide +kernel
theorem dX6_next_76 : decode cX6_next 76 = .ok (.getfield 25, 3) := by decide +kernel
theorem dX6_next_79 : decode cX6_next 79 = .ok (.iconst 1, 1) := by decide +kernel
theorem dX6_next_80 : decode cX6_next 80 = .ok (.iaload, 1) := by decide +kernel
theorem dX6_next_81 : decode cX6_next 81 = .ok (.aload_n 0, 1) := by decide +kernel
theorem dX6_next_82 : decode cX6_next 82 = .ok (.getfield 22, 3) := by decide +kernel
theorem dX6_next_85 : decode cX6_next 85 = .ok (.iconst 1, 1) := by decide +kernel
theorem dX6_next_86 : decode cX6_next 86 = .ok (.iaload, 1) := by decide +kernel
theorem dX6_next_87 : decode cX6_next 87 = .ok (.if_icmp .ge 201, 3) := by decide +kernel
theorem dX6_next_90 : decode cX6_next 90 = .ok (.aload_n 0, 1) := by decide +kernel
theorem dX6_next_91 : decode cX6_next 91 = .ok (.getfield 25, 3) := by decide +kernel
theorem dX6_next_94 : decode cX6_next 94 = .ok (.iconst 0, 1) := by decide +kernel
theorem dX6_next_95 : decode cX6_next 95 = .ok (.iaload, 1) := by decide +kernel
theorem dX6_next_96 : decode cX6_next 96 = .ok (.aload_n 0, 1) := by decide +kernel
theorem dX6_next_97 : decode cX6_next 97 = .ok (.getfield 22, 3) := by decide +kernel
theorem dX6_next_100 : decode cX6_next 100 = .ok (.iconst 0, 1) := by decide +kernel
theorem dX6_next_101 : decode cX6_next 101 = .ok (.iaload, 1) := by decide +kernel
theorem dX6_next_102 : decode cX6_next 102 = .ok (.if_icmp .ge 7, 3) := by decide +kernel
theorem dX6_next_105 : decode cX6_next 105 = .ok (.iconst 1, 1) := by decide +kernel
theorem dX6_next_106 : decode cX6_next 106 = .ok (.goto 4, 3) := by decide +kernel
theorem dX6_next_109 : decode cX6_next 109 = .ok (.iconst 0, 1) := by decide +kernel
theorem dX6_next_110 : decode cX6_next 110 = .ok (.istore_n 1, 1) := by decide +kernel
theorem dX6_next_111 : decode cX6_next 111 = .ok (.aload_n 0, 1) := by decide +kernel
theorem dX6_next_112 : decode cX6_next 112 = .ok (.getfield 25, 3) := by decide +kernel
theorem dX6_next_115 : decode cX6_next 115 = .ok (.iconst 1, 1) := by decide +kernel
theorem dX6_next_116 : decode cX6_next 116 = .ok (.iaload, 1) := by decide +kernel
theorem dX6_next_117 : decode cX6_next 117 = .ok (.aload_n 0, 1) := by decide +kernel
theorem dX6_next_118 : decode cX6_next 118 = .ok (.getfield 22, 3) := by decide +kernel
theorem dX6_next_121 : decode cX6_next 121 = .ok (.iconst 1, 1) := by decide +kernel
theorem dX6_next_122 : decode cX6_next 122 = .ok (.iaload, 1) := by decide +kernel
theorem dX6_next_123 : decode cX6_next 123 = .ok (.if_icmp .ge 7, 3) := by decide +kernel
theorem dX6_next_126 : decode cX6_next 126 = .ok (.iconst 1, 1) := by decide +kernel
theorem dX6_next_127 : decode cX6_next 127 = .ok (.goto 4, 3) := by decide +kernel
theorem dX6_next_130 : decode cX6_next 130 = .ok (.iconst 0, 1) := by decide +kernel
theorem dX6_next_131 : decode cX6_next 131 = .ok (.istore_n 2, 1) := by decide +kernel
theorem dX6_next_132 : decode cX6_next 132 = .ok (.iload_n 1, 1) := by decide +kernel
theorem dX6_next_133 : decode cX6_next 133 = .ok (.ifCond .eq 68, 3) := by decide +kernel
theorem dX6_next_136 : decode cX6_next 136 = .ok (.iload_n 2, 1) := by decide +kernel
theorem dX6_next_137 : decode cX6_next 137 = .ok (.ifCond .eq 64, 3) := by decide +kernel
theorem dX6_next_140 : decode cX6_next 140 = .ok (.aload_n 0, 1) := by decide +kernel
theorem dX6_next_141 : decode cX6_next 141 = .ok (.iconst 0, 1) := by decide +kernel
theorem dX6_next_142 : decode cX6_next 142 = .ok (.aload_n 0, 1) := by decide +kernel
theorem dX6_next_143 : decode cX6_next 143 = .ok (.getfield 25, 3) := by decide +kernel
theorem dX6_next_146 : decode cX6_next 146 = .ok (.iconst 0, 1) := by decide +kernel
theorem dX6_next_147 : decode cX6_next 147 = .ok (.iaload, 1) := by decide +kernel
theorem dX6_next_148 : decode cX6_next 148 = .ok (.invokevirtual 63, 3) := by decide +kernel
theorem dX6_next_151 : decode cX6_next 151 = .ok (.istore_n 3, 1) := by decide +kernel
theorem dX6_next_152 : decode cX6_next 152 = .ok (.aload_n 0, 1) := by decide +kernel
theorem dX6_next_153 : decode cX6_next 153 = .ok (.iconst 1, 1) := by decide +kernel
theorem dX6_next_154 : decode cX6_next 154 = .ok (.aload_n 0, 1) := by decide +kernel
theorem dX6_next_155 : decode cX6_next 155 = .ok (.getfield 25, 3) := by decide +kernel
theorem dX6_next_158 : decode cX6_next 158 = .ok (.iconst 1, 1) := by decide +kernel
theorem dX6_next_159 : decode cX6_next 159 = .ok (.iaload, 1) := by decide +kernel
theorem dX6_next_160 : decode cX6_next 160 = .ok (.invokevirtual 63, 3) := by decide +kernel
theorem dX6_next_163 : decode cX6_next 163 = .ok (.istore 4, 2) := by decide +kernel
theorem dX6_next_165 : decode cX6_next 165 = .ok (.aload_n 0, 1) := by decide +kernel
theorem dX6_next_166 : decode cX6_next 166 = .ok (.dup, 1) := by decide +kernel
theorem dX6_next_167 : decode cX6_next 167 = .ok (.getfield 53, 3) := by decide +kernel
theorem dX6_next_170 : decode cX6_next 170 = .ok (.ldc2_w 71, 3) := by decide +kernel
theorem dX6_next_173 : decode cX6_next 173 = .ok (.ladd, 1) := by decide +kernel
theorem dX6_next_174 : decode cX6_next 174 = .ok (.putfield 53, 3) := by decide +kernel
theorem dX6_next_177 : decode cX6_next 177 = .ok (.iload_n 3, 1) := by decide +kernel
theorem dX6_next_178 : decode cX6_next 178 = .ok (.iload 4, 2) := by decide +kernel
theorem dX6_next_180 : decode cX6_next 180 = .ok (.if_icmp .gt 7, 3) := by decide +kernel
theorem dX6_next_183 : decode cX6_next 183 = .ok (.iconst 1, 1) := by decide +kernel
theorem dX6_next_184 : decode cX6_next 184 = .ok (.goto 4, 3) := by decide +kernel
theorem dX6_next_187 : decode cX6_next 187 = .ok (.iconst 0, 1) := by decide +kernel
theorem dX6_next_188 : decode cX6_next 188 = .ok (.istore_n 1, 1) := by decide +kernel
theorem dX6_next_189 : decode cX6_next 189 = .ok (.iload 4, 2) := by decide +kernel
theorem dX6_next_191 : decode cX6_next 191 = .ok (.iload_n 3, 1) := by decide +kernel
theorem dX6_next_192 : decode cX6_next 192 = .ok (.if_icmp .gt 7, 3) := by decide +kernel
theorem dX6_next_195 : decode cX6_next 195 = .ok (.iconst 1, 1) := by decide +kernel
theorem dX6_next_196 : decode cX6_next 196 = .ok (.goto 4, 3) := by decide +kernel
theorem dX6_next_199 : decode cX6_next 199 = .ok (.iconst 0, 1) := by decide +kernel
theorem dX6_next_200 : decode cX6_next 200 = .ok (.istore_n 2, 1) := by decide +kernel
theorem dX6_next_201 : decode cX6_next 201 = .ok (.iload_n 1, 1) := by decide +kernel
theorem dX6_next_202 : decode cX6_next 202 = .ok (.ifCond .eq 8, 3) := by decide +kernel
theorem dX6_next_205 : decode cX6_next 205 = .ok (.aload_n 0, 1) := by decide +kernel
theorem dX6_next_206 : decode cX6_next 206 = .ok (.iconst 0, 1) := by decide +kernel
theorem dX6_next_207 : decode cX6_next 207 = .ok (.invokevirtual 73, 3) := by decide +kernel
theorem dX6_next_210 : decode cX6_next 210 = .ok (.iload_n 2, 1) := by decide +kernel
theorem dX6_next_211 : decode cX6_next 211 = .ok (.ifCond .eq 8, 3) := by decide +kernel
theorem dX6_next_214 : decode cX6_next 214 = .ok (.aload_n 0, 1) := by decide +kernel
theorem dX6_next_215 : decode cX6_next 215 = .ok (.iconst 1, 1) := by decide +kernel
theorem dX6_next_216 : decode cX6_next 216 = .ok (.invokevirtual 73, 3) := by decide +kernel
theorem dX6_next_219 : decode cX6_next 219 = .ok (.aload_n 0, 1) := by decide +kernel
theorem dX6_next_220 : decode cX6_next 220 = .ok (.getfield 25, 3) := by decide +kernel
theorem dX6_next_223 : decode cX6_next 223 = .ok (.bipush 8, 2) := by decide +kernel
theorem dX6_next_225 : decode cX6_next 225 = .ok (.iload_n 1, 1) := by decide +kernel
theorem dX6_next_226 : decode cX6_next 226 = .ok (.ifCond .eq 11, 3) := by decide +kernel
theorem dX6_next_229 : decode cX6_next 229 = .ok (.iload_n 2, 1) := by decide +kernel
theorem dX6_next_230 : decode cX6_next 230 = .ok (.ifCond .eq 7, 3) := by decide +kernel
theorem dX6_next_233 : decode cX6_next 233 = .ok (.iconst 0, 1) := by decide +kernel
theorem dX6_next_234 : decode cX6_next 234 = .ok (.goto 12, 3) := by decide +kernel
theorem dX6_next_237 : decode cX6_next 237 = .ok (.iload_n 1, 1) := by decide +kernel
theorem dX6_next_238 : decode cX6_next 238 = .ok (.ifCond .eq 7, 3) := by decide +kernel
theorem dX6_next_241 : decode cX6_next 241 = .ok (.iconst 1, 1) := by decide +kernel
theorem dX6_next_242 : decode cX6_next 242 = .ok (.goto 4, 3) := by decide +kernel
theorem dX6_next_245 : decode cX6_next 245 = .ok (.iconst 2, 1) := by decide +kernel
theorem dX6_next_246 : decode cX6_next 246 = .ok (.iastore, 1) := by decide +kernel
theorem dX6_next_247 : decode cX6_next 247 = .ok (.aload_n 0, 1) := by decide +kernel
theorem dX6_next_248 : decode cX6_next 248 = .ok (.getfield 60, 3) := by decide +kernel
theorem dX6_next_251 : decode cX6_next 251 = .ok (.aload_n 0, 1) := by decide +kernel
theorem dX6_next_252 : decode cX6_next 252 = .ok (.getfield 25, 3) := by decide +kernel
theorem dX6_next_255 : decode cX6_next 255 = .ok (.bipush 8, 2) := by decide +kernel
theorem dX6_next_257 : decode cX6_next 257 = .ok (.iaload, 1) := by decide +kernel
theorem dX6_next_258 : decode cX6_next 258 = .ok (.invokestatic 77, 3) := by decide +kernel
theorem dX6_next_261 : decode cX6_next 261 = .ok (.ifCond .eq 24, 3) := by decide +kernel
theorem dX6_next_264 : decode cX6_next 264 = .ok (.aload_n 0, 1) := by decide +kernel
theorem dX6_next_265 : decode cX6_next 265 = .ok (.getfield 25, 3) := by decide +kernel
theorem dX6_next_268 : decode cX6_next 268 = .ok (.bipush 9, 2) := by decide +kernel
theorem dX6_next_270 : decode cX6_next 270 = .ok (.iconst 1, 1) := by decide +kernel
theorem dX6_next_271 : decode cX6_next 271 = .ok (.iastore, 1) := by decide +kernel
theorem dX6_next_272 : decode cX6_next 272 = .ok (.aload_n 0, 1) := by decide +kernel
theorem dX6_next_273 : decode cX6_next 273 = .ok (.getfield 25, 3) := by decide +kernel
theorem dX6_next_276 : decode cX6_next 276 = .ok (.bipush 10, 2) := by decide +kernel
theorem dX6_next_278 : decode cX6_next 278 = .ok (.dup2, 1) := by decide +kernel
theorem dX6_next_279 : decode cX6_next 279 = .ok (.iaload, 1) := by decide +kernel
theorem dX6_next_280 : decode cX6_next 280 = .ok (.iconst 1, 1) := by decide +kernel
theorem dX6_next_281 : decode cX6_next 281 = .ok (.iadd, 1) := by decide +kernel
theorem dX6_next_282 : decode cX6_next 282 = .ok (.iastore, 1) := by decide +kernel
theorem dX6_next_283 : decode cX6_next 283 = .ok (.iconst 1, 1) := by decide +kernel
theorem dX6_next_284 : decode cX6_next 284 = .ok (.ireturn, 1) := by decide +kernel
theorem dX6_next_285 : decode cX6_next 285 = .ok (.goto (-225), 3) := by decide +kernel
theorem dX6_next_288 : decode cX6_next 288 = .ok (.iconst 0, 1) := by decide +kernel
theorem dX6_next_289 : decode cX6_next 289 = .ok (.ireturn, 1) := by decide +kernel
theorem dX6_pair_0 : decode cX6_pair 0 = .ok (.aload_n 0, 1) := by decide +kernel
theorem dX6_pair_1 : decode cX6_pair 1 = .ok (.iload_n 1, 1) := by decide +kernel
theorem dX6_pair_2 : decode cX6_pair 2 = .ok (.ifCond .lt 8, 3) := by decide +kernel
theorem dX6_pair_5 : decode cX6_pair 5 = .ok (.iload_n 1, 1) := by decide +kernel
theorem dX6_pair_6 : decode cX6_pair 6 = .ok (.iconst 4, 1) := by decide +kernel
theorem dX6_pair_7 : decode cX6_pair 7 = .ok (.if_icmp .le 7, 3) := by decide +kernel
theorem dX6_pair_10 : decode cX6_pair 10 = .ok (.iconst 1, 1) := by decide +kernel
theorem dX6_pair_11 : decode cX6_pair 11 = .ok (.goto 4, 3) := by decide +kernel
theorem dX6_pair_14 : decode cX6_pair 14 = .ok (.iconst 0, 1) := by decide +kernel
theorem dX6_pair_15 : decode cX6_pair 15 = .ok (.invokevirtual 39, 3) := by decide +kernel
theorem dX6_pair_18 : decode cX6_pair 18 = .ok (.ifCond .eq 5, 3) := by decide +kernel
theorem dX6_pair_21 : decode cX6_pair 21 = .ok (.iconst 0, 1) := by decide +kernel
theorem dX6_pair_22 : decode cX6_pair 22 = .ok (.ireturn, 1) := by decide +kernel
theorem dX6_pair_23 : decode cX6_pair 23 = .ok (.aload_n 0, 1) := by decide +kernel
theorem dX6_pair_24 : decode cX6_pair 24 = .ok (.getfield 43, 3) := by decide +kernel
theorem dX6_pair_27 : decode cX6_pair 27 = .ok (.ifCond .eq 18, 3) := by decide +kernel
theorem dX6_pair_30 : decode cX6_pair 30 = .ok (.aload_n 0, 1) := by decide +kernel
theorem dX6_pair_31 : decode cX6_pair 31 = .ok (.getfield 25, 3) := by decide +kernel
theorem dX6_pair_34 : decode cX6_pair 34 = .ok (.bipush 9, 2) := by decide +kernel
theorem dX6_pair_36 : decode cX6_pair 36 = .ok (.iaload, 1) := by decide +kernel
theorem dX6_pair_37 : decode cX6_pair 37 = .ok (.iconst 1, 1) := by decide +kernel
theorem dX6_pair_38 : decode cX6_pair 38 = .ok (.if_icmp .ne 7, 3) := by decide +kernel
theorem dX6_pair_41 : decode cX6_pair 41 = .ok (.iconst 1, 1) := by decide +kernel
theorem dX6_pair_42 : decode cX6_pair 42 = .ok (.goto 4, 3) := by decide +kernel
theorem dX6_pair_45 : decode cX6_pair 45 = .ok (.iconst 0, 1) := by decide +kernel
theorem dX6_pair_46 : decode cX6_pair 46 = .ok (.istore_n 2, 1) := by decide +kernel
theorem dX6_pair_47 : decode cX6_pair 47 = .ok (.iload_n 1, 1) := by decide +kernel
theorem dX6_pair_48 : decode cX6_pair 48 = .ok (.iconst 1, 1) := by decide +kernel
theorem dX6_pair_49 : decode cX6_pair 49 = .ok (.if_icmp .eq 8, 3) := by decide +kernel
theorem dX6_pair_52 : decode cX6_pair 52 = .ok (.iload_n 1, 1) := by decide +kernel
theorem dX6_pair_53 : decode cX6_pair 53 = .ok (.iconst 3, 1) := by decide +kernel
theorem dX6_pair_54 : decode cX6_pair 54 = .ok (.if_icmp .ne 7, 3) := by decide +kernel
theorem dX6_pair_57 : decode cX6_pair 57 = .ok (.iconst 0, 1) := by decide +kernel
theorem dX6_pair_58 : decode cX6_pair 58 = .ok (.goto 4, 3) := by decide +kernel
theorem dX6_pair_61 : decode cX6_pair 61 = .ok (.iconst 1, 1) := by decide +kernel
theorem dX6_pair_62 : decode cX6_pair 62 = .ok (.istore_n 3, 1) := by decide +kernel
theorem dX6_pair_63 : decode cX6_pair 63 = .ok (.iload_n 1, 1) := by decide +kernel
theorem dX6_pair_64 : decode cX6_pair 64 = .ok (.ifCond .ne 50, 3) := by decide +kernel
theorem dX6_pair_67 : decode cX6_pair 67 = .ok (.iload_n 2, 1) := by decide +kernel
theorem dX6_pair_68 : decode cX6_pair 68 = .ok (.ifCond .ne 7, 3) := by decide +kernel
theorem dX6_pair_71 : decode cX6_pair 71 = .ok (.iconst 0, 1) := by decide +kernel
theorem dX6_pair_72 : decode cX6_pair 72 = .ok (.goto 41, 3) := by decide +kernel
theorem dX6_pair_75 : decode cX6_pair 75 = .ok (.aload_n 0, 1) := by decide +kernel
theorem dX6_pair_76 : decode cX6_pair 76 = .ok (.getfield 25, 3) := by decide +kernel
theorem dX6_pair_79 : decode cX6_pair 79 = .ok (.bipush 8, 2) := by decide +kernel
theorem dX6_pair_81 : decode cX6_pair 81 = .ok (.iaload, 1) := by decide +kernel
theorem dX6_pair_82 : decode cX6_pair 82 = .ok (.iconst 2, 1) := by decide +kernel
theorem dX6_pair_83 : decode cX6_pair 83 = .ok (.if_icmp .ne 18, 3) := by decide +kernel
theorem dX6_pair_86 : decode cX6_pair 86 = .ok (.aload_n 0, 1) := by decide +kernel
theorem dX6_pair_87 : decode cX6_pair 87 = .ok (.iconst 1, 1) := by decide +kernel
theorem dX6_pair_88 : decode cX6_pair 88 = .ok (.aload_n 0, 1) := by decide +kernel
theorem dX6_pair_89 : decode cX6_pair 89 = .ok (.getfield 25, 3) := by decide +kernel
theorem dX6_pair_92 : decode cX6_pair 92 = .ok (.bipush 7, 2) := by decide +kernel
theorem dX6_pair_94 : decode cX6_pair 94 = .ok (.iaload, 1) := by decide +kernel
theorem dX6_pair_95 : decode cX6_pair 95 = .ok (.invokevirtual 63, 3) := by decide +kernel
theorem dX6_pair_98 : decode cX6_pair 98 = .ok (.goto 15, 3) := by decide +kernel
theorem dX6_pair_101 : decode cX6_pair 101 = .ok (.aload_n 0, 1) := by decide +kernel
theorem dX6_pair_102 : decode cX6_pair 102 = .ok (.iconst 0, 1) := by decide +kernel
theorem dX6_pair_103 : decode cX6_pair 103 = .ok (.aload_n 0, 1) := by decide +kernel
theorem dX6_pair_104 : decode cX6_pair 104 = .ok (.getfield 25, 3) := by decide +kernel
theorem dX6_pair_107 : decode cX6_pair 107 = .ok (.bipush 6, 2) := by decide +kernel
theorem dX6_pair_109 : decode cX6_pair 109 = .ok (.iaload, 1) := by decide +kernel
theorem dX6_pair_110 : decode cX6_pair 110 = .ok (.invokevirtual 63, 3) := by decide +kernel
theorem dX6_pair_113 : decode cX6_pair 113 = .ok (.ireturn, 1) := by decide +kernel
theorem dX6_pair_114 : decode cX6_pair 114 = .ok (.iload_n 2, 1) := by decide +kernel
theorem dX6_pair_115 : decode cX6_pair 115 = .ok (.ifCond .eq 20, 3) := by decide +kernel
theorem dX6_pair_118 : decode cX6_pair 118 = .ok (.aload_n 0, 1) := by decide +kernel
theorem dX6_pair_119 : decode cX6_pair 119 = .ok (.getfield 25, 3) := by decide +kernel
theorem dX6_pair_122 : decode cX6_pair 122 = .ok (.bipush 8, 2) := by decide +kernel
theorem dX6_pair_124 : decode cX6_pair 124 = .ok (.iaload, 1) := by decide +kernel
theorem dX6_pair_125 : decode cX6_pair 125 = .ok (.iconst 2, 1) := by decide +kernel
theorem dX6_pair_126 : decode cX6_pair 126 = .ok (.iload_n 3, 1) := by decide +kernel
theorem dX6_pair_127 : decode cX6_pair 127 = .ok (.isub, 1) := by decide +kernel
theorem dX6_pair_128 : decode cX6_pair 128 = .ok (.if_icmp .eq 7, 3) := by decide +kernel
theorem dX6_pair_131 : decode cX6_pair 131 = .ok (.iconst 1, 1) := by decide +kernel
theorem dX6_pair_132 : decode cX6_pair 132 = .ok (.goto 4, 3) := by decide +kernel
theorem dX6_pair_135 : decode cX6_pair 135 = .ok (.iconst 0, 1) := by decide +kernel
theorem dX6_pair_136 : decode cX6_pair 136 = .ok (.istore 4, 2) := by decide +kernel
theorem dX6_pair_138 : decode cX6_pair 138 = .ok (.iload_n 1, 1) := by decide +kernel
theorem dX6_pair_139 : decode cX6_pair 139 = .ok (.iconst 3, 1) := by decide +kernel
theorem dX6_pair_140 : decode cX6_pair 140 = .ok (.if_icmp .ge 29, 3) := by decide +kernel
theorem dX6_pair_143 : decode cX6_pair 143 = .ok (.iload 4, 2) := by decide +kernel
theorem dX6_pair_145 : decode cX6_pair 145 = .ok (.ifCond .eq 20, 3) := by decide +kernel
theorem dX6_pair_148 : decode cX6_pair 148 = .ok (.aload_n 0, 1) := by decide +kernel
theorem dX6_pair_149 : decode cX6_pair 149 = .ok (.iload_n 3, 1) := by decide +kernel
theorem dX6_pair_150 : decode cX6_pair 150 = .ok (.aload_n 0, 1) := by decide +kernel
theorem dX6_pair_151 : decode cX6_pair 151 = .ok (.getfield 25, 3) := by decide +kernel
theorem dX6_pair_154 : decode cX6_pair 154 = .ok (.bipush 6, 2) := by decide +kernel
theorem dX6_pair_156 : decode cX6_pair 156 = .ok (.iload_n 3, 1) := by decide +kernel
theorem dX6_pair_157 : decode cX6_pair 157 = .ok (.iadd, 1) := by decide +kernel
theorem dX6_pair_158 : decode cX6_pair 158 = .ok (.iaload, 1) := by decide +kernel
theorem dX6_pair_159 : decode cX6_pair 159 = .ok (.invokevirtual 81, 3) := by decide +kernel
theorem dX6_pair_162 : decode cX6_pair 162 = .ok (.goto 36, 3) := by decide +kernel
theorem dX6_pair_165 : decode cX6_pair 165 = .ok (.iconst 0, 1) := by decide +kernel
theorem dX6_pair_166 : decode cX6_pair 166 = .ok (.goto 32, 3) := by decide +kernel
theorem dX6_pair_169 : decode cX6_pair 169 = .ok (.iload 4, 2) := by decide +kernel
theorem dX6_pair_171 : decode cX6_pair 171 = .ok (.ifCond .eq 26, 3) := by decide +kernel
theorem dX6_pair_174 : decode cX6_pair 174 = .ok (.aload_n 0, 1) := by decide +kernel
theorem dX6_pair_175 : decode cX6_pair 175 = .ok (.getfield 19, 3) := by decide +kernel
theorem dX6_pair_178 : decode cX6_pair 178 = .ok (.sipush 400, 3) := by decide +kernel
theorem dX6_pair_181 : decode cX6_pair 181 = .ok (.iload_n 3, 1) := by decide +kernel
theorem dX6_pair_182 : decode cX6_pair 182 = .ok (.imul, 1) := by decide +kernel
theorem dX6_pair_183 : decode cX6_pair 183 = .ok (.aload_n 0, 1) := by decide +kernel
theorem dX6_pair_184 : decode cX6_pair 184 = .ok (.getfield 25, 3) := by decide +kernel
theorem dX6_pair_187 : decode cX6_pair 187 = .ok (.bipush 6, 2) := by decide +kernel
theorem dX6_pair_189 : decode cX6_pair 189 = .ok (.iload_n 3, 1) := by decide +kernel
theorem dX6_pair_190 : decode cX6_pair 190 = .ok (.iadd, 1) := by decide +kernel
theorem dX6_pair_191 : decode cX6_pair 191 = .ok (.iaload, 1) := by decide +kernel
theorem dX6_pair_192 : decode cX6_pair 192 = .ok (.iadd, 1) := by decide +kernel
theorem dX6_pair_193 : decode cX6_pair 193 = .ok (.iaload, 1) := by decide +kernel
theorem dX6_pair_194 : decode cX6_pair 194 = .ok (.goto 4, 3) := by decide +kernel
theorem dX6_pair_197 : decode cX6_pair 197 = .ok (.iconst (-1), 1) := by decide +kernel
theorem dX6_pair_198 : decode cX6_pair 198 = .ok (.ireturn, 1) := by decide +kernel
theorem dX6_mark_0 : decode cX6_mark 0 = .ok (.aload_n 0, 1) := by decide +kernel
theorem dX6_mark_1 : decode cX6_mark 1 = .ok (.aload_n 0, 1) := by decide +kernel
theorem dX6_mark_2 : decode cX6_mark 2 = .ok (.getfield 43, 3) := by decide +kernel
theorem dX6_mark_5 : decode cX6_mark 5 = .ok (.ifCond .eq 7, 3) := by decide +kernel
theorem dX6_mark_8 : decode cX6_mark 8 = .ok (.iconst 0, 1) := by decide +kernel
theorem dX6_mark_9 : decode cX6_mark 9 = .ok (.goto 4, 3) := by decide +kernel
theorem dX6_mark_12 : decode cX6_mark 12 = .ok (.iconst 1, 1) := by decide +kernel
theorem dX6_mark_13 : decode cX6_mark 13 = .ok (.invokevirtual 39, 3) := by decide +kernel
theorem dX6_mark_16 : decode cX6_mark 16 = .ok (.ifCond .eq 5, 3) := by decide +kernel
theorem dX6_mark_19 : decode cX6_mark 19 = .ok (.iconst 0, 1) := by decide +kernel
theorem dX6_mark_20 : decode cX6_mark 20 = .ok (.ireturn, 1) := by decide +kernel
theorem dX6_mark_21 : decode cX6_mark 21 = .ok (.iconst 0, 1) := by decide +kernel
theorem dX6_mark_22 : decode cX6_mark 22 = .ok (.istore_n 1, 1) := by decide +kernel
theorem dX6_mark_23 : decode cX6_mark 23 = .ok (.iload_n 1, 1) := by decide +kernel
theorem dX6_mark_24 : decode cX6_mark 24 = .ok (.bipush 12, 2) := by decide +kernel
theorem dX6_mark_26 : decode cX6_mark 26 = .ok (.if_icmp .ge 24, 3) := by decide +kernel
theorem dX6_mark_29 : decode cX6_mark 29 = .ok (.aload_n 0, 1) := by decide +kernel
theorem dX6_mark_30 : decode cX6_mark 30 = .ok (.getfield 25, 3) := by decide +kernel
theorem dX6_mark_33 : decode cX6_mark 33 = .ok (.bipush 12, 2) := by decide +kernel
theorem dX6_mark_35 : decode cX6_mark 35 = .ok (.iload_n 1, 1) := by decide +kernel
theorem dX6_mark_36 : decode cX6_mark 36 = .ok (.iadd, 1) := by decide +kernel
theorem dX6_mark_37 : decode cX6_mark 37 = .ok (.aload_n 0, 1) := by decide +kernel
theorem dX6_mark_38 : decode cX6_mark 38 = .ok (.getfield 25, 3) := by decide +kernel
theorem dX6_mark_41 : decode cX6_mark 41 = .ok (.iload_n 1, 1) := by decide +kernel
theorem dX6_mark_42 : decode cX6_mark 42 = .ok (.iaload, 1) := by decide +kernel
theorem dX6_mark_43 : decode cX6_mark 43 = .ok (.iastore, 1) := by decide +kernel
theorem dX6_mark_44 : decode cX6_mark 44 = .ok (.iinc 1 1, 3) := by decide +kernel
theorem dX6_mark_47 : decode cX6_mark 47 = .ok (.goto (-24), 3) := by decide +kernel
theorem dX6_mark_50 : decode cX6_mark 50 = .ok (.aload_n 0, 1) := by decide +kernel
theorem dX6_mark_51 : decode cX6_mark 51 = .ok (.iconst 1, 1) := by decide +kernel
theorem dX6_mark_52 : decode cX6_mark 52 = .ok (.putfield 57, 3) := by decide +kernel
theorem dX6_mark_55 : decode cX6_mark 55 = .ok (.aload_n 0, 1) := by decide +kernel
theorem dX6_mark_56 : decode cX6_mark 56 = .ok (.getfield 25, 3) := by decide +kernel
theorem dX6_mark_59 : decode cX6_mark 59 = .ok (.bipush 10, 2) := by decide +kernel
theorem dX6_mark_61 : decode cX6_mark 61 = .ok (.iaload, 1) := by decide +kernel
theorem dX6_mark_62 : decode cX6_mark 62 = .ok (.ireturn, 1) := by decide +kernel
theorem dX6_back_0 : decode cX6_back 0 = .ok (.aload_n 0, 1) := by decide +kernel
theorem dX6_back_1 : decode cX6_back 1 = .ok (.aload_n 0, 1) := by decide +kernel
theorem dX6_back_2 : decode cX6_back 2 = .ok (.getfield 43, 3) := by decide +kernel
theorem dX6_back_5 : decode cX6_back 5 = .ok (.ifCond .eq 14, 3) := by decide +kernel
theorem dX6_back_8 : decode cX6_back 8 = .ok (.aload_n 0, 1) := by decide +kernel
theorem dX6_back_9 : decode cX6_back 9 = .ok (.getfield 57, 3) := by decide +kernel
end
section
theorem dX6_back_12 : decode cX6_back 12 = .ok (.ifCond .eq 7, 3) := by decide +kernel
theorem dX6_back_15 : decode cX6_back 15 = .ok (.iconst 0, 1) := by decide +kernel
theorem dX6_back_16 : decode cX6_back 16 = .ok (.goto 4, 3) := by decide +kernel
theorem dX6_back_19 : decode cX6_back 19 = .ok (.iconst 1, 1) := by decide +kernel
theorem dX6_back_20 : decode cX6_back 20 = .ok (.invokevirtual 39, 3) := by decide +kernel
theorem dX6_back_23 : decode cX6_back 23 = .ok (.ifCond .eq 5, 3) := by decide +kernel
theorem dX6_back_26 : decode cX6_back 26 = .ok (.iconst 0, 1) := by decide +kernel
theorem dX6_back_27 : decode cX6_back 27 = .ok (.ireturn, 1) := by decide +kernel
theorem dX6_back_28 : decode cX6_back 28 = .ok (.iconst 0, 1) := by decide +kernel
theorem dX6_back_29 : decode cX6_back 29 = .ok (.istore_n 1, 1) := by decide +kernel
theorem dX6_back_30 : decode cX6_back 30 = .ok (.iload_n 1, 1) := by decide +kernel
theorem dX6_back_31 : decode cX6_back 31 = .ok (.bipush 12, 2) := by decide +kernel
theorem dX6_back_33 : decode cX6_back 33 = .ok (.if_icmp .ge 24, 3) := by decide +kernel
theorem dX6_back_36 : decode cX6_back 36 = .ok (.aload_n 0, 1) := by decide +kernel
theorem dX6_back_37 : decode cX6_back 37 = .ok (.getfield 25, 3) := by decide +kernel
theorem dX6_back_40 : decode cX6_back 40 = .ok (.iload_n 1, 1) := by decide +kernel
theorem dX6_back_41 : decode cX6_back 41 = .ok (.aload_n 0, 1) := by decide +kernel
theorem dX6_back_42 : decode cX6_back 42 = .ok (.getfield 25, 3) := by decide +kernel
theorem dX6_back_45 : decode cX6_back 45 = .ok (.bipush 12, 2) := by decide +kernel
theorem dX6_back_47 : decode cX6_back 47 = .ok (.iload_n 1, 1) := by decide +kernel
theorem dX6_back_48 : decode cX6_back 48 = .ok (.iadd, 1) := by decide +kernel
theorem dX6_back_49 : decode cX6_back 49 = .ok (.iaload, 1) := by decide +kernel
theorem dX6_back_50 : decode cX6_back 50 = .ok (.iastore, 1) := by decide +kernel
theorem dX6_back_51 : decode cX6_back 51 = .ok (.iinc 1 1, 3) := by decide +kernel
theorem dX6_back_54 : decode cX6_back 54 = .ok (.goto (-24), 3) := by decide +kernel
theorem dX6_back_57 : decode cX6_back 57 = .ok (.aload_n 0, 1) := by decide +kernel
theorem dX6_back_58 : decode cX6_back 58 = .ok (.getfield 25, 3) := by decide +kernel
theorem dX6_back_61 : decode cX6_back 61 = .ok (.bipush 10, 2) := by decide +kernel
theorem dX6_back_63 : decode cX6_back 63 = .ok (.iaload, 1) := by decide +kernel
theorem dX6_back_64 : decode cX6_back 64 = .ok (.ireturn, 1) := by decide +kernel
theorem dX6_rowsOf_0 : decode cX6_rowsOf 0 = .ok (.iconst 0, 1) := by decide +kernel
theorem dX6_rowsOf_1 : decode cX6_rowsOf 1 = .ok (.istore_n 3, 1) := by decide +kernel
theorem dX6_rowsOf_2 : decode cX6_rowsOf 2 = .ok (.iconst 0, 1) := by decide +kernel
theorem dX6_rowsOf_3 : decode cX6_rowsOf 3 = .ok (.istore 4, 2) := by decide +kernel
theorem dX6_rowsOf_5 : decode cX6_rowsOf 5 = .ok (.iload 4, 2) := by decide +kernel
theorem dX6_rowsOf_7 : decode cX6_rowsOf 7 = .ok (.aload_n 0, 1) := by decide +kernel
theorem dX6_rowsOf_8 : decode cX6_rowsOf 8 = .ok (.getfield 22, 3) := by decide +kernel
theorem dX6_rowsOf_11 : decode cX6_rowsOf 11 = .ok (.iload_n 1, 1) := by decide +kernel
theorem dX6_rowsOf_12 : decode cX6_rowsOf 12 = .ok (.iaload, 1) := by decide +kernel
theorem dX6_rowsOf_13 : decode cX6_rowsOf 13 = .ok (.if_icmp .ge 34, 3) := by decide +kernel
theorem dX6_rowsOf_16 : decode cX6_rowsOf 16 = .ok (.iload_n 3, 1) := by decide +kernel
theorem dX6_rowsOf_17 : decode cX6_rowsOf 17 = .ok (.aload_n 0, 1) := by decide +kernel
theorem dX6_rowsOf_18 : decode cX6_rowsOf 18 = .ok (.getfield 13, 3) := by decide +kernel
theorem dX6_rowsOf_21 : decode cX6_rowsOf 21 = .ok (.sipush 400, 3) := by decide +kernel
theorem dX6_rowsOf_24 : decode cX6_rowsOf 24 = .ok (.iload_n 1, 1) := by decide +kernel
theorem dX6_rowsOf_25 : decode cX6_rowsOf 25 = .ok (.imul, 1) := by decide +kernel
theorem dX6_rowsOf_26 : decode cX6_rowsOf 26 = .ok (.iload 4, 2) := by decide +kernel
theorem dX6_rowsOf_28 : decode cX6_rowsOf 28 = .ok (.iadd, 1) := by decide +kernel
theorem dX6_rowsOf_29 : decode cX6_rowsOf 29 = .ok (.iaload, 1) := by decide +kernel
theorem dX6_rowsOf_30 : decode cX6_rowsOf 30 = .ok (.iload_n 2, 1) := by decide +kernel
theorem dX6_rowsOf_31 : decode cX6_rowsOf 31 = .ok (.if_icmp .ne 7, 3) := by decide +kernel
theorem dX6_rowsOf_34 : decode cX6_rowsOf 34 = .ok (.iconst 1, 1) := by decide +kernel
theorem dX6_rowsOf_35 : decode cX6_rowsOf 35 = .ok (.goto 4, 3) := by decide +kernel
theorem dX6_rowsOf_38 : decode cX6_rowsOf 38 = .ok (.iconst 0, 1) := by decide +kernel
theorem dX6_rowsOf_39 : decode cX6_rowsOf 39 = .ok (.iadd, 1) := by decide +kernel
theorem dX6_rowsOf_40 : decode cX6_rowsOf 40 = .ok (.istore_n 3, 1) := by decide +kernel
theorem dX6_rowsOf_41 : decode cX6_rowsOf 41 = .ok (.iinc 4 1, 3) := by decide +kernel
theorem dX6_rowsOf_44 : decode cX6_rowsOf 44 = .ok (.goto (-39), 3) := by decide +kernel
theorem dX6_rowsOf_47 : decode cX6_rowsOf 47 = .ok (.iload_n 3, 1) := by decide +kernel
theorem dX6_rowsOf_48 : decode cX6_rowsOf 48 = .ok (.ireturn, 1) := by decide +kernel
theorem dX6_pairs_0 : decode cX6_pairs 0 = .ok (.lconst 0, 1) := by decide +kernel
theorem dX6_pairs_1 : decode cX6_pairs 1 = .ok (.lstore 5, 2) := by decide +kernel
theorem dX6_pairs_3 : decode cX6_pairs 3 = .ok (.iconst 0, 1) := by decide +kernel
theorem dX6_pairs_4 : decode cX6_pairs 4 = .ok (.istore 7, 2) := by decide +kernel
theorem dX6_pairs_6 : decode cX6_pairs 6 = .ok (.iload 7, 2) := by decide +kernel
theorem dX6_pairs_8 : decode cX6_pairs 8 = .ok (.iconst 2, 1) := by decide +kernel
theorem dX6_pairs_9 : decode cX6_pairs 9 = .ok (.if_icmp .ge 116, 3) := by decide +kernel
theorem dX6_pairs_12 : decode cX6_pairs 12 = .ok (.iconst 0, 1) := by decide +kernel
theorem dX6_pairs_13 : decode cX6_pairs 13 = .ok (.istore 8, 2) := by decide +kernel
theorem dX6_pairs_15 : decode cX6_pairs 15 = .ok (.iload 8, 2) := by decide +kernel
theorem dX6_pairs_17 : decode cX6_pairs 17 = .ok (.aload_n 0, 1) := by decide +kernel
theorem dX6_pairs_18 : decode cX6_pairs 18 = .ok (.getfield 22, 3) := by decide +kernel
theorem dX6_pairs_21 : decode cX6_pairs 21 = .ok (.iload 7, 2) := by decide +kernel
theorem dX6_pairs_23 : decode cX6_pairs 23 = .ok (.iaload, 1) := by decide +kernel
theorem dX6_pairs_24 : decode cX6_pairs 24 = .ok (.if_icmp .ge 95, 3) := by decide +kernel
theorem dX6_pairs_27 : decode cX6_pairs 27 = .ok (.aload_n 0, 1) := by decide +kernel
theorem dX6_pairs_28 : decode cX6_pairs 28 = .ok (.getfield 13, 3) := by decide +kernel
theorem dX6_pairs_31 : decode cX6_pairs 31 = .ok (.sipush 400, 3) := by decide +kernel
theorem dX6_pairs_34 : decode cX6_pairs 34 = .ok (.iload 7, 2) := by decide +kernel
theorem dX6_pairs_36 : decode cX6_pairs 36 = .ok (.imul, 1) := by decide +kernel
theorem dX6_pairs_37 : decode cX6_pairs 37 = .ok (.iload 8, 2) := by decide +kernel
theorem dX6_pairs_39 : decode cX6_pairs 39 = .ok (.iadd, 1) := by decide +kernel
theorem dX6_pairs_40 : decode cX6_pairs 40 = .ok (.iaload, 1) := by decide +kernel
theorem dX6_pairs_41 : decode cX6_pairs 41 = .ok (.istore 9, 2) := by decide +kernel
theorem dX6_pairs_43 : decode cX6_pairs 43 = .ok (.iload 9, 2) := by decide +kernel
theorem dX6_pairs_45 : decode cX6_pairs 45 = .ok (.i2l, 1) := by decide +kernel
theorem dX6_pairs_46 : decode cX6_pairs 46 = .ok (.lload_n 3, 1) := by decide +kernel
theorem dX6_pairs_47 : decode cX6_pairs 47 = .ok (.lcmp, 1) := by decide +kernel
theorem dX6_pairs_48 : decode cX6_pairs 48 = .ok (.ifCond .ge 7, 3) := by decide +kernel
theorem dX6_pairs_51 : decode cX6_pairs 51 = .ok (.iconst 1, 1) := by decide +kernel
theorem dX6_pairs_52 : decode cX6_pairs 52 = .ok (.goto 4, 3) := by decide +kernel
theorem dX6_pairs_55 : decode cX6_pairs 55 = .ok (.iconst 0, 1) := by decide +kernel
theorem dX6_pairs_56 : decode cX6_pairs 56 = .ok (.iload_n 2, 1) := by decide +kernel
theorem dX6_pairs_57 : decode cX6_pairs 57 = .ok (.if_icmp .ne 56, 3) := by decide +kernel
theorem dX6_pairs_60 : decode cX6_pairs 60 = .ok (.aload_n 0, 1) := by decide +kernel
theorem dX6_pairs_61 : decode cX6_pairs 61 = .ok (.iconst 1, 1) := by decide +kernel
theorem dX6_pairs_62 : decode cX6_pairs 62 = .ok (.iload 7, 2) := by decide +kernel
theorem dX6_pairs_64 : decode cX6_pairs 64 = .ok (.isub, 1) := by decide +kernel
theorem dX6_pairs_65 : decode cX6_pairs 65 = .ok (.iload 9, 2) := by decide +kernel
theorem dX6_pairs_67 : decode cX6_pairs 67 = .ok (.invokevirtual 84, 3) := by decide +kernel
theorem dX6_pairs_70 : decode cX6_pairs 70 = .ok (.istore 10, 2) := by decide +kernel
theorem dX6_pairs_72 : decode cX6_pairs 72 = .ok (.lload 5, 2) := by decide +kernel
theorem dX6_pairs_74 : decode cX6_pairs 74 = .ok (.iload 10, 2) := by decide +kernel
theorem dX6_pairs_76 : decode cX6_pairs 76 = .ok (.ifCond .ne 22, 3) := by decide +kernel
theorem dX6_pairs_79 : decode cX6_pairs 79 = .ok (.iload_n 1, 1) := by decide +kernel
theorem dX6_pairs_80 : decode cX6_pairs 80 = .ok (.iload 7, 2) := by decide +kernel
theorem dX6_pairs_82 : decode cX6_pairs 82 = .ok (.iconst 1, 1) := by decide +kernel
theorem dX6_pairs_83 : decode cX6_pairs 83 = .ok (.iadd, 1) := by decide +kernel
theorem dX6_pairs_84 : decode cX6_pairs 84 = .ok (.invokestatic 77, 3) := by decide +kernel
theorem dX6_pairs_87 : decode cX6_pairs 87 = .ok (.ifCond .eq 7, 3) := by decide +kernel
theorem dX6_pairs_90 : decode cX6_pairs 90 = .ok (.lconst 1, 1) := by decide +kernel
theorem dX6_pairs_91 : decode cX6_pairs 91 = .ok (.goto 19, 3) := by decide +kernel
theorem dX6_pairs_94 : decode cX6_pairs 94 = .ok (.lconst 0, 1) := by decide +kernel
theorem dX6_pairs_95 : decode cX6_pairs 95 = .ok (.goto 15, 3) := by decide +kernel
theorem dX6_pairs_98 : decode cX6_pairs 98 = .ok (.iload 7, 2) := by decide +kernel
theorem dX6_pairs_100 : decode cX6_pairs 100 = .ok (.ifCond .ne 9, 3) := by decide +kernel
theorem dX6_pairs_103 : decode cX6_pairs 103 = .ok (.iload 10, 2) := by decide +kernel
theorem dX6_pairs_105 : decode cX6_pairs 105 = .ok (.i2l, 1) := by decide +kernel
theorem dX6_pairs_106 : decode cX6_pairs 106 = .ok (.goto 4, 3) := by decide +kernel
theorem dX6_pairs_109 : decode cX6_pairs 109 = .ok (.lconst 0, 1) := by decide +kernel
theorem dX6_pairs_110 : decode cX6_pairs 110 = .ok (.ladd, 1) := by decide +kernel
theorem dX6_pairs_111 : decode cX6_pairs 111 = .ok (.lstore 5, 2) := by decide +kernel
theorem dX6_pairs_113 : decode cX6_pairs 113 = .ok (.iinc 8 1, 3) := by decide +kernel
theorem dX6_pairs_116 : decode cX6_pairs 116 = .ok (.goto (-101), 3) := by decide +kernel
theorem dX6_pairs_119 : decode cX6_pairs 119 = .ok (.iinc 7 1, 3) := by decide +kernel
theorem dX6_pairs_122 : decode cX6_pairs 122 = .ok (.goto (-116), 3) := by decide +kernel
theorem dX6_pairs_125 : decode cX6_pairs 125 = .ok (.lload 5, 2) := by decide +kernel
theorem dX6_pairs_127 : decode cX6_pairs 127 = .ok (.lreturn, 1) := by decide +kernel
theorem dX6_seek_0 : decode cX6_seek 0 = .ok (.aload_n 0, 1) := by decide +kernel
theorem dX6_seek_1 : decode cX6_seek 1 = .ok (.aload_n 0, 1) := by decide +kernel
theorem dX6_seek_2 : decode cX6_seek 2 = .ok (.getfield 43, 3) := by decide +kernel
theorem dX6_seek_5 : decode cX6_seek 5 = .ok (.ifCond .eq 7, 3) := by decide +kernel
theorem dX6_seek_8 : decode cX6_seek 8 = .ok (.iconst 0, 1) := by decide +kernel
theorem dX6_seek_9 : decode cX6_seek 9 = .ok (.goto 4, 3) := by decide +kernel
theorem dX6_seek_12 : decode cX6_seek 12 = .ok (.iconst 1, 1) := by decide +kernel
theorem dX6_seek_13 : decode cX6_seek 13 = .ok (.invokevirtual 39, 3) := by decide +kernel
theorem dX6_seek_16 : decode cX6_seek 16 = .ok (.ifCond .eq 5, 3) := by decide +kernel
theorem dX6_seek_19 : decode cX6_seek 19 = .ok (.iconst 0, 1) := by decide +kernel
theorem dX6_seek_20 : decode cX6_seek 20 = .ok (.ireturn, 1) := by decide +kernel
theorem dX6_seek_21 : decode cX6_seek 21 = .ok (.aload_n 0, 1) := by decide +kernel
theorem dX6_seek_22 : decode cX6_seek 22 = .ok (.invokevirtual 50, 3) := by decide +kernel
theorem dX6_seek_25 : decode cX6_seek 25 = .ok (.iconst 0, 1) := by decide +kernel
theorem dX6_seek_26 : decode cX6_seek 26 = .ok (.istore_n 2, 1) := by decide +kernel
theorem dX6_seek_27 : decode cX6_seek 27 = .ok (.iload_n 2, 1) := by decide +kernel
theorem dX6_seek_28 : decode cX6_seek 28 = .ok (.iconst 2, 1) := by decide +kernel
theorem dX6_seek_29 : decode cX6_seek 29 = .ok (.if_icmp .ge 78, 3) := by decide +kernel
theorem dX6_seek_32 : decode cX6_seek 32 = .ok (.iconst 0, 1) := by decide +kernel
theorem dX6_seek_33 : decode cX6_seek 33 = .ok (.istore_n 3, 1) := by decide +kernel
theorem dX6_seek_34 : decode cX6_seek 34 = .ok (.aload_n 0, 1) := by decide +kernel
theorem dX6_seek_35 : decode cX6_seek 35 = .ok (.getfield 22, 3) := by decide +kernel
theorem dX6_seek_38 : decode cX6_seek 38 = .ok (.iload_n 2, 1) := by decide +kernel
theorem dX6_seek_39 : decode cX6_seek 39 = .ok (.iaload, 1) := by decide +kernel
theorem dX6_seek_40 : decode cX6_seek 40 = .ok (.istore 4, 2) := by decide +kernel
theorem dX6_seek_42 : decode cX6_seek 42 = .ok (.iload_n 3, 1) := by decide +kernel
theorem dX6_seek_43 : decode cX6_seek 43 = .ok (.iload 4, 2) := by decide +kernel
theorem dX6_seek_45 : decode cX6_seek 45 = .ok (.if_icmp .ge 47, 3) := by decide +kernel
theorem dX6_seek_48 : decode cX6_seek 48 = .ok (.iload_n 3, 1) := by decide +kernel
theorem dX6_seek_49 : decode cX6_seek 49 = .ok (.iload 4, 2) := by decide +kernel
theorem dX6_seek_51 : decode cX6_seek 51 = .ok (.iadd, 1) := by decide +kernel
theorem dX6_seek_52 : decode cX6_seek 52 = .ok (.iconst 2, 1) := by decide +kernel
theorem dX6_seek_53 : decode cX6_seek 53 = .ok (.idiv, 1) := by decide +kernel
theorem dX6_seek_54 : decode cX6_seek 54 = .ok (.istore 5, 2) := by decide +kernel
theorem dX6_seek_56 : decode cX6_seek 56 = .ok (.aload_n 0, 1) := by decide +kernel
theorem dX6_seek_57 : decode cX6_seek 57 = .ok (.dup, 1) := by decide +kernel
theorem dX6_seek_58 : decode cX6_seek 58 = .ok (.getfield 53, 3) := by decide +kernel
theorem dX6_seek_61 : decode cX6_seek 61 = .ok (.lconst 1, 1) := by decide +kernel
theorem dX6_seek_62 : decode cX6_seek 62 = .ok (.ladd, 1) := by decide +kernel
theorem dX6_seek_63 : decode cX6_seek 63 = .ok (.putfield 53, 3) := by decide +kernel
theorem dX6_seek_66 : decode cX6_seek 66 = .ok (.aload_n 0, 1) := by decide +kernel
theorem dX6_seek_67 : decode cX6_seek 67 = .ok (.iload_n 2, 1) := by decide +kernel
theorem dX6_seek_68 : decode cX6_seek 68 = .ok (.iload 5, 2) := by decide +kernel
theorem dX6_seek_70 : decode cX6_seek 70 = .ok (.invokevirtual 63, 3) := by decide +kernel
theorem dX6_seek_73 : decode cX6_seek 73 = .ok (.iload_n 1, 1) := by decide +kernel
theorem dX6_seek_74 : decode cX6_seek 74 = .ok (.if_icmp .ge 11, 3) := by decide +kernel
theorem dX6_seek_77 : decode cX6_seek 77 = .ok (.iload 5, 2) := by decide +kernel
theorem dX6_seek_79 : decode cX6_seek 79 = .ok (.iconst 1, 1) := by decide +kernel
theorem dX6_seek_80 : decode cX6_seek 80 = .ok (.iadd, 1) := by decide +kernel
theorem dX6_seek_81 : decode cX6_seek 81 = .ok (.istore_n 3, 1) := by decide +kernel
theorem dX6_seek_82 : decode cX6_seek 82 = .ok (.goto 7, 3) := by decide +kernel
theorem dX6_seek_85 : decode cX6_seek 85 = .ok (.iload 5, 2) := by decide +kernel
theorem dX6_seek_87 : decode cX6_seek 87 = .ok (.istore 4, 2) := by decide +kernel
theorem dX6_seek_89 : decode cX6_seek 89 = .ok (.goto (-47), 3) := by decide +kernel
theorem dX6_seek_92 : decode cX6_seek 92 = .ok (.aload_n 0, 1) := by decide +kernel
theorem dX6_seek_93 : decode cX6_seek 93 = .ok (.getfield 25, 3) := by decide +kernel
theorem dX6_seek_96 : decode cX6_seek 96 = .ok (.iconst 0, 1) := by decide +kernel
theorem dX6_seek_97 : decode cX6_seek 97 = .ok (.iload_n 2, 1) := by decide +kernel
theorem dX6_seek_98 : decode cX6_seek 98 = .ok (.iadd, 1) := by decide +kernel
theorem dX6_seek_99 : decode cX6_seek 99 = .ok (.iload_n 3, 1) := by decide +kernel
theorem dX6_seek_100 : decode cX6_seek 100 = .ok (.iastore, 1) := by decide +kernel
theorem dX6_seek_101 : decode cX6_seek 101 = .ok (.iinc 2 1, 3) := by decide +kernel
theorem dX6_seek_104 : decode cX6_seek 104 = .ok (.goto (-77), 3) := by decide +kernel
theorem dX6_seek_107 : decode cX6_seek 107 = .ok (.aload_n 0, 1) := by decide +kernel
theorem dX6_seek_108 : decode cX6_seek 108 = .ok (.getfield 25, 3) := by decide +kernel
theorem dX6_seek_111 : decode cX6_seek 111 = .ok (.bipush 10, 2) := by decide +kernel
theorem dX6_seek_113 : decode cX6_seek 113 = .ok (.aload_n 0, 1) := by decide +kernel
theorem dX6_seek_114 : decode cX6_seek 114 = .ok (.aload_n 0, 1) := by decide +kernel
theorem dX6_seek_115 : decode cX6_seek 115 = .ok (.getfield 60, 3) := by decide +kernel
theorem dX6_seek_118 : decode cX6_seek 118 = .ok (.iconst 1, 1) := by decide +kernel
theorem dX6_seek_119 : decode cX6_seek 119 = .ok (.iload_n 1, 1) := by decide +kernel
theorem dX6_seek_120 : decode cX6_seek 120 = .ok (.i2l, 1) := by decide +kernel
theorem dX6_seek_121 : decode cX6_seek 121 = .ok (.invokevirtual 87, 3) := by decide +kernel
theorem dX6_seek_124 : decode cX6_seek 124 = .ok (.l2i, 1) := by decide +kernel
theorem dX6_seek_125 : decode cX6_seek 125 = .ok (.iastore, 1) := by decide +kernel
theorem dX6_seek_126 : decode cX6_seek 126 = .ok (.aload_n 0, 1) := by decide +kernel
theorem dX6_seek_127 : decode cX6_seek 127 = .ok (.aload_n 0, 1) := by decide +kernel
theorem dX6_seek_128 : decode cX6_seek 128 = .ok (.getfield 60, 3) := by decide +kernel
theorem dX6_seek_131 : decode cX6_seek 131 = .ok (.iconst 0, 1) := by decide +kernel
theorem dX6_seek_132 : decode cX6_seek 132 = .ok (.iload_n 1, 1) := by decide +kernel
theorem dX6_seek_133 : decode cX6_seek 133 = .ok (.i2l, 1) := by decide +kernel
theorem dX6_seek_134 : decode cX6_seek 134 = .ok (.invokevirtual 87, 3) := by decide +kernel
theorem dX6_seek_137 : decode cX6_seek 137 = .ok (.lconst 0, 1) := by decide +kernel
theorem dX6_seek_138 : decode cX6_seek 138 = .ok (.lcmp, 1) := by decide +kernel
theorem dX6_seek_139 : decode cX6_seek 139 = .ok (.ifCond .le 7, 3) := by decide +kernel
theorem dX6_seek_142 : decode cX6_seek 142 = .ok (.iconst 1, 1) := by decide +kernel
theorem dX6_seek_143 : decode cX6_seek 143 = .ok (.goto 4, 3) := by decide +kernel
theorem dX6_seek_146 : decode cX6_seek 146 = .ok (.iconst 0, 1) := by decide +kernel
theorem dX6_seek_147 : decode cX6_seek 147 = .ok (.ireturn, 1) := by decide +kernel
theorem dX6_rewind_0 : decode cX6_rewind 0 = .ok (.aload_n 0, 1) := by decide +kernel
theorem dX6_rewind_1 : decode cX6_rewind 1 = .ok (.aload_n 0, 1) := by decide +kernel
theorem dX6_rewind_2 : decode cX6_rewind 2 = .ok (.getfield 43, 3) := by decide +kernel
theorem dX6_rewind_5 : decode cX6_rewind 5 = .ok (.ifCond .eq 7, 3) := by decide +kernel
theorem dX6_rewind_8 : decode cX6_rewind 8 = .ok (.iconst 0, 1) := by decide +kernel
theorem dX6_rewind_9 : decode cX6_rewind 9 = .ok (.goto 4, 3) := by decide +kernel
theorem dX6_rewind_12 : decode cX6_rewind 12 = .ok (.iconst 1, 1) := by decide +kernel
theorem dX6_rewind_13 : decode cX6_rewind 13 = .ok (.invokevirtual 39, 3) := by decide +kernel
theorem dX6_rewind_16 : decode cX6_rewind 16 = .ok (.ifCond .eq 4, 3) := by decide +kernel
theorem dX6_rewind_19 : decode cX6_rewind 19 = .ok (.return_, 1) := by decide +kernel
theorem dX6_rewind_20 : decode cX6_rewind 20 = .ok (.aload_n 0, 1) := by decide +kernel
theorem dX6_rewind_21 : decode cX6_rewind 21 = .ok (.invokevirtual 50, 3) := by decide +kernel
theorem dX6_rewind_24 : decode cX6_rewind 24 = .ok (.aload_n 0, 1) := by decide +kernel
theorem dX6_rewind_25 : decode cX6_rewind 25 = .ok (.lconst 0, 1) := by decide +kernel
theorem dX6_rewind_26 : decode cX6_rewind 26 = .ok (.putfield 53, 3) := by decide +kernel
theorem dX6_rewind_29 : decode cX6_rewind 29 = .ok (.return_, 1) := by decide +kernel
theorem dX6_count_0 : decode cX6_count 0 = .ok (.aload_n 0, 1) := by decide +kernel
theorem dX6_count_1 : decode cX6_count 1 = .ok (.iload_n 1, 1) := by decide +kernel
theorem dX6_count_2 : decode cX6_count 2 = .ok (.ifCond .lt 8, 3) := by decide +kernel
theorem dX6_count_5 : decode cX6_count 5 = .ok (.iload_n 1, 1) := by decide +kernel
theorem dX6_count_6 : decode cX6_count 6 = .ok (.iconst 3, 1) := by decide +kernel
theorem dX6_count_7 : decode cX6_count 7 = .ok (.if_icmp .le 7, 3) := by decide +kernel
theorem dX6_count_10 : decode cX6_count 10 = .ok (.iconst 1, 1) := by decide +kernel
theorem dX6_count_11 : decode cX6_count 11 = .ok (.goto 15, 3) := by decide +kernel
theorem dX6_count_14 : decode cX6_count 14 = .ok (.aload_n 0, 1) := by decide +kernel
theorem dX6_count_15 : decode cX6_count 15 = .ok (.getfield 43, 3) := by decide +kernel
theorem dX6_count_18 : decode cX6_count 18 = .ok (.ifCond .eq 7, 3) := by decide +kernel
theorem dX6_count_21 : decode cX6_count 21 = .ok (.iconst 0, 1) := by decide +kernel
theorem dX6_count_22 : decode cX6_count 22 = .ok (.goto 4, 3) := by decide +kernel
theorem dX6_count_25 : decode cX6_count 25 = .ok (.iconst 2, 1) := by decide +kernel
theorem dX6_count_26 : decode cX6_count 26 = .ok (.invokevirtual 39, 3) := by decide +kernel
theorem dX6_count_29 : decode cX6_count 29 = .ok (.ifCond .eq 5, 3) := by decide +kernel
theorem dX6_count_32 : decode cX6_count 32 = .ok (.lconst 0, 1) := by decide +kernel
theorem dX6_count_33 : decode cX6_count 33 = .ok (.lreturn, 1) := by decide +kernel
theorem dX6_count_34 : decode cX6_count 34 = .ok (.aload_n 0, 1) := by decide +kernel
theorem dX6_count_35 : decode cX6_count 35 = .ok (.iload_n 1, 1) := by decide +kernel
theorem dX6_count_36 : decode cX6_count 36 = .ok (.iconst 1, 1) := by decide +kernel
theorem dX6_count_37 : decode cX6_count 37 = .ok (.ldc2_w 91, 3) := by decide +kernel
theorem dX6_count_40 : decode cX6_count 40 = .ok (.invokevirtual 87, 3) := by decide +kernel
theorem dX6_count_43 : decode cX6_count 43 = .ok (.lreturn, 1) := by decide +kernel
theorem dX6_rows_0 : decode cX6_rows 0 = .ok (.aload_n 0, 1) := by decide +kernel
theorem dX6_rows_1 : decode cX6_rows 1 = .ok (.aload_n 0, 1) := by decide +kernel
theorem dX6_rows_2 : decode cX6_rows 2 = .ok (.getfield 43, 3) := by decide +kernel
theorem dX6_rows_5 : decode cX6_rows 5 = .ok (.ifCond .eq 7, 3) := by decide +kernel
theorem dX6_rows_8 : decode cX6_rows 8 = .ok (.iconst 0, 1) := by decide +kernel
theorem dX6_rows_9 : decode cX6_rows 9 = .ok (.goto 4, 3) := by decide +kernel
theorem dX6_rows_12 : decode cX6_rows 12 = .ok (.iconst 1, 1) := by decide +kernel
theorem dX6_rows_13 : decode cX6_rows 13 = .ok (.invokevirtual 39, 3) := by decide +kernel
theorem dX6_rows_16 : decode cX6_rows 16 = .ok (.ifCond .eq 5, 3) := by decide +kernel
theorem dX6_rows_19 : decode cX6_rows 19 = .ok (.iconst 0, 1) := by decide +kernel
theorem dX6_rows_20 : decode cX6_rows 20 = .ok (.ireturn, 1) := by decide +kernel
theorem dX6_rows_21 : decode cX6_rows 21 = .ok (.iload_n 1, 1) := by decide +kernel
theorem dX6_rows_22 : decode cX6_rows 22 = .ok (.ifCond .eq 7, 3) := by decide +kernel
theorem dX6_rows_25 : decode cX6_rows 25 = .ok (.iconst 0, 1) := by decide +kernel
theorem dX6_rows_26 : decode cX6_rows 26 = .ok (.goto 4, 3) := by decide +kernel
theorem dX6_rows_29 : decode cX6_rows 29 = .ok (.iconst 1, 1) := by decide +kernel
theorem dX6_rows_30 : decode cX6_rows 30 = .ok (.istore_n 3, 1) := by decide +kernel
theorem dX6_rows_31 : decode cX6_rows 31 = .ok (.iconst 0, 1) := by decide +kernel
theorem dX6_rows_32 : decode cX6_rows 32 = .ok (.istore 4, 2) := by decide +kernel
theorem dX6_rows_34 : decode cX6_rows 34 = .ok (.iconst 0, 1) := by decide +kernel
theorem dX6_rows_35 : decode cX6_rows 35 = .ok (.istore 5, 2) := by decide +kernel
theorem dX6_rows_37 : decode cX6_rows 37 = .ok (.iload 5, 2) := by decide +kernel
theorem dX6_rows_39 : decode cX6_rows 39 = .ok (.aload_n 0, 1) := by decide +kernel
theorem dX6_rows_40 : decode cX6_rows 40 = .ok (.getfield 22, 3) := by decide +kernel
theorem dX6_rows_43 : decode cX6_rows 43 = .ok (.iload_n 3, 1) := by decide +kernel
theorem dX6_rows_44 : decode cX6_rows 44 = .ok (.iaload, 1) := by decide +kernel
theorem dX6_rows_45 : decode cX6_rows 45 = .ok (.if_icmp .ge 51, 3) := by decide +kernel
theorem dX6_rows_48 : decode cX6_rows 48 = .ok (.iload 4, 2) := by decide +kernel
theorem dX6_rows_50 : decode cX6_rows 50 = .ok (.aload_n 0, 1) := by decide +kernel
theorem dX6_rows_51 : decode cX6_rows 51 = .ok (.iconst 1, 1) := by decide +kernel
theorem dX6_rows_52 : decode cX6_rows 52 = .ok (.iload_n 3, 1) := by decide +kernel
theorem dX6_rows_53 : decode cX6_rows 53 = .ok (.isub, 1) := by decide +kernel
theorem dX6_rows_54 : decode cX6_rows 54 = .ok (.aload_n 0, 1) := by decide +kernel
theorem dX6_rows_55 : decode cX6_rows 55 = .ok (.getfield 13, 3) := by decide +kernel
theorem dX6_rows_58 : decode cX6_rows 58 = .ok (.sipush 400, 3) := by decide +kernel
theorem dX6_rows_61 : decode cX6_rows 61 = .ok (.iload_n 3, 1) := by decide +kernel
theorem dX6_rows_62 : decode cX6_rows 62 = .ok (.imul, 1) := by decide +kernel
theorem dX6_rows_63 : decode cX6_rows 63 = .ok (.iload 5, 2) := by decide +kernel
theorem dX6_rows_65 : decode cX6_rows 65 = .ok (.iadd, 1) := by decide +kernel
theorem dX6_rows_66 : decode cX6_rows 66 = .ok (.iaload, 1) := by decide +kernel
theorem dX6_rows_67 : decode cX6_rows 67 = .ok (.invokevirtual 84, 3) := by decide +kernel
theorem dX6_rows_70 : decode cX6_rows 70 = .ok (.ifCond .le 7, 3) := by decide +kernel
theorem dX6_rows_73 : decode cX6_rows 73 = .ok (.iconst 1, 1) := by decide +kernel
theorem dX6_rows_74 : decode cX6_rows 74 = .ok (.goto 4, 3) := by decide +kernel
theorem dX6_rows_77 : decode cX6_rows 77 = .ok (.iconst 0, 1) := by decide +kernel
theorem dX6_rows_78 : decode cX6_rows 78 = .ok (.iload_n 2, 1) := by decide +kernel
theorem dX6_rows_79 : decode cX6_rows 79 = .ok (.if_icmp .ne 7, 3) := by decide +kernel
theorem dX6_rows_82 : decode cX6_rows 82 = .ok (.iconst 1, 1) := by decide +kernel
theorem dX6_rows_83 : decode cX6_rows 83 = .ok (.goto 4, 3) := by decide +kernel
theorem dX6_rows_86 : decode cX6_rows 86 = .ok (.iconst 0, 1) := by decide +kernel
theorem dX6_rows_87 : decode cX6_rows 87 = .ok (.iadd, 1) := by decide +kernel
theorem dX6_rows_88 : decode cX6_rows 88 = .ok (.istore 4, 2) := by decide +kernel
theorem dX6_rows_90 : decode cX6_rows 90 = .ok (.iinc 5 1, 3) := by decide +kernel
theorem dX6_rows_93 : decode cX6_rows 93 = .ok (.goto (-56), 3) := by decide +kernel
theorem dX6_rows_96 : decode cX6_rows 96 = .ok (.iload 4, 2) := by decide +kernel
theorem dX6_rows_98 : decode cX6_rows 98 = .ok (.ireturn, 1) := by decide +kernel
theorem dX6_groupAt_0 : decode cX6_groupAt 0 = .ok (.iconst 0, 1) := by decide +kernel
theorem dX6_groupAt_1 : decode cX6_groupAt 1 = .ok (.istore_n 2, 1) := by decide +kernel
theorem dX6_groupAt_2 : decode cX6_groupAt 2 = .ok (.iconst 0, 1) := by decide +kernel
theorem dX6_groupAt_3 : decode cX6_groupAt 3 = .ok (.istore_n 3, 1) := by decide +kernel
theorem dX6_groupAt_4 : decode cX6_groupAt 4 = .ok (.iload_n 3, 1) := by decide +kernel
theorem dX6_groupAt_5 : decode cX6_groupAt 5 = .ok (.aload_n 0, 1) := by decide +kernel
theorem dX6_groupAt_6 : decode cX6_groupAt 6 = .ok (.getfield 22, 3) := by decide +kernel
theorem dX6_groupAt_9 : decode cX6_groupAt 9 = .ok (.iconst 0, 1) := by decide +kernel
theorem dX6_groupAt_10 : decode cX6_groupAt 10 = .ok (.iaload, 1) := by decide +kernel
theorem dX6_groupAt_11 : decode cX6_groupAt 11 = .ok (.if_icmp .ge 66, 3) := by decide +kernel
theorem dX6_groupAt_14 : decode cX6_groupAt 14 = .ok (.iload_n 3, 1) := by decide +kernel
theorem dX6_groupAt_15 : decode cX6_groupAt 15 = .ok (.ifCond .eq 20, 3) := by decide +kernel
theorem dX6_groupAt_18 : decode cX6_groupAt 18 = .ok (.aload_n 0, 1) := by decide +kernel
theorem dX6_groupAt_19 : decode cX6_groupAt 19 = .ok (.iconst 0, 1) := by decide +kernel
theorem dX6_groupAt_20 : decode cX6_groupAt 20 = .ok (.iload_n 3, 1) := by decide +kernel
theorem dX6_groupAt_21 : decode cX6_groupAt 21 = .ok (.invokevirtual 63, 3) := by decide +kernel
theorem dX6_groupAt_24 : decode cX6_groupAt 24 = .ok (.aload_n 0, 1) := by decide +kernel
theorem dX6_groupAt_25 : decode cX6_groupAt 25 = .ok (.iconst 0, 1) := by decide +kernel
theorem dX6_groupAt_26 : decode cX6_groupAt 26 = .ok (.iload_n 3, 1) := by decide +kernel
theorem dX6_groupAt_27 : decode cX6_groupAt 27 = .ok (.iconst 1, 1) := by decide +kernel
theorem dX6_groupAt_28 : decode cX6_groupAt 28 = .ok (.isub, 1) := by decide +kernel
theorem dX6_groupAt_29 : decode cX6_groupAt 29 = .ok (.invokevirtual 63, 3) := by decide +kernel
theorem dX6_groupAt_32 : decode cX6_groupAt 32 = .ok (.if_icmp .eq 7, 3) := by decide +kernel
theorem dX6_groupAt_35 : decode cX6_groupAt 35 = .ok (.iconst 1, 1) := by decide +kernel
theorem dX6_groupAt_36 : decode cX6_groupAt 36 = .ok (.goto 4, 3) := by decide +kernel
theorem dX6_groupAt_39 : decode cX6_groupAt 39 = .ok (.iconst 0, 1) := by decide +kernel
theorem dX6_groupAt_40 : decode cX6_groupAt 40 = .ok (.istore 4, 2) := by decide +kernel
theorem dX6_groupAt_42 : decode cX6_groupAt 42 = .ok (.iload 4, 2) := by decide +kernel
theorem dX6_groupAt_44 : decode cX6_groupAt 44 = .ok (.ifCond .eq 27, 3) := by decide +kernel
theorem dX6_groupAt_47 : decode cX6_groupAt 47 = .ok (.aload_n 0, 1) := by decide +kernel
theorem dX6_groupAt_48 : decode cX6_groupAt 48 = .ok (.iconst 1, 1) := by decide +kernel
theorem dX6_groupAt_49 : decode cX6_groupAt 49 = .ok (.aload_n 0, 1) := by decide +kernel
theorem dX6_groupAt_50 : decode cX6_groupAt 50 = .ok (.iconst 0, 1) := by decide +kernel
theorem dX6_groupAt_51 : decode cX6_groupAt 51 = .ok (.iload_n 3, 1) := by decide +kernel
theorem dX6_groupAt_52 : decode cX6_groupAt 52 = .ok (.invokevirtual 63, 3) := by decide +kernel
theorem dX6_groupAt_55 : decode cX6_groupAt 55 = .ok (.invokevirtual 84, 3) := by decide +kernel
theorem dX6_groupAt_58 : decode cX6_groupAt 58 = .ok (.ifCond .le 13, 3) := by decide +kernel
theorem dX6_groupAt_61 : decode cX6_groupAt 61 = .ok (.iload_n 2, 1) := by decide +kernel
theorem dX6_groupAt_62 : decode cX6_groupAt 62 = .ok (.iload_n 1, 1) := by decide +kernel
theorem dX6_groupAt_63 : decode cX6_groupAt 63 = .ok (.if_icmp .ne 5, 3) := by decide +kernel
theorem dX6_groupAt_66 : decode cX6_groupAt 66 = .ok (.iload_n 3, 1) := by decide +kernel
theorem dX6_groupAt_67 : decode cX6_groupAt 67 = .ok (.ireturn, 1) := by decide +kernel
theorem dX6_groupAt_68 : decode cX6_groupAt 68 = .ok (.iinc 2 1, 3) := by decide +kernel
theorem dX6_groupAt_71 : decode cX6_groupAt 71 = .ok (.iinc 3 1, 3) := by decide +kernel
theorem dX6_groupAt_74 : decode cX6_groupAt 74 = .ok (.goto (-70), 3) := by decide +kernel
theorem dX6_groupAt_77 : decode cX6_groupAt 77 = .ok (.iload_n 2, 1) := by decide +kernel
theorem dX6_groupAt_78 : decode cX6_groupAt 78 = .ok (.ireturn, 1) := by decide +kernel
theorem dX6_groups_0 : decode cX6_groups 0 = .ok (.aload_n 0, 1) := by decide +kernel
theorem dX6_groups_1 : decode cX6_groups 1 = .ok (.aload_n 0, 1) := by decide +kernel
theorem dX6_groups_2 : decode cX6_groups 2 = .ok (.getfield 43, 3) := by decide +kernel
theorem dX6_groups_5 : decode cX6_groups 5 = .ok (.ifCond .eq 7, 3) := by decide +kernel
theorem dX6_groups_8 : decode cX6_groups 8 = .ok (.iconst 0, 1) := by decide +kernel
theorem dX6_groups_9 : decode cX6_groups 9 = .ok (.goto 4, 3) := by decide +kernel
theorem dX6_groups_12 : decode cX6_groups 12 = .ok (.iconst 1, 1) := by decide +kernel
theorem dX6_groups_13 : decode cX6_groups 13 = .ok (.invokevirtual 39, 3) := by decide +kernel
theorem dX6_groups_16 : decode cX6_groups 16 = .ok (.ifCond .eq 5, 3) := by decide +kernel
theorem dX6_groups_19 : decode cX6_groups 19 = .ok (.iconst 0, 1) := by decide +kernel
theorem dX6_groups_20 : decode cX6_groups 20 = .ok (.ireturn, 1) := by decide +kernel
theorem dX6_groups_21 : decode cX6_groups 21 = .ok (.aload_n 0, 1) := by decide +kernel
theorem dX6_groups_22 : decode cX6_groups 22 = .ok (.iconst (-1), 1) := by decide +kernel
theorem dX6_groups_23 : decode cX6_groups 23 = .ok (.invokevirtual 93, 3) := by decide +kernel
theorem dX6_groups_26 : decode cX6_groups 26 = .ok (.istore_n 1, 1) := by decide +kernel
theorem dX6_groups_27 : decode cX6_groups 27 = .ok (.aload_n 0, 1) := by decide +kernel
theorem dX6_groups_28 : decode cX6_groups 28 = .ok (.iload_n 1, 1) := by decide +kernel
theorem dX6_groups_29 : decode cX6_groups 29 = .ok (.aload_n 0, 1) := by decide +kernel
theorem dX6_groups_30 : decode cX6_groups 30 = .ok (.getfield 32, 3) := by decide +kernel
theorem dX6_groups_33 : decode cX6_groups 33 = .ok (.if_icmp .gt 7, 3) := by decide +kernel
theorem dX6_groups_36 : decode cX6_groups 36 = .ok (.iconst 1, 1) := by decide +kernel
theorem dX6_groups_37 : decode cX6_groups 37 = .ok (.goto 4, 3) := by decide +kernel
theorem dX6_groups_40 : decode cX6_groups 40 = .ok (.iconst 0, 1) := by decide +kernel
theorem dX6_groups_41 : decode cX6_groups 41 = .ok (.putfield 47, 3) := by decide +kernel
theorem dX6_groups_44 : decode cX6_groups 44 = .ok (.aload_n 0, 1) := by decide +kernel
theorem dX6_groups_45 : decode cX6_groups 45 = .ok (.aload_n 0, 1) := by decide +kernel
theorem dX6_groups_46 : decode cX6_groups 46 = .ok (.getfield 47, 3) := by decide +kernel
theorem dX6_groups_49 : decode cX6_groups 49 = .ok (.ifCond .eq 7, 3) := by decide +kernel
theorem dX6_groups_52 : decode cX6_groups 52 = .ok (.iconst 0, 1) := by decide +kernel
theorem dX6_groups_53 : decode cX6_groups 53 = .ok (.goto 4, 3) := by decide +kernel
theorem dX6_groups_56 : decode cX6_groups 56 = .ok (.iconst 2, 1) := by decide +kernel
theorem dX6_groups_57 : decode cX6_groups 57 = .ok (.invokevirtual 39, 3) := by decide +kernel
theorem dX6_groups_60 : decode cX6_groups 60 = .ok (.ifCond .eq 7, 3) := by decide +kernel
theorem dX6_groups_63 : decode cX6_groups 63 = .ok (.iconst 0, 1) := by decide +kernel
theorem dX6_groups_64 : decode cX6_groups 64 = .ok (.goto 4, 3) := by decide +kernel
theorem dX6_groups_67 : decode cX6_groups 67 = .ok (.iload_n 1, 1) := by decide +kernel
theorem dX6_groups_68 : decode cX6_groups 68 = .ok (.ireturn, 1) := by decide +kernel
theorem dX6_group_0 : decode cX6_group 0 = .ok (.aload_n 0, 1) := by decide +kernel
theorem dX6_group_1 : decode cX6_group 1 = .ok (.getfield 43, 3) := by decide +kernel
theorem dX6_group_4 : decode cX6_group 4 = .ok (.ifCond .eq 14, 3) := by decide +kernel
theorem dX6_group_7 : decode cX6_group 7 = .ok (.aload_n 0, 1) := by decide +kernel
theorem dX6_group_8 : decode cX6_group 8 = .ok (.getfield 47, 3) := by decide +kernel
theorem dX6_group_11 : decode cX6_group 11 = .ok (.ifCond .eq 7, 3) := by decide +kernel
theorem dX6_group_14 : decode cX6_group 14 = .ok (.iconst 1, 1) := by decide +kernel
theorem dX6_group_15 : decode cX6_group 15 = .ok (.goto 4, 3) := by decide +kernel
theorem dX6_group_18 : decode cX6_group 18 = .ok (.iconst 0, 1) := by decide +kernel
theorem dX6_group_19 : decode cX6_group 19 = .ok (.istore_n 3, 1) := by decide +kernel
theorem dX6_group_20 : decode cX6_group 20 = .ok (.aload_n 0, 1) := by decide +kernel
theorem dX6_group_21 : decode cX6_group 21 = .ok (.iload_n 1, 1) := by decide +kernel
theorem dX6_group_22 : decode cX6_group 22 = .ok (.ifCond .lt 25, 3) := by decide +kernel
theorem dX6_group_25 : decode cX6_group 25 = .ok (.iload_n 2, 1) := by decide +kernel
theorem dX6_group_26 : decode cX6_group 26 = .ok (.ifCond .lt 21, 3) := by decide +kernel
theorem dX6_group_29 : decode cX6_group 29 = .ok (.iload_n 2, 1) := by decide +kernel
theorem dX6_group_30 : decode cX6_group 30 = .ok (.iconst 4, 1) := by decide +kernel
theorem dX6_group_31 : decode cX6_group 31 = .ok (.if_icmp .gt 16, 3) := by decide +kernel
theorem dX6_group_34 : decode cX6_group 34 = .ok (.iload_n 3, 1) := by decide +kernel
theorem dX6_group_35 : decode cX6_group 35 = .ok (.ifCond .eq 16, 3) := by decide +kernel
theorem dX6_group_38 : decode cX6_group 38 = .ok (.iload_n 1, 1) := by decide +kernel
theorem dX6_group_39 : decode cX6_group 39 = .ok (.aload_n 0, 1) := by decide +kernel
theorem dX6_group_40 : decode cX6_group 40 = .ok (.iconst (-1), 1) := by decide +kernel
theorem dX6_group_41 : decode cX6_group 41 = .ok (.invokevirtual 93, 3) := by decide +kernel
theorem dX6_group_44 : decode cX6_group 44 = .ok (.if_icmp .lt 7, 3) := by decide +kernel
theorem dX6_group_47 : decode cX6_group 47 = .ok (.iconst 1, 1) := by decide +kernel
theorem dX6_group_48 : decode cX6_group 48 = .ok (.goto 12, 3) := by decide +kernel
theorem dX6_group_51 : decode cX6_group 51 = .ok (.iload_n 3, 1) := by decide +kernel
theorem dX6_group_52 : decode cX6_group 52 = .ok (.ifCond .eq 7, 3) := by decide +kernel
theorem dX6_group_55 : decode cX6_group 55 = .ok (.iconst 0, 1) := by decide +kernel
theorem dX6_group_56 : decode cX6_group 56 = .ok (.goto 4, 3) := by decide +kernel
theorem dX6_group_59 : decode cX6_group 59 = .ok (.iconst 2, 1) := by decide +kernel
theorem dX6_group_60 : decode cX6_group 60 = .ok (.invokevirtual 39, 3) := by decide +kernel
theorem dX6_group_63 : decode cX6_group 63 = .ok (.ifCond .eq 5, 3) := by decide +kernel
theorem dX6_group_66 : decode cX6_group 66 = .ok (.lconst 0, 1) := by decide +kernel
theorem dX6_group_67 : decode cX6_group 67 = .ok (.lreturn, 1) := by decide +kernel
theorem dX6_group_68 : decode cX6_group 68 = .ok (.aload_n 0, 1) := by decide +kernel
theorem dX6_group_69 : decode cX6_group 69 = .ok (.iconst 0, 1) := by decide +kernel
theorem dX6_group_70 : decode cX6_group 70 = .ok (.aload_n 0, 1) := by decide +kernel
theorem dX6_group_71 : decode cX6_group 71 = .ok (.iload_n 1, 1) := by decide +kernel
theorem dX6_group_72 : decode cX6_group 72 = .ok (.invokevirtual 93, 3) := by decide +kernel
theorem dX6_group_75 : decode cX6_group 75 = .ok (.invokevirtual 63, 3) := by decide +kernel
theorem dX6_group_78 : decode cX6_group 78 = .ok (.istore 4, 2) := by decide +kernel
theorem dX6_group_80 : decode cX6_group 80 = .ok (.lconst 0, 1) := by decide +kernel
theorem dX6_group_81 : decode cX6_group 81 = .ok (.lstore 5, 2) := by decide +kernel
theorem dX6_group_83 : decode cX6_group 83 = .ok (.lconst 0, 1) := by decide +kernel
theorem dX6_group_84 : decode cX6_group 84 = .ok (.lstore 7, 2) := by decide +kernel
theorem dX6_group_86 : decode cX6_group 86 = .ok (.aload_n 0, 1) := by decide +kernel
theorem dX6_group_87 : decode cX6_group 87 = .ok (.ldc2_w 96, 3) := by decide +kernel
theorem dX6_group_90 : decode cX6_group 90 = .ok (.putfield 98, 3) := by decide +kernel
theorem dX6_group_93 : decode cX6_group 93 = .ok (.aload_n 0, 1) := by decide +kernel
theorem dX6_group_94 : decode cX6_group 94 = .ok (.ldc2_w 101, 3) := by decide +kernel
theorem dX6_group_97 : decode cX6_group 97 = .ok (.putfield 103, 3) := by decide +kernel
theorem dX6_group_100 : decode cX6_group 100 = .ok (.iconst 0, 1) := by decide +kernel
theorem dX6_group_101 : decode cX6_group 101 = .ok (.istore 9, 2) := by decide +kernel
theorem dX6_group_103 : decode cX6_group 103 = .ok (.iload 9, 2) := by decide +kernel
theorem dX6_group_105 : decode cX6_group 105 = .ok (.aload_n 0, 1) := by decide +kernel
theorem dX6_group_106 : decode cX6_group 106 = .ok (.getfield 22, 3) := by decide +kernel
theorem dX6_group_109 : decode cX6_group 109 = .ok (.iconst 0, 1) := by decide +kernel
theorem dX6_group_110 : decode cX6_group 110 = .ok (.iaload, 1) := by decide +kernel
theorem dX6_group_111 : decode cX6_group 111 = .ok (.if_icmp .ge 139, 3) := by decide +kernel
theorem dX6_group_114 : decode cX6_group 114 = .ok (.iconst 0, 1) := by decide +kernel
theorem dX6_group_115 : decode cX6_group 115 = .ok (.istore 10, 2) := by decide +kernel
theorem dX6_group_117 : decode cX6_group 117 = .ok (.iload 10, 2) := by decide +kernel
theorem dX6_group_119 : decode cX6_group 119 = .ok (.aload_n 0, 1) := by decide +kernel
theorem dX6_group_120 : decode cX6_group 120 = .ok (.getfield 22, 3) := by decide +kernel
theorem dX6_group_123 : decode cX6_group 123 = .ok (.iconst 1, 1) := by decide +kernel
theorem dX6_group_124 : decode cX6_group 124 = .ok (.iaload, 1) := by decide +kernel
theorem dX6_group_125 : decode cX6_group 125 = .ok (.if_icmp .ge 119, 3) := by decide +kernel
theorem dX6_group_128 : decode cX6_group 128 = .ok (.aload_n 0, 1) := by decide +kernel
theorem dX6_group_129 : decode cX6_group 129 = .ok (.getfield 13, 3) := by decide +kernel
theorem dX6_group_132 : decode cX6_group 132 = .ok (.iload 9, 2) := by decide +kernel
theorem dX6_group_134 : decode cX6_group 134 = .ok (.iaload, 1) := by decide +kernel
theorem dX6_group_135 : decode cX6_group 135 = .ok (.iload 4, 2) := by decide +kernel
theorem dX6_group_137 : decode cX6_group 137 = .ok (.if_icmp .ne 107, 3) := by decide +kernel
theorem dX6_group_140 : decode cX6_group 140 = .ok (.aload_n 0, 1) := by decide +kernel
theorem dX6_group_141 : decode cX6_group 141 = .ok (.getfield 13, 3) := by decide +kernel
theorem dX6_group_144 : decode cX6_group 144 = .ok (.sipush 400, 3) := by decide +kernel
theorem dX6_group_147 : decode cX6_group 147 = .ok (.iload 10, 2) := by decide +kernel
theorem dX6_group_149 : decode cX6_group 149 = .ok (.iadd, 1) := by decide +kernel
theorem dX6_group_150 : decode cX6_group 150 = .ok (.iaload, 1) := by decide +kernel
theorem dX6_group_151 : decode cX6_group 151 = .ok (.iload 4, 2) := by decide +kernel
theorem dX6_group_153 : decode cX6_group 153 = .ok (.if_icmp .ne 85, 3) := by decide +kernel
theorem dX6_group_156 : decode cX6_group 156 = .ok (.aload_n 0, 1) := by decide +kernel
theorem dX6_group_157 : decode cX6_group 157 = .ok (.getfield 16, 3) := by decide +kernel
theorem dX6_group_160 : decode cX6_group 160 = .ok (.iload 9, 2) := by decide +kernel
theorem dX6_group_162 : decode cX6_group 162 = .ok (.iaload, 1) := by decide +kernel
theorem dX6_group_163 : decode cX6_group 163 = .ok (.i2l, 1) := by decide +kernel
theorem dX6_group_164 : decode cX6_group 164 = .ok (.aload_n 0, 1) := by decide +kernel
theorem dX6_group_165 : decode cX6_group 165 = .ok (.getfield 16, 3) := by decide +kernel
theorem dX6_group_168 : decode cX6_group 168 = .ok (.sipush 400, 3) := by decide +kernel
theorem dX6_group_171 : decode cX6_group 171 = .ok (.iload 10, 2) := by decide +kernel
theorem dX6_group_173 : decode cX6_group 173 = .ok (.iadd, 1) := by decide +kernel
theorem dX6_group_174 : decode cX6_group 174 = .ok (.iaload, 1) := by decide +kernel
theorem dX6_group_175 : decode cX6_group 175 = .ok (.i2l, 1) := by decide +kernel
theorem dX6_group_176 : decode cX6_group 176 = .ok (.lmul, 1) := by decide +kernel
theorem dX6_group_177 : decode cX6_group 177 = .ok (.lstore 11, 2) := by decide +kernel
theorem dX6_group_179 : decode cX6_group 179 = .ok (.lload 5, 2) := by decide +kernel
theorem dX6_group_181 : decode cX6_group 181 = .ok (.lload 11, 2) := by decide +kernel
theorem dX6_group_183 : decode cX6_group 183 = .ok (.ladd, 1) := by decide +kernel
theorem dX6_group_184 : decode cX6_group 184 = .ok (.lstore 5, 2) := by decide +kernel
theorem dX6_group_186 : decode cX6_group 186 = .ok (.lload 7, 2) := by decide +kernel
theorem dX6_group_188 : decode cX6_group 188 = .ok (.lconst 1, 1) := by decide +kernel
theorem dX6_group_189 : decode cX6_group 189 = .ok (.ladd, 1) := by decide +kernel
theorem dX6_group_190 : decode cX6_group 190 = .ok (.lstore 7, 2) := by decide +kernel
theorem dX6_group_192 : decode cX6_group 192 = .ok (.aload_n 0, 1) := by decide +kernel
theorem dX6_group_193 : decode cX6_group 193 = .ok (.lload 11, 2) := by decide +kernel
theorem dX6_group_195 : decode cX6_group 195 = .ok (.aload_n 0, 1) := by decide +kernel
theorem dX6_group_196 : decode cX6_group 196 = .ok (.getfield 98, 3) := by decide +kernel
theorem dX6_group_199 : decode cX6_group 199 = .ok (.lcmp, 1) := by decide +kernel
theorem dX6_group_200 : decode cX6_group 200 = .ok (.ifCond .ge 8, 3) := by decide +kernel
theorem dX6_group_203 : decode cX6_group 203 = .ok (.lload 11, 2) := by decide +kernel
theorem dX6_group_205 : decode cX6_group 205 = .ok (.goto 7, 3) := by decide +kernel
theorem dX6_group_208 : decode cX6_group 208 = .ok (.aload_n 0, 1) := by decide +kernel
theorem dX6_group_209 : decode cX6_group 209 = .ok (.getfield 98, 3) := by decide +kernel
theorem dX6_group_212 : decode cX6_group 212 = .ok (.putfield 98, 3) := by decide +kernel
theorem dX6_group_215 : decode cX6_group 215 = .ok (.aload_n 0, 1) := by decide +kernel
theorem dX6_group_216 : decode cX6_group 216 = .ok (.lload 11, 2) := by decide +kernel
theorem dX6_group_218 : decode cX6_group 218 = .ok (.aload_n 0, 1) := by decide +kernel
theorem dX6_group_219 : decode cX6_group 219 = .ok (.getfield 103, 3) := by decide +kernel
theorem dX6_group_222 : decode cX6_group 222 = .ok (.lcmp, 1) := by decide +kernel
theorem dX6_group_223 : decode cX6_group 223 = .ok (.ifCond .le 8, 3) := by decide +kernel
theorem dX6_group_226 : decode cX6_group 226 = .ok (.lload 11, 2) := by decide +kernel
theorem dX6_group_228 : decode cX6_group 228 = .ok (.goto 7, 3) := by decide +kernel
theorem dX6_group_231 : decode cX6_group 231 = .ok (.aload_n 0, 1) := by decide +kernel
theorem dX6_group_232 : decode cX6_group 232 = .ok (.getfield 103, 3) := by decide +kernel
theorem dX6_group_235 : decode cX6_group 235 = .ok (.putfield 103, 3) := by decide +kernel
theorem dX6_group_238 : decode cX6_group 238 = .ok (.iinc 10 1, 3) := by decide +kernel
theorem dX6_group_241 : decode cX6_group 241 = .ok (.goto (-124), 3) := by decide +kernel
theorem dX6_group_244 : decode cX6_group 244 = .ok (.iinc 9 1, 3) := by decide +kernel
theorem dX6_group_247 : decode cX6_group 247 = .ok (.goto (-144), 3) := by decide +kernel
theorem dX6_group_250 : decode cX6_group 250 = .ok (.iload_n 2, 1) := by decide +kernel
theorem dX6_group_251 : decode cX6_group 251 = .ok (.ifCond .ne 9, 3) := by decide +kernel
theorem dX6_group_254 : decode cX6_group 254 = .ok (.iload 4, 2) := by decide +kernel
theorem dX6_group_256 : decode cX6_group 256 = .ok (.i2l, 1) := by decide +kernel
theorem dX6_group_257 : decode cX6_group 257 = .ok (.goto 39, 3) := by decide +kernel
theorem dX6_group_260 : decode cX6_group 260 = .ok (.iload_n 2, 1) := by decide +kernel
theorem dX6_group_261 : decode cX6_group 261 = .ok (.iconst 1, 1) := by decide +kernel
theorem dX6_group_262 : decode cX6_group 262 = .ok (.if_icmp .ne 8, 3) := by decide +kernel
theorem dX6_group_265 : decode cX6_group 265 = .ok (.lload 7, 2) := by decide +kernel
theorem dX6_group_267 : decode cX6_group 267 = .ok (.goto 29, 3) := by decide +kernel
theorem dX6_group_270 : decode cX6_group 270 = .ok (.iload_n 2, 1) := by decide +kernel
theorem dX6_group_271 : decode cX6_group 271 = .ok (.iconst 2, 1) := by decide +kernel
theorem dX6_group_272 : decode cX6_group 272 = .ok (.if_icmp .ne 8, 3) := by decide +kernel
theorem dX6_group_275 : decode cX6_group 275 = .ok (.lload 5, 2) := by decide +kernel
theorem dX6_group_277 : decode cX6_group 277 = .ok (.goto 19, 3) := by decide +kernel
theorem dX6_group_280 : decode cX6_group 280 = .ok (.iload_n 2, 1) := by decide +kernel
theorem dX6_group_281 : decode cX6_group 281 = .ok (.iconst 3, 1) := by decide +kernel
theorem dX6_group_282 : decode cX6_group 282 = .ok (.if_icmp .ne 10, 3) := by decide +kernel
theorem dX6_group_285 : decode cX6_group 285 = .ok (.aload_n 0, 1) := by decide +kernel
theorem dX6_group_286 : decode cX6_group 286 = .ok (.getfield 98, 3) := by decide +kernel
theorem dX6_group_289 : decode cX6_group 289 = .ok (.goto 7, 3) := by decide +kernel
theorem dX6_group_292 : decode cX6_group 292 = .ok (.aload_n 0, 1) := by decide +kernel
theorem dX6_group_293 : decode cX6_group 293 = .ok (.getfield 103, 3) := by decide +kernel
theorem dX6_group_296 : decode cX6_group 296 = .ok (.lreturn, 1) := by decide +kernel
theorem dX6_sorted_0 : decode cX6_sorted 0 = .ok (.iload_n 1, 1) := by decide +kernel
theorem dX6_sorted_1 : decode cX6_sorted 1 = .ok (.ifCond .eq 7, 3) := by decide +kernel
theorem dX6_sorted_4 : decode cX6_sorted 4 = .ok (.iconst 0, 1) := by decide +kernel
theorem dX6_sorted_5 : decode cX6_sorted 5 = .ok (.goto 4, 3) := by decide +kernel
theorem dX6_sorted_8 : decode cX6_sorted 8 = .ok (.iconst 1, 1) := by decide +kernel
theorem dX6_sorted_9 : decode cX6_sorted 9 = .ok (.istore 4, 2) := by decide +kernel
theorem dX6_sorted_11 : decode cX6_sorted 11 = .ok (.aload_n 0, 1) := by decide +kernel
theorem dX6_sorted_12 : decode cX6_sorted 12 = .ok (.iload_n 2, 1) := by decide +kernel
theorem dX6_sorted_13 : decode cX6_sorted 13 = .ok (.ifCond .lt 23, 3) := by decide +kernel
theorem dX6_sorted_16 : decode cX6_sorted 16 = .ok (.iload_n 2, 1) := by decide +kernel
theorem dX6_sorted_17 : decode cX6_sorted 17 = .ok (.aload_n 0, 1) := by decide +kernel
theorem dX6_sorted_18 : decode cX6_sorted 18 = .ok (.getfield 22, 3) := by decide +kernel
theorem dX6_sorted_21 : decode cX6_sorted 21 = .ok (.iload 4, 2) := by decide +kernel
theorem dX6_sorted_23 : decode cX6_sorted 23 = .ok (.iaload, 1) := by decide +kernel
theorem dX6_sorted_24 : decode cX6_sorted 24 = .ok (.if_icmp .ge 12, 3) := by decide +kernel
theorem dX6_sorted_27 : decode cX6_sorted 27 = .ok (.iload_n 3, 1) := by decide +kernel
theorem dX6_sorted_28 : decode cX6_sorted 28 = .ok (.ifCond .lt 8, 3) := by decide +kernel
theorem dX6_sorted_31 : decode cX6_sorted 31 = .ok (.iload_n 3, 1) := by decide +kernel
theorem dX6_sorted_32 : decode cX6_sorted 32 = .ok (.iconst 2, 1) := by decide +kernel
theorem dX6_sorted_33 : decode cX6_sorted 33 = .ok (.if_icmp .le 7, 3) := by decide +kernel
theorem dX6_sorted_36 : decode cX6_sorted 36 = .ok (.iconst 1, 1) := by decide +kernel
theorem dX6_sorted_37 : decode cX6_sorted 37 = .ok (.goto 15, 3) := by decide +kernel
theorem dX6_sorted_40 : decode cX6_sorted 40 = .ok (.aload_n 0, 1) := by decide +kernel
theorem dX6_sorted_41 : decode cX6_sorted 41 = .ok (.getfield 43, 3) := by decide +kernel
theorem dX6_sorted_44 : decode cX6_sorted 44 = .ok (.ifCond .eq 7, 3) := by decide +kernel
theorem dX6_sorted_47 : decode cX6_sorted 47 = .ok (.iconst 0, 1) := by decide +kernel
theorem dX6_sorted_48 : decode cX6_sorted 48 = .ok (.goto 4, 3) := by decide +kernel
theorem dX6_sorted_51 : decode cX6_sorted 51 = .ok (.iconst 2, 1) := by decide +kernel
theorem dX6_sorted_52 : decode cX6_sorted 52 = .ok (.invokevirtual 39, 3) := by decide +kernel
theorem dX6_sorted_55 : decode cX6_sorted 55 = .ok (.ifCond .eq 5, 3) := by decide +kernel
theorem dX6_sorted_58 : decode cX6_sorted 58 = .ok (.iconst 0, 1) := by decide +kernel
theorem dX6_sorted_59 : decode cX6_sorted 59 = .ok (.ireturn, 1) := by decide +kernel
theorem dX6_sorted_60 : decode cX6_sorted 60 = .ok (.iload_n 3, 1) := by decide +kernel
theorem dX6_sorted_61 : decode cX6_sorted 61 = .ok (.ifCond .ne 13, 3) := by decide +kernel
theorem dX6_sorted_64 : decode cX6_sorted 64 = .ok (.aload_n 0, 1) := by decide +kernel
theorem dX6_sorted_65 : decode cX6_sorted 65 = .ok (.iload 4, 2) := by decide +kernel
theorem dX6_sorted_67 : decode cX6_sorted 67 = .ok (.iload_n 2, 1) := by decide +kernel
theorem dX6_sorted_68 : decode cX6_sorted 68 = .ok (.invokevirtual 63, 3) := by decide +kernel
theorem dX6_sorted_71 : decode cX6_sorted 71 = .ok (.goto 31, 3) := by decide +kernel
theorem dX6_sorted_74 : decode cX6_sorted 74 = .ok (.iload_n 3, 1) := by decide +kernel
theorem dX6_sorted_75 : decode cX6_sorted 75 = .ok (.iconst 1, 1) := by decide +kernel
theorem dX6_sorted_76 : decode cX6_sorted 76 = .ok (.if_icmp .ne 13, 3) := by decide +kernel
theorem dX6_sorted_79 : decode cX6_sorted 79 = .ok (.aload_n 0, 1) := by decide +kernel
theorem dX6_sorted_80 : decode cX6_sorted 80 = .ok (.iload 4, 2) := by decide +kernel
theorem dX6_sorted_82 : decode cX6_sorted 82 = .ok (.iload_n 2, 1) := by decide +kernel
theorem dX6_sorted_83 : decode cX6_sorted 83 = .ok (.invokevirtual 81, 3) := by decide +kernel
theorem dX6_sorted_86 : decode cX6_sorted 86 = .ok (.goto 16, 3) := by decide +kernel
theorem dX6_sorted_89 : decode cX6_sorted 89 = .ok (.aload_n 0, 1) := by decide +kernel
theorem dX6_sorted_90 : decode cX6_sorted 90 = .ok (.getfield 19, 3) := by decide +kernel
theorem dX6_sorted_93 : decode cX6_sorted 93 = .ok (.sipush 400, 3) := by decide +kernel
theorem dX6_sorted_96 : decode cX6_sorted 96 = .ok (.iload 4, 2) := by decide +kernel
theorem dX6_sorted_98 : decode cX6_sorted 98 = .ok (.imul, 1) := by decide +kernel
theorem dX6_sorted_99 : decode cX6_sorted 99 = .ok (.iload_n 2, 1) := by decide +kernel
theorem dX6_sorted_100 : decode cX6_sorted 100 = .ok (.iadd, 1) := by decide +kernel
theorem dX6_sorted_101 : decode cX6_sorted 101 = .ok (.iaload, 1) := by decide +kernel
theorem dX6_sorted_102 : decode cX6_sorted 102 = .ok (.ireturn, 1) := by decide +kernel
theorem dX6_about_0 : decode cX6_about 0 = .ok (.aload_n 0, 1) := by decide +kernel
theorem dX6_about_1 : decode cX6_about 1 = .ok (.iload_n 1, 1) := by decide +kernel
theorem dX6_about_2 : decode cX6_about 2 = .ok (.ifCond .lt 8, 3) := by decide +kernel
theorem dX6_about_5 : decode cX6_about 5 = .ok (.iload_n 1, 1) := by decide +kernel
theorem dX6_about_6 : decode cX6_about 6 = .ok (.iconst 4, 1) := by decide +kernel
theorem dX6_about_7 : decode cX6_about 7 = .ok (.if_icmp .le 7, 3) := by decide +kernel
theorem dX6_about_10 : decode cX6_about 10 = .ok (.iconst 1, 1) := by decide +kernel
theorem dX6_about_11 : decode cX6_about 11 = .ok (.goto 4, 3) := by decide +kernel
theorem dX6_about_14 : decode cX6_about 14 = .ok (.iconst 0, 1) := by decide +kernel
theorem dX6_about_15 : decode cX6_about 15 = .ok (.invokevirtual 39, 3) := by decide +kernel
theorem dX6_about_18 : decode cX6_about 18 = .ok (.ifCond .eq 5, 3) := by decide +kernel
theorem dX6_about_21 : decode cX6_about 21 = .ok (.lconst 0, 1) := by decide +kernel
theorem dX6_about_22 : decode cX6_about 22 = .ok (.lreturn, 1) := by decide +kernel
theorem dX6_about_23 : decode cX6_about 23 = .ok (.iload_n 1, 1) := by decide +kernel
theorem dX6_about_24 : decode cX6_about 24 = .ok (.ifCond .ne 10, 3) := by decide +kernel
theorem dX6_about_27 : decode cX6_about 27 = .ok (.aload_n 0, 1) := by decide +kernel
theorem dX6_about_28 : decode cX6_about 28 = .ok (.getfield 53, 3) := by decide +kernel
theorem dX6_about_31 : decode cX6_about 31 = .ok (.goto 45, 3) := by decide +kernel
theorem dX6_about_34 : decode cX6_about 34 = .ok (.iload_n 1, 1) := by decide +kernel
theorem dX6_about_35 : decode cX6_about 35 = .ok (.iconst 3, 1) := by decide +kernel
theorem dX6_about_36 : decode cX6_about 36 = .ok (.if_icmp .ge 15, 3) := by decide +kernel
theorem dX6_about_39 : decode cX6_about 39 = .ok (.aload_n 0, 1) := by decide +kernel
theorem dX6_about_40 : decode cX6_about 40 = .ok (.getfield 22, 3) := by decide +kernel
theorem dX6_about_43 : decode cX6_about 43 = .ok (.iload_n 1, 1) := by decide +kernel
theorem dX6_about_44 : decode cX6_about 44 = .ok (.iconst 1, 1) := by decide +kernel
theorem dX6_about_45 : decode cX6_about 45 = .ok (.isub, 1) := by decide +kernel
theorem dX6_about_46 : decode cX6_about 46 = .ok (.iaload, 1) := by decide +kernel
theorem dX6_about_47 : decode cX6_about 47 = .ok (.i2l, 1) := by decide +kernel
theorem dX6_about_48 : decode cX6_about 48 = .ok (.goto 28, 3) := by decide +kernel
theorem dX6_about_51 : decode cX6_about 51 = .ok (.iload_n 1, 1) := by decide +kernel
theorem dX6_about_52 : decode cX6_about 52 = .ok (.iconst 3, 1) := by decide +kernel
theorem dX6_about_53 : decode cX6_about 53 = .ok (.if_icmp .ne 18, 3) := by decide +kernel
theorem dX6_about_56 : decode cX6_about 56 = .ok (.aload_n 0, 1) := by decide +kernel
theorem dX6_about_57 : decode cX6_about 57 = .ok (.getfield 43, 3) := by decide +kernel
theorem dX6_about_60 : decode cX6_about 60 = .ok (.ifCond .eq 7, 3) := by decide +kernel
theorem dX6_about_63 : decode cX6_about 63 = .ok (.lconst 1, 1) := by decide +kernel
theorem dX6_about_64 : decode cX6_about 64 = .ok (.goto 12, 3) := by decide +kernel
theorem dX6_about_67 : decode cX6_about 67 = .ok (.lconst 0, 1) := by decide +kernel
theorem dX6_about_68 : decode cX6_about 68 = .ok (.goto 8, 3) := by decide +kernel
theorem dX6_about_71 : decode cX6_about 71 = .ok (.aload_n 0, 1) := by decide +kernel
theorem dX6_about_72 : decode cX6_about 72 = .ok (.getfield 60, 3) := by decide +kernel
theorem dX6_about_75 : decode cX6_about 75 = .ok (.i2l, 1) := by decide +kernel
theorem dX6_about_76 : decode cX6_about 76 = .ok (.lreturn, 1) := by decide +kernel
theorem dX6_clear_0 : decode cX6_clear 0 = .ok (.aload_n 0, 1) := by decide +kernel
theorem dX6_clear_1 : decode cX6_clear 1 = .ok (.iconst 0, 1) := by decide +kernel
theorem dX6_clear_2 : decode cX6_clear 2 = .ok (.putfield 36, 3) := by decide +kernel
theorem dX6_clear_5 : decode cX6_clear 5 = .ok (.aload_n 0, 1) := by decide +kernel
theorem dX6_clear_6 : decode cX6_clear 6 = .ok (.getfield 22, 3) := by decide +kernel
theorem dX6_clear_9 : decode cX6_clear 9 = .ok (.iconst 0, 1) := by decide +kernel
theorem dX6_clear_10 : decode cX6_clear 10 = .ok (.iconst 0, 1) := by decide +kernel
theorem dX6_clear_11 : decode cX6_clear 11 = .ok (.iastore, 1) := by decide +kernel
theorem dX6_clear_12 : decode cX6_clear 12 = .ok (.aload_n 0, 1) := by decide +kernel
theorem dX6_clear_13 : decode cX6_clear 13 = .ok (.getfield 22, 3) := by decide +kernel
theorem dX6_clear_16 : decode cX6_clear 16 = .ok (.iconst 1, 1) := by decide +kernel
theorem dX6_clear_17 : decode cX6_clear 17 = .ok (.iconst 0, 1) := by decide +kernel
theorem dX6_clear_18 : decode cX6_clear 18 = .ok (.iastore, 1) := by decide +kernel
theorem dX6_clear_19 : decode cX6_clear 19 = .ok (.aload_n 0, 1) := by decide +kernel
theorem dX6_clear_20 : decode cX6_clear 20 = .ok (.iconst 0, 1) := by decide +kernel
theorem dX6_clear_21 : decode cX6_clear 21 = .ok (.putfield 60, 3) := by decide +kernel
theorem dX6_clear_24 : decode cX6_clear 24 = .ok (.aload_n 0, 1) := by decide +kernel
theorem dX6_clear_25 : decode cX6_clear 25 = .ok (.iconst 0, 1) := by decide +kernel
theorem dX6_clear_26 : decode cX6_clear 26 = .ok (.putfield 43, 3) := by decide +kernel
theorem dX6_clear_29 : decode cX6_clear 29 = .ok (.aload_n 0, 1) := by decide +kernel
theorem dX6_clear_30 : decode cX6_clear 30 = .ok (.iconst 0, 1) := by decide +kernel
theorem dX6_clear_31 : decode cX6_clear 31 = .ok (.putfield 47, 3) := by decide +kernel
theorem dX6_clear_34 : decode cX6_clear 34 = .ok (.aload_n 0, 1) := by decide +kernel
theorem dX6_clear_35 : decode cX6_clear 35 = .ok (.iconst 0, 1) := by decide +kernel
theorem dX6_clear_36 : decode cX6_clear 36 = .ok (.putfield 57, 3) := by decide +kernel
theorem dX6_clear_39 : decode cX6_clear 39 = .ok (.aload_n 0, 1) := by decide +kernel
theorem dX6_clear_40 : decode cX6_clear 40 = .ok (.lconst 0, 1) := by decide +kernel
theorem dX6_clear_41 : decode cX6_clear 41 = .ok (.putfield 53, 3) := by decide +kernel
theorem dX6_clear_44 : decode cX6_clear 44 = .ok (.aload_n 0, 1) := by decide +kernel
theorem dX6_clear_45 : decode cX6_clear 45 = .ok (.invokevirtual 50, 3) := by decide +kernel
theorem dX6_clear_48 : decode cX6_clear 48 = .ok (.return_, 1) := by decide +kernel
end
section
/-! what a throw rests on, and the two methods that throw -/
section JZ
def jE : List String := ["java/lang/IllegalArgumentException", "java/lang/IllegalStateException", "java/lang/UnsupportedOperationException"]
def jY : List String := ["java/lang/RuntimeException", "java/lang/Exception", "java/lang/Throwable"]
/-- statics of Throwable that hold a reference or null; the three texts; the exceptions' classes among each other -/
def jZ (A : Nat → Prop) (U : State) (H : Heap) : Prop := vx_Zq Bundle.tN "UNASSIGNED_STACK" Bundle.steD A U H ∧ vx_Zq Bundle.tN "SUPPRESSED_SENTINEL" Bundle.listD A U H ∧ (∃ a, vk_R "JoinDesk" 177 "a number is not as it may be" a U) ∧ (∃ a, vk_R "JoinDesk" 182 "not in this state" a U) ∧ (∃ a, vk_R "JoinDesk" 140 "more groups than there is room for" a U) ∧ (∀ E ∈ jE, va_Nw (.castable E E) U) ∧ (∀ E ∈ jE, ∀ F ∈ jE, E ≠ F → va_Nc E F U) ∧ (∀ Y ∈ jY, va_Nw (.declares ⟨Y, "<init>", "(Ljava/lang/String;)V"⟩) U)
theorem jZ.warm {A : Nat → Prop} {s U : State} {H : Heap} (hW : s.WarmedH U.vm) (h : jZ A s H) : jZ A U H := by
  obtain ⟨h1, h2, ⟨a3, h3⟩, ⟨a4, h4⟩, ⟨a5, h5⟩, h6, h7, h8⟩ := h
  exact ⟨h1.moved hW.alike, h2.moved hW.alike, ⟨a3, vk_R.warm hW h3⟩, ⟨a4, vk_R.warm hW h4⟩, ⟨a5, vk_R.warm hW h5⟩, fun E hE => va_Nw.warmC hW (h6 E hE), fun E hE F hF hn => (h7 E hE F hF hn).moved hW.alike, fun Y hY => va_Nw.warmD hW (h8 Y hY)⟩
theorem jZ.same {A : Nat → Prop} {s U : State} {H : Heap} (hv : s.vm = U.vm) (h : jZ A s H) : jZ A U H := by
  obtain ⟨h1, h2, ⟨a3, h3⟩, ⟨a4, h4⟩, ⟨a5, h5⟩, h6, h7, h8⟩ := h
  have al : s.vm.Alike U.vm := by rw [hv]; exact Vm.Alike.refl _
  exact ⟨h1.moved al, h2.moved al, ⟨a3, vk_R.same hv.symm h3⟩, ⟨a4, vk_R.same hv.symm h4⟩, ⟨a5, vk_R.same hv.symm h5⟩, fun E hE => va_Nw.same rfl hv (h6 E hE), fun E hE F hF hn => (h7 E hE F hF hn).moved al, fun Y hY => va_Nw.same rfl hv (h8 Y hY)⟩
/-- behind other steps: the cells outside A are as they were -/
theorem jZ.kept {A : Nat → Prop} {s : State} {H0 H : Heap} {locs : List Loc} (hS : va_S A H0 H locs) (h : jZ A s H0) : jZ (fun _ => False) s H := by
  obtain ⟨h1, h2, h3⟩ := h
  exact ⟨(h1.kept hS.2.1).narrow (fun _ h => h.elim), (h2.kept hS.2.1).narrow (fun _ h => h.elim), h3⟩
variable {p : Program} {l : Launch} {e : Env} {R : Room} {s : State} {m : MethodId} {args : Array Value} {below : List Frame} {meth : Method} {c : Code} {H : Heap} {locs : List Loc} {cells slots : Nat} {Q : State → Prop}
variable {D : va_G} {cl : List vw_C} {tys : List (ClassId × FieldType)} {cL cQ : ClassId} {w wc : va_W} {As : List Value} {C : String} {b : Addr}
/-- the start of a method that throws -/
def jt_P (D : va_G) (cl : List vw_C) (tys : List (ClassId × FieldType)) (cL cQ : ClassId) (av : List Value) (wc : va_W) : Array Value → State → Prop := va_Pc av (fun U => va_P D cl wc U.heap ∧ va_K D cl tys U ∧ jN cL cQ U ∧ jZ (fun _ => False) U U.heap)
theorem jt_blind {av : List Value} : FrameBlind (jt_P D cl tys cL cQ av wc) := fun a U g mk q => by
  obtain ⟨q0, qP, qK, qN, qZ⟩ := q
  exact ⟨q0, qP, va_K.moved (u := U) (U := U.calling g mk a) (Vm.Alike.refl U.vm) qK, jN.same (s := U) rfl qN, jZ.same (s := U) rfl qZ⟩
theorem jt_S (hK : va_K D cl tys s) (hN : jN cL cQ s) (hZ : jZ (fun _ => False) s H) (hP : va_P D cl w H) (is : List Nat) (hs : is.filterMap (fun i => w[i]?) = wc) : PreS s H (jt_P D cl tys cL cQ As wc) As :=
  ⟨jt_blind, fun U hU hW => ⟨rfl, by rw [hU]; exact hP.sub is hs, va_K.moved hW.alike hK, hN.warm hW, by rw [hU]; exact hZ.warm hW⟩⟩
theorem jt_V (hK : va_K D cl tys s) (hN : jN cL cQ s) (hZ : jZ (fun _ => False) s H) (hP : va_P D cl w H) (is : List Nat) (hs : is.filterMap (fun i => w[i]?) = wc) (ci q0 : Nat) {q : vw_C} {fs : List Value} (hc : cl[ci]? = some q) (hq : q.1 = C) (he : w[q0]? = some (b, .inr (ci, fs))) : PreV s H C b (jt_P D cl tys cL cQ (.ref b :: As) wc) As :=
  ⟨jt_blind, by rw [← hq]; exact va_recv hK hP hc he, fun U hU hW => ⟨rfl, by rw [hU]; exact hP.sub is hs, va_K.moved hW.alike hK, hN.warm hW, by rw [hU]; exact hZ.warm hW⟩⟩
end JZ
set_option maxHeartbeats 4000000 in
set_option maxRecDepth 100000 in
/-- requireState(false): it throws, no cell changes -/
theorem cJ_requireState_t (l : Launch) (hnt : l.stackTraces = false) (D : va_G) (cI cL cQ : ClassId) : vx_Met l yX5_requireState wsX5_requireState ({ frames := 6, cells := 1, slots := 6, locals := 82 }) (jt_P D vwCl (jT cI cL cQ) cL cQ [.int 0] []) (fun _ _ _ _ => False) (jx_X "java/lang/IllegalStateException") 1 6 (fun _ => False) := by
  refine vx_ofW (cc := cX5_requireState) (maxL := 1) (ret := none) (by decide) rfl ?_
  intro p e s m args below meth c s₁ B hml hxt hv
  obtain ⟨rfl, hP, hK, hN, hZ⟩ := hv
  have hx := B.exec
  have hb := B.bytes
  have hts := atoms_spec (ws := wsX5_requireState) B.pre
  have hown : s.vm.findClass RX5 = some m.cls := findClass_of_methodNamed B.named
  have hlocks := B.notSynchronized
  have hl := lv_entry ([.int 0]) (n := 1) (Nat.le_of_ble_eq_true rfl)
  rw [lg_entry_eq]
  generalize (lg_sl ([.int 0]) ++ List.replicate (1 - (lg_sl ([.int 0])).length) Slot.unset).toArray = ls at hl ⊢
  have hl : lv_has ls 1 [(0, .int 0)] := hl
  refine lv_iload_n hx hb dX5_requireState_0 rfl (lv_at hl 0 rfl) ?_
  refine lv_if_ne (tgt := 14) hx hb dX5_requireState_1 (by decide) (fun c_1 => absurd rfl c_1) (fun c_1 => ?_)
  obtain ⟨hU, hV, -, ⟨sa, hstr⟩, -, hE, -, hY⟩ := hZ
  exact vx_throwS (A := fun _ => False) (names := ["java/lang/RuntimeException", "java/lang/Exception"]) hx hb hnt hown (by decide +kernel) (by decide +kernel) (hts (.classLink RX5 180 "java/lang/IllegalStateException") (by decide +kernel)) (hts (.initialized "java/lang/IllegalStateException") (by decide +kernel)) hstr
    (vx_hat (B := [.castable "java/lang/IllegalStateException" "java/lang/IllegalStateException", .declares ⟨"java/lang/RuntimeException", "<init>", "(Ljava/lang/String;)V"⟩, .declares ⟨"java/lang/Exception", "<init>", "(Ljava/lang/String;)V"⟩, .declares ⟨"java/lang/Throwable", "<init>", "(Ljava/lang/String;)V"⟩]) (fun w hw => hts w (List.mem_cons_of_mem _ (List.mem_append_right _ hw))) (by decide +kernel) (vx_c (va_Nw.use rfl (hE _ (by decide +kernel))) (vx_c (va_Nw.use rfl (hY "java/lang/RuntimeException" (by decide +kernel))) (vx_c (va_Nw.use rfl (hY "java/lang/Exception" (by decide +kernel))) (vx_c (va_Nw.use rfl (hY "java/lang/Throwable" (by decide +kernel))) vx_n))))) (by decide +kernel) hU hV va_S.rf (hl.1.trans hml.symm)
    dX5_requireState_4 dX5_requireState_7 dX5_requireState_8 dX5_requireState_10 dX5_requireState_13 (fun x hx => (hxt x hx).elim) (Nat.le_of_ble_eq_true rfl) (Nat.le_of_ble_eq_true rfl) (Nat.le_of_ble_eq_true rfl) (Nat.le_of_ble_eq_true rfl) hlocks
    (fun t _ hz hk => ⟨rfl, hz, fun q h _ => hk q h⟩) (fun z hz => nomatch hz) (Nat.le_of_ble_eq_true rfl) (Nat.le_of_ble_eq_true rfl)
set_option maxHeartbeats 4000000 in
set_option maxRecDepth 100000 in
/-- requireArgument(false): it throws, no cell changes -/
theorem cJ_requireArgument_t (l : Launch) (hnt : l.stackTraces = false) (D : va_G) (cI cL cQ : ClassId) : vx_Met l yX5_requireArgument wsX5_requireArgument ({ frames := 6, cells := 1, slots := 6, locals := 82 }) (jt_P D vwCl (jT cI cL cQ) cL cQ [.int 0] []) (fun _ _ _ _ => False) (jx_X "java/lang/IllegalArgumentException") 1 6 (fun _ => False) := by
  refine vx_ofW (cc := cX5_requireArgument) (maxL := 1) (ret := none) (by decide) rfl ?_
  intro p e s m args below meth c s₁ B hml hxt hv
  obtain ⟨rfl, hP, hK, hN, hZ⟩ := hv
  have hx := B.exec
  have hb := B.bytes
  have hts := atoms_spec (ws := wsX5_requireArgument) B.pre
  have hown : s.vm.findClass RX5 = some m.cls := findClass_of_methodNamed B.named
  have hlocks := B.notSynchronized
  have hl := lv_entry ([.int 0]) (n := 1) (Nat.le_of_ble_eq_true rfl)
  rw [lg_entry_eq]
  generalize (lg_sl ([.int 0]) ++ List.replicate (1 - (lg_sl ([.int 0])).length) Slot.unset).toArray = ls at hl ⊢
  have hl : lv_has ls 1 [(0, .int 0)] := hl
  refine lv_iload_n hx hb dX5_requireArgument_0 rfl (lv_at hl 0 rfl) ?_
  refine lv_if_ne (tgt := 14) hx hb dX5_requireArgument_1 (by decide) (fun c_1 => absurd rfl c_1) (fun c_1 => ?_)
  obtain ⟨hU, hV, ⟨sa, hstr⟩, -, -, hE, -, hY⟩ := hZ
  exact vx_throwS (A := fun _ => False) (names := ["java/lang/RuntimeException", "java/lang/Exception"]) hx hb hnt hown (by decide +kernel) (by decide +kernel) (hts (.classLink RX5 175 "java/lang/IllegalArgumentException") (by decide +kernel)) (hts (.initialized "java/lang/IllegalArgumentException") (by decide +kernel)) hstr
    (vx_hat (B := [.castable "java/lang/IllegalArgumentException" "java/lang/IllegalArgumentException", .declares ⟨"java/lang/RuntimeException", "<init>", "(Ljava/lang/String;)V"⟩, .declares ⟨"java/lang/Exception", "<init>", "(Ljava/lang/String;)V"⟩, .declares ⟨"java/lang/Throwable", "<init>", "(Ljava/lang/String;)V"⟩]) (fun w hw => hts w (List.mem_cons_of_mem _ (List.mem_append_right _ hw))) (by decide +kernel) (vx_c (va_Nw.use rfl (hE _ (by decide +kernel))) (vx_c (va_Nw.use rfl (hY "java/lang/RuntimeException" (by decide +kernel))) (vx_c (va_Nw.use rfl (hY "java/lang/Exception" (by decide +kernel))) (vx_c (va_Nw.use rfl (hY "java/lang/Throwable" (by decide +kernel))) vx_n))))) (by decide +kernel) hU hV va_S.rf (hl.1.trans hml.symm)
    dX5_requireArgument_4 dX5_requireArgument_7 dX5_requireArgument_8 dX5_requireArgument_10 dX5_requireArgument_13 (fun x hx => (hxt x hx).elim) (Nat.le_of_ble_eq_true rfl) (Nat.le_of_ble_eq_true rfl) (Nat.le_of_ble_eq_true rfl) (Nat.le_of_ble_eq_true rfl) hlocks
    (fun t _ hz hk => ⟨rfl, hz, fun q h _ => hk q h⟩) (fun z hz => nomatch hz) (Nat.le_of_ble_eq_true rfl) (Nat.le_of_ble_eq_true rfl)
end
section
set_option maxHeartbeats 1000000 in
set_option maxRecDepth 100000 in
theorem cT_size (l : Launch) (D : va_G) (cI cL cQ : ClassId) (h0 : Nat) (zr : Int32) (ak : Nat) (av : Nat) (ao : Nat) (ap : Nat) (al : Nat) (af : Nat) (zn : Int32) (zp : Int32) : Met l yX4_size wsX4_size ({ frames := 0, cells := 0, slots := 0, locals := 0 }) (jr_P D vwCl (jT cI cL cQ) cL cQ [.ref h0] [(h0, .inr (4, [.int zr, .ref ak, .ref av, .ref ao, .ref ap, .ref al, .ref af, .int zn, .int zp]))]) (vp_Si (fun r : Int32 => r = zn)) 0 0 (fun _ => False) := by
  refine Met.ofW (cc := cX4_size) (maxL := 1) (ret := (some .int)) (by decide) rfl ?_
  intro p e s m args below meth c s₁ B hml hv
  obtain ⟨rfl, hP, hK, hN⟩ := hv
  have hx := B.exec
  have hb := B.bytes
  have hr := B.returns
  have hts := atoms_spec (ws := wsX4_size) B.pre
  have hown : s.vm.findClass RX4 = some m.cls := findClass_of_methodNamed B.named
  have hlocks := B.notSynchronized
  have hl := lv_entry ([.ref h0]) (n := 1) (Nat.le_of_ble_eq_true rfl)
  rw [lg_entry_eq]
  generalize (lg_sl ([.ref h0]) ++ List.replicate (1 - (lg_sl ([.ref h0])).length) Slot.unset).toArray = ls at hl ⊢
  have hl : lv_has ls 1 [(0, .ref h0)] := hl
  refine lv_aload_n hx hb dX4_size_0 rfl (lv_at hl 0 rfl) ?_
  refine va_get (D := D) (ci := 4) (v := .int zn) (C := RX4) (T := TX4) (N := 9) hx hb hts (by decide +kernel) hown hK hP 0 rfl rfl 7 (by decide) (hts (.fieldLink RX4 34 "JoinDesk$Table" "size" "I") (by decide +kernel)) (fun _ h9 => h9) rfl dX4_size_1 ?_
  exact W.iret (v := zn) hx hb hr (fun t ht hW => ⟨zn, rfl, (by exact rfl), ht⟩) (fun _ h => nomatch h) dX4_size_4
set_option maxHeartbeats 1000000 in
set_option maxRecDepth 100000 in
theorem cT_hasRoom (l : Launch) (D : va_G) (cI cL cQ : ClassId) (h0 : Nat) (zr : Int32) (ak : Nat) (av : Nat) (ao : Nat) (ap : Nat) (al : Nat) (af : Nat) (zn : Int32) (zp : Int32) : Met l yX4_hasRoom wsX4_hasRoom ({ frames := 0, cells := 0, slots := 0, locals := 0 }) (jr_P D vwCl (jT cI cL cQ) cL cQ [.ref h0] [(h0, .inr (4, [.int zr, .ref ak, .ref av, .ref ao, .ref ap, .ref al, .ref af, .int zn, .int zp]))]) (vp_Si (fun r : Int32 => (r = 1 ∧ (¬ zr ≤ zn)) ∨ (r = 0 ∧ (zr ≤ zn)))) 0 0 (fun _ => False) := by
  refine Met.ofW (cc := cX4_hasRoom) (maxL := 1) (ret := (some .boolean)) (by decide) rfl ?_
  intro p e s m args below meth c s₁ B hml hv
  obtain ⟨rfl, hP, hK, hN⟩ := hv
  have hx := B.exec
  have hb := B.bytes
  have hr := B.returns
  have hts := atoms_spec (ws := wsX4_hasRoom) B.pre
  have hown : s.vm.findClass RX4 = some m.cls := findClass_of_methodNamed B.named
  have hlocks := B.notSynchronized
  have hl := lv_entry ([.ref h0]) (n := 1) (Nat.le_of_ble_eq_true rfl)
  rw [lg_entry_eq]
  generalize (lg_sl ([.ref h0]) ++ List.replicate (1 - (lg_sl ([.ref h0])).length) Slot.unset).toArray = ls at hl ⊢
  have hl : lv_has ls 1 [(0, .ref h0)] := hl
  refine lv_aload_n hx hb dX4_hasRoom_0 rfl (lv_at hl 0 rfl) ?_
  refine va_get (D := D) (ci := 4) (v := .int zn) (C := RX4) (T := TX4) (N := 9) hx hb hts (by decide +kernel) hown hK hP 0 rfl rfl 7 (by decide) (hts (.fieldLink RX4 34 "JoinDesk$Table" "size" "I") (by decide +kernel)) (fun _ h9 => h9) rfl dX4_hasRoom_1 ?_
  refine lv_aload_n hx hb dX4_hasRoom_4 rfl (lv_at hl 0 rfl) ?_
  refine va_get (D := D) (ci := 4) (v := .int zr) (C := RX4) (T := TX4) (N := 9) hx hb hts (by decide +kernel) hown hK hP 0 rfl rfl 0 (by decide) (hts (.fieldLink RX4 9 "JoinDesk$Table" "room" "I") (by decide +kernel)) (fun _ h9 => h9) rfl dX4_hasRoom_5 ?_
  refine lv_icmp_ge (tgt := 15) hx hb dX4_hasRoom_8 (by decide) (fun c_1 => ?_) (fun c_1 => ?_)
  · refine lv_iconst (v := 0) hx hb dX4_hasRoom_15 (by decide) ?_
    exact W.zret (v := 0) (ty := .boolean) hx hb hr rfl (fun t ht hW => ⟨0, rfl, (by exact (Or.inr (⟨rfl, (by first | assumption | exact Or.inl (by assumption) | exact Or.inr (by assumption) | rfl | decide | omega)⟩))), ht⟩) (fun _ h => nomatch h) dX4_hasRoom_16
  · refine lv_iconst (v := 1) hx hb dX4_hasRoom_11 (by decide) ?_
    refine lv_goto (tgt := 16) hx hb dX4_hasRoom_12 (by decide) ?_
    exact W.zret (v := 1) (ty := .boolean) hx hb hr rfl (fun t ht hW => ⟨1, rfl, (by exact (Or.inl ⟨rfl, (by first | assumption | exact Or.inl (by assumption) | exact Or.inr (by assumption) | rfl | decide | omega)⟩)), ht⟩) (fun _ h => nomatch h) dX4_hasRoom_16
set_option maxHeartbeats 1000000 in
set_option maxRecDepth 100000 in
theorem cT_has (l : Launch) (D : va_G) (cI cL cQ : ClassId) (h0 : Nat) (zr : Int32) (ak : Nat) (av : Nat) (ao : Nat) (ap : Nat) (al : Nat) (af : Nat) (zn : Int32) (zp : Int32) (x : Int32) : Met l yX4_has wsX4_has ({ frames := 0, cells := 0, slots := 0, locals := 0 }) (jr_P D vwCl (jT cI cL cQ) cL cQ [.ref h0, .int x] [(h0, .inr (4, [.int zr, .ref ak, .ref av, .ref ao, .ref ap, .ref al, .ref af, .int zn, .int zp]))]) (vp_Si (fun r : Int32 => (r = 1 ∧ (¬ x < 0) ∧ (¬ zn ≤ x)) ∨ (r = 0 ∧ (x < 0 ∨ zn ≤ x)))) 0 0 (fun _ => False) := by
  refine Met.ofW (cc := cX4_has) (maxL := 2) (ret := (some .boolean)) (by decide) rfl ?_
  intro p e s m args below meth c s₁ B hml hv
  obtain ⟨rfl, hP, hK, hN⟩ := hv
  have hx := B.exec
  have hb := B.bytes
  have hr := B.returns
  have hts := atoms_spec (ws := wsX4_has) B.pre
  have hown : s.vm.findClass RX4 = some m.cls := findClass_of_methodNamed B.named
  have hlocks := B.notSynchronized
  have hl := lv_entry ([.ref h0, .int x]) (n := 2) (Nat.le_of_ble_eq_true rfl)
  rw [lg_entry_eq]
  generalize (lg_sl ([.ref h0, .int x]) ++ List.replicate (2 - (lg_sl ([.ref h0, .int x])).length) Slot.unset).toArray = ls at hl ⊢
  have hl : lv_has ls 2 [(0, .ref h0), (1, .int x)] := hl
  refine lv_iload_n hx hb dX4_has_0 rfl (lv_at hl 1 rfl) ?_
  refine lv_if_lt (tgt := 16) hx hb dX4_has_1 (by decide) (fun c_1 => ?_) (fun c_1 => ?_)
  · refine lv_iconst (v := 0) hx hb dX4_has_16 (by decide) ?_
    exact W.zret (v := 0) (ty := .boolean) hx hb hr rfl (fun t ht hW => ⟨0, rfl, (by exact (Or.inr (⟨rfl, (by first | assumption | exact Or.inl (by assumption) | exact Or.inr (by assumption) | rfl | decide | omega)⟩))), ht⟩) (fun _ h => nomatch h) dX4_has_17
  · refine lv_iload_n hx hb dX4_has_4 rfl (lv_at hl 1 rfl) ?_
    refine lv_aload_n hx hb dX4_has_5 rfl (lv_at hl 0 rfl) ?_
    refine va_get (D := D) (ci := 4) (v := .int zn) (C := RX4) (T := TX4) (N := 9) hx hb hts (by decide +kernel) hown hK hP 0 rfl rfl 7 (by decide) (hts (.fieldLink RX4 34 "JoinDesk$Table" "size" "I") (by decide +kernel)) (fun _ h9 => h9) rfl dX4_has_6 ?_
    refine lv_icmp_ge (tgt := 16) hx hb dX4_has_9 (by decide) (fun c_2 => ?_) (fun c_2 => ?_)
    · refine lv_iconst (v := 0) hx hb dX4_has_16 (by decide) ?_
      exact W.zret (v := 0) (ty := .boolean) hx hb hr rfl (fun t ht hW => ⟨0, rfl, (by exact (Or.inr (⟨rfl, (by first | assumption | exact Or.inl (by assumption) | exact Or.inr (by assumption) | rfl | decide | omega)⟩))), ht⟩) (fun _ h => nomatch h) dX4_has_17
    · refine lv_iconst (v := 1) hx hb dX4_has_12 (by decide) ?_
      refine lv_goto (tgt := 17) hx hb dX4_has_13 (by decide) ?_
      exact W.zret (v := 1) (ty := .boolean) hx hb hr rfl (fun t ht hW => ⟨1, rfl, (by exact (Or.inl ⟨rfl, (by first | assumption | exact Or.inl (by assumption) | exact Or.inr (by assumption) | rfl | decide | omega), (by first | assumption | exact Or.inl (by assumption) | exact Or.inr (by assumption) | rfl | decide | omega)⟩)), ht⟩) (fun _ h => nomatch h) dX4_has_17
set_option maxHeartbeats 1000000 in
set_option maxRecDepth 100000 in
theorem cT_keyAt_o (l : Launch) (D : va_G) (cI cL cQ : ClassId) (h0 : Nat) (zr : Int32) (ak : Nat) (av : Nat) (ao : Nat) (ap : Nat) (al : Nat) (af : Nat) (zn : Int32) (zp : Int32) (x : Int32) (hx0 : x < 0 ∨ zn ≤ x) : Met l yX4_keyAt wsX4_keyAt ({ frames := 1, cells := 0, slots := 0, locals := 21 }) (jr_P D vwCl (jT cI cL cQ) cL cQ [.ref h0, .int x] [(h0, .inr (4, [.int zr, .ref ak, .ref av, .ref ao, .ref ap, .ref al, .ref af, .int zn, .int zp]))]) (vp_Si (fun r : Int32 => r = 0)) 0 0 (fun _ => False) := by
  refine Met.ofW (cc := cX4_keyAt) (maxL := 2) (ret := (some .int)) (by decide) rfl ?_
  intro p e s m args below meth c s₁ B hml hv
  obtain ⟨rfl, hP, hK, hN⟩ := hv
  have hx := B.exec
  have hb := B.bytes
  have hr := B.returns
  have hts := atoms_spec (ws := wsX4_keyAt) B.pre
  have hown : s.vm.findClass RX4 = some m.cls := findClass_of_methodNamed B.named
  have hlocks := B.notSynchronized
  have hl := lv_entry ([.ref h0, .int x]) (n := 2) (Nat.le_of_ble_eq_true rfl)
  rw [lg_entry_eq]
  generalize (lg_sl ([.ref h0, .int x]) ++ List.replicate (2 - (lg_sl ([.ref h0, .int x])).length) Slot.unset).toArray = ls at hl ⊢
  have hl : lv_has ls 2 [(0, .ref h0), (1, .int x)] := hl
  refine lv_aload_n hx hb dX4_keyAt_0 rfl (lv_at hl 0 rfl) ?_
  refine lv_iload_n hx hb dX4_keyAt_1 rfl (lv_at hl 1 rfl) ?_
  refine vp_callSi (va_Run.run (va_runV (As := [.int x]) (rest := []) ⟨hx, hb, hml, hown, hts⟩ (cT_has l D cI cL cQ h0 zr ak av ao ap al af zn zp x) (cwV 1 hts gX4_keyAt_X4_has rfl rfl rfl (by decide +kernel) ⟨Nat.le_of_ble_eq_true rfl, Nat.le_of_ble_eq_true rfl⟩) (jr_V hK hN hP [0] rfl 4 0 rfl rfl rfl) rfl rfl hl.1 rfl (lv_room (Nat.le_of_ble_eq_true rfl)) dX4_keyAt_2 ⟨Nat.le_of_ble_eq_true rfl, Nat.le_of_ble_eq_true rfl⟩)) (fun r f_1 => ?_)
  rcases f_1 with ⟨rfl, f_2, f_3⟩ | ⟨rfl, f_4⟩
  · exact False.elim (hx0.elim f_2 f_3)
  · refine lv_if_eq (tgt := 22) hx hb dX4_keyAt_5 (by decide) (fun c_5 => ?_) (fun c_5 => absurd c_5 (by decide))
    refine lv_iconst (v := 0) hx hb dX4_keyAt_22 (by decide) ?_
    exact W.iret (v := 0) hx hb hr (fun t ht hW => ⟨0, rfl, (by exact rfl), ht⟩) (fun _ h => nomatch h) dX4_keyAt_23
set_option maxHeartbeats 1000000 in
set_option maxRecDepth 100000 in
theorem cT_valueAt_o (l : Launch) (D : va_G) (cI cL cQ : ClassId) (h0 : Nat) (zr : Int32) (ak : Nat) (av : Nat) (ao : Nat) (ap : Nat) (al : Nat) (af : Nat) (zn : Int32) (zp : Int32) (x : Int32) (hx0 : x < 0 ∨ zn ≤ x) : Met l yX4_valueAt wsX4_valueAt ({ frames := 1, cells := 0, slots := 0, locals := 21 }) (jr_P D vwCl (jT cI cL cQ) cL cQ [.ref h0, .int x] [(h0, .inr (4, [.int zr, .ref ak, .ref av, .ref ao, .ref ap, .ref al, .ref af, .int zn, .int zp]))]) (vp_Si (fun r : Int32 => r = 0)) 0 0 (fun _ => False) := by
  refine Met.ofW (cc := cX4_valueAt) (maxL := 2) (ret := (some .int)) (by decide) rfl ?_
  intro p e s m args below meth c s₁ B hml hv
  obtain ⟨rfl, hP, hK, hN⟩ := hv
  have hx := B.exec
  have hb := B.bytes
  have hr := B.returns
  have hts := atoms_spec (ws := wsX4_valueAt) B.pre
  have hown : s.vm.findClass RX4 = some m.cls := findClass_of_methodNamed B.named
  have hlocks := B.notSynchronized
  have hl := lv_entry ([.ref h0, .int x]) (n := 2) (Nat.le_of_ble_eq_true rfl)
  rw [lg_entry_eq]
  generalize (lg_sl ([.ref h0, .int x]) ++ List.replicate (2 - (lg_sl ([.ref h0, .int x])).length) Slot.unset).toArray = ls at hl ⊢
  have hl : lv_has ls 2 [(0, .ref h0), (1, .int x)] := hl
  refine lv_aload_n hx hb dX4_valueAt_0 rfl (lv_at hl 0 rfl) ?_
  refine lv_iload_n hx hb dX4_valueAt_1 rfl (lv_at hl 1 rfl) ?_
  refine vp_callSi (va_Run.run (va_runV (As := [.int x]) (rest := []) ⟨hx, hb, hml, hown, hts⟩ (cT_has l D cI cL cQ h0 zr ak av ao ap al af zn zp x) (cwV 1 hts gX4_valueAt_X4_has rfl rfl rfl (by decide +kernel) ⟨Nat.le_of_ble_eq_true rfl, Nat.le_of_ble_eq_true rfl⟩) (jr_V hK hN hP [0] rfl 4 0 rfl rfl rfl) rfl rfl hl.1 rfl (lv_room (Nat.le_of_ble_eq_true rfl)) dX4_valueAt_2 ⟨Nat.le_of_ble_eq_true rfl, Nat.le_of_ble_eq_true rfl⟩)) (fun r f_1 => ?_)
  rcases f_1 with ⟨rfl, f_2, f_3⟩ | ⟨rfl, f_4⟩
  · exact False.elim (hx0.elim f_2 f_3)
  · refine lv_if_eq (tgt := 22) hx hb dX4_valueAt_5 (by decide) (fun c_5 => ?_) (fun c_5 => absurd c_5 (by decide))
    refine lv_iconst (v := 0) hx hb dX4_valueAt_22 (by decide) ?_
    exact W.iret (v := 0) hx hb hr (fun t ht hW => ⟨0, rfl, (by exact rfl), ht⟩) (fun _ h => nomatch h) dX4_valueAt_23
set_option maxHeartbeats 1000000 in
set_option maxRecDepth 100000 in
theorem cT_numberAt_o (l : Launch) (D : va_G) (cI cL cQ : ClassId) (h0 : Nat) (zr : Int32) (ak : Nat) (av : Nat) (ao : Nat) (ap : Nat) (al : Nat) (af : Nat) (zn : Int32) (zp : Int32) (x : Int32) (hx0 : x < 0 ∨ zn ≤ x) : Met l yX4_numberAt wsX4_numberAt ({ frames := 1, cells := 0, slots := 0, locals := 21 }) (jr_P D vwCl (jT cI cL cQ) cL cQ [.ref h0, .int x] [(h0, .inr (4, [.int zr, .ref ak, .ref av, .ref ao, .ref ap, .ref al, .ref af, .int zn, .int zp]))]) (vp_Si (fun r : Int32 => r = (-1))) 0 0 (fun _ => False) := by
  refine Met.ofW (cc := cX4_numberAt) (maxL := 2) (ret := (some .int)) (by decide) rfl ?_
  intro p e s m args below meth c s₁ B hml hv
  obtain ⟨rfl, hP, hK, hN⟩ := hv
  have hx := B.exec
  have hb := B.bytes
  have hr := B.returns
  have hts := atoms_spec (ws := wsX4_numberAt) B.pre
  have hown : s.vm.findClass RX4 = some m.cls := findClass_of_methodNamed B.named
  have hlocks := B.notSynchronized
  have hl := lv_entry ([.ref h0, .int x]) (n := 2) (Nat.le_of_ble_eq_true rfl)
  rw [lg_entry_eq]
  generalize (lg_sl ([.ref h0, .int x]) ++ List.replicate (2 - (lg_sl ([.ref h0, .int x])).length) Slot.unset).toArray = ls at hl ⊢
  have hl : lv_has ls 2 [(0, .ref h0), (1, .int x)] := hl
  refine lv_aload_n hx hb dX4_numberAt_0 rfl (lv_at hl 0 rfl) ?_
  refine lv_iload_n hx hb dX4_numberAt_1 rfl (lv_at hl 1 rfl) ?_
  refine vp_callSi (va_Run.run (va_runV (As := [.int x]) (rest := []) ⟨hx, hb, hml, hown, hts⟩ (cT_has l D cI cL cQ h0 zr ak av ao ap al af zn zp x) (cwV 1 hts gX4_numberAt_X4_has rfl rfl rfl (by decide +kernel) ⟨Nat.le_of_ble_eq_true rfl, Nat.le_of_ble_eq_true rfl⟩) (jr_V hK hN hP [0] rfl 4 0 rfl rfl rfl) rfl rfl hl.1 rfl (lv_room (Nat.le_of_ble_eq_true rfl)) dX4_numberAt_2 ⟨Nat.le_of_ble_eq_true rfl, Nat.le_of_ble_eq_true rfl⟩)) (fun r f_1 => ?_)
  rcases f_1 with ⟨rfl, f_2, f_3⟩ | ⟨rfl, f_4⟩
  · exact False.elim (hx0.elim f_2 f_3)
  · refine lv_if_eq (tgt := 17) hx hb dX4_numberAt_5 (by decide) (fun c_5 => ?_) (fun c_5 => absurd c_5 (by decide))
    refine lv_iconst (v := (-1)) hx hb dX4_numberAt_17 (by decide) ?_
    exact W.iret (v := (-1)) hx hb hr (fun t ht hW => ⟨(-1), rfl, (by exact rfl), ht⟩) (fun _ h => nomatch h) dX4_numberAt_18
set_option maxHeartbeats 1000000 in
set_option maxRecDepth 100000 in
theorem cT_empty (l : Launch) (D : va_G) (cI cL cQ : ClassId) (h0 : Nat) (zr : Int32) (ak : Nat) (av : Nat) (ao : Nat) (ap : Nat) (al : Nat) (af : Nat) (zn : Int32) (zp : Int32) (sz : Nat) : Met l yX4_empty wsX4_empty ({ frames := 0, cells := 0, slots := 0, locals := 0 }) (jw_P D vwCl (jT cI cL cQ) cL cQ [.ref h0] [(h0, .inr (4, [.int zr, .ref ak, .ref av, .ref ao, .ref ap, .ref al, .ref af, .int zn, .int zp]))] sz) (va_Qv (fun u : va_W => u = [(h0, .inr (4, [.int zr, .ref ak, .ref av, .ref ao, .ref ap, .ref al, .ref af, .int 0, .int 0]))]) (jw_B D vwCl (va_A [(h0, .inr (4, [.int zr, .ref ak, .ref av, .ref ao, .ref ap, .ref al, .ref af, .int zn, .int zp]))] sz) (fun u : va_W => u)) (va_A [(h0, .inr (4, [.int zr, .ref ak, .ref av, .ref ao, .ref ap, .ref al, .ref af, .int zn, .int zp]))] sz)) 0 0 (va_A [(h0, .inr (4, [.int zr, .ref ak, .ref av, .ref ao, .ref ap, .ref al, .ref af, .int zn, .int zp]))] sz) := by
  refine Met.ofW (cc := cX4_empty) (maxL := 1) (ret := none) (by decide) rfl ?_
  intro p e s m args below meth c s₁ B hml hv
  obtain ⟨rfl, hsz, hP, hK, hN, hD0⟩ := hv
  have hx := B.exec
  have hb := B.bytes
  have hr := B.returns
  have hts := atoms_spec (ws := wsX4_empty) B.pre
  have hown : s.vm.findClass RX4 = some m.cls := findClass_of_methodNamed B.named
  have hlocks := B.notSynchronized
  subst hsz
  have hD := hD0.self (sz := s.heap.size)
  generalize hAe : va_A [(h0, .inr (4, [.int zr, .ref ak, .ref av, .ref ao, .ref ap, .ref al, .ref af, .int zn, .int zp]))] s.heap.size = A at hD ⊢
  have hA : ∀ q : Nat, s.heap.size ≤ q → A q := fun q h => by rw [← hAe]; exact Or.inr h
  have hS : va_S A s.heap s.heap [] := va_S.rf
  have hl := lv_entry ([.ref h0]) (n := 1) (Nat.le_of_ble_eq_true rfl)
  rw [lg_entry_eq]
  generalize (lg_sl ([.ref h0]) ++ List.replicate (1 - (lg_sl ([.ref h0])).length) Slot.unset).toArray = ls at hl ⊢
  have hl : lv_has ls 1 [(0, .ref h0)] := hl
  refine lv_aload_n hx hb dX4_empty_0 rfl (lv_at hl 0 rfl) ?_
  refine lv_iconst (v := 0) hx hb dX4_empty_1 (by decide) ?_
  refine va_put (D := D) (ci := 4) (v := .int 0) (ty := .int) (C := RX4) (T := TX4) (N := 9) hx hb hts (by decide +kernel) tyX4 tyX4_ok nmX4 hown hK hP hD hS 0 rfl rfl 7 (by decide) (hts (.fieldLink RX4 34 "JoinDesk$Table" "size" "I") (by decide +kernel)) (fun _ h9 => h9) rfl (by decide +kernel) rfl rfl (Nat.le_of_ble_eq_true rfl) dX4_empty_2 (fun H locs hP hD hS => ?_)
  have hP : va_P D vwCl [(h0, .inr (4, [.int zr, .ref ak, .ref av, .ref ao, .ref ap, .ref al, .ref af, .int 0, .int zp]))] H := hP
  have hD : va_D A [(h0, .inr (4, [.int zr, .ref ak, .ref av, .ref ao, .ref ap, .ref al, .ref af, .int 0, .int zp]))] := hD
  refine lv_aload_n hx hb dX4_empty_5 rfl (lv_at hl 0 rfl) ?_
  refine lv_iconst (v := 0) hx hb dX4_empty_6 (by decide) ?_
  refine va_put (D := D) (ci := 4) (v := .int 0) (ty := .int) (C := RX4) (T := TX4) (N := 9) hx hb hts (by decide +kernel) tyX4 tyX4_ok nmX4 hown hK hP hD hS 0 rfl rfl 8 (by decide) (hts (.fieldLink RX4 37 "JoinDesk$Table" "placed" "I") (by decide +kernel)) (fun _ h9 => h9) rfl (by decide +kernel) rfl rfl (Nat.le_of_ble_eq_true rfl) dX4_empty_7 (fun H locs hP hD hS => ?_)
  have hP : va_P D vwCl [(h0, .inr (4, [.int zr, .ref ak, .ref av, .ref ao, .ref ap, .ref al, .ref af, .int 0, .int 0]))] H := hP
  have hD : va_D A [(h0, .inr (4, [.int zr, .ref ak, .ref av, .ref ao, .ref ap, .ref al, .ref af, .int 0, .int 0]))] := hD
  refine W.widen (k := 0) (n := 0) (by omega) (by omega) ?_
  exact W.vret hx hb hr (fun t ht hW => ⟨⟨[(h0, .inr (4, [.int zr, .ref ak, .ref av, .ref ao, .ref ap, .ref al, .ref af, .int 0, .int 0]))], rfl, (by exact rfl), by rw [ht]; exact hP, hD⟩, hS.F ht⟩) hS.2.2 dX4_empty_10
set_option maxHeartbeats 1000000 in
set_option maxRecDepth 100000 in
theorem cT_sortRows_0 (l : Launch) (D : va_G) (cI cL cQ : ClassId) (h0 : Nat) (zr : Int32) (ak : Nat) (av : Nat) (ao : Nat) (ap : Nat) (al : Nat) (af : Nat) (sz : Nat) : Met l yX4_sortRows wsX4_sortRows ({ frames := 0, cells := 0, slots := 0, locals := 0 }) (jw_P D vwCl (jT cI cL cQ) cL cQ [.ref h0] [(h0, .inr (4, [.int zr, .ref ak, .ref av, .ref ao, .ref ap, .ref al, .ref af, .int 0, .int 0]))] sz) (va_Qv (fun u : va_W => u = [(h0, .inr (4, [.int zr, .ref ak, .ref av, .ref ao, .ref ap, .ref al, .ref af, .int 0, .int 0]))]) (jw_B D vwCl (va_A [(h0, .inr (4, [.int zr, .ref ak, .ref av, .ref ao, .ref ap, .ref al, .ref af, .int 0, .int 0]))] sz) (fun u : va_W => u)) (va_A [(h0, .inr (4, [.int zr, .ref ak, .ref av, .ref ao, .ref ap, .ref al, .ref af, .int 0, .int 0]))] sz)) 0 0 (va_A [(h0, .inr (4, [.int zr, .ref ak, .ref av, .ref ao, .ref ap, .ref al, .ref af, .int 0, .int 0]))] sz) := by
  refine Met.ofW (cc := cX4_sortRows) (maxL := 2) (ret := none) (by decide) rfl ?_
  intro p e s m args below meth c s₁ B hml hv
  obtain ⟨rfl, hsz, hP, hK, hN, hD0⟩ := hv
  have hx := B.exec
  have hb := B.bytes
  have hr := B.returns
  have hts := atoms_spec (ws := wsX4_sortRows) B.pre
  have hown : s.vm.findClass RX4 = some m.cls := findClass_of_methodNamed B.named
  have hlocks := B.notSynchronized
  subst hsz
  have hD := hD0.self (sz := s.heap.size)
  generalize hAe : va_A [(h0, .inr (4, [.int zr, .ref ak, .ref av, .ref ao, .ref ap, .ref al, .ref af, .int 0, .int 0]))] s.heap.size = A at hD ⊢
  have hA : ∀ q : Nat, s.heap.size ≤ q → A q := fun q h => by rw [← hAe]; exact Or.inr h
  have hS : va_S A s.heap s.heap [] := va_S.rf
  have hl := lv_entry ([.ref h0]) (n := 2) (Nat.le_of_ble_eq_true rfl)
  rw [lg_entry_eq]
  generalize (lg_sl ([.ref h0]) ++ List.replicate (2 - (lg_sl ([.ref h0])).length) Slot.unset).toArray = ls at hl ⊢
  have hl : lv_has ls 2 [(0, .ref h0)] := hl
  refine lv_aload_n hx hb dX4_sortRows_0 rfl (lv_at hl 0 rfl) ?_
  refine va_get (D := D) (ci := 4) (v := .int 0) (C := RX4) (T := TX4) (N := 9) hx hb hts (by decide +kernel) hown hK hP 0 rfl rfl 8 (by decide) (hts (.fieldLink RX4 37 "JoinDesk$Table" "placed" "I") (by decide +kernel)) (fun _ h9 => h9) rfl dX4_sortRows_1 ?_
  refine lv_istore_n (lv' := [(1, .int 0), (0, .ref h0)]) hx hb dX4_sortRows_4 rfl hl (by decide) rfl (fun ls hl => ?_)
  refine lv_iload_n hx hb dX4_sortRows_5 rfl (lv_at hl 0 rfl) ?_
  refine lv_aload_n hx hb dX4_sortRows_6 rfl (lv_at hl 1 rfl) ?_
  refine va_get (D := D) (ci := 4) (v := .int 0) (C := RX4) (T := TX4) (N := 9) hx hb hts (by decide +kernel) hown hK hP 0 rfl rfl 7 (by decide) (hts (.fieldLink RX4 34 "JoinDesk$Table" "size" "I") (by decide +kernel)) (fun _ h9 => h9) rfl dX4_sortRows_7 ?_
  refine lv_icmp_ge (tgt := 24) hx hb dX4_sortRows_10 (by decide) (fun c_1 => ?_) (fun c_1 => absurd c_1 (by decide))
  refine lv_aload_n hx hb dX4_sortRows_24 rfl (lv_at hl 1 rfl) ?_
  refine lv_aload_n hx hb dX4_sortRows_25 rfl (lv_at hl 1 rfl) ?_
  refine va_get (D := D) (ci := 4) (v := .int 0) (C := RX4) (T := TX4) (N := 9) hx hb hts (by decide +kernel) hown hK hP 0 rfl rfl 7 (by decide) (hts (.fieldLink RX4 34 "JoinDesk$Table" "size" "I") (by decide +kernel)) (fun _ h9 => h9) rfl dX4_sortRows_26 ?_
  refine va_put (D := D) (ci := 4) (v := .int 0) (ty := .int) (C := RX4) (T := TX4) (N := 9) hx hb hts (by decide +kernel) tyX4 tyX4_ok nmX4 hown hK hP hD hS 0 rfl rfl 8 (by decide) (hts (.fieldLink RX4 37 "JoinDesk$Table" "placed" "I") (by decide +kernel)) (fun _ h9 => h9) rfl (by decide +kernel) rfl rfl (Nat.le_of_ble_eq_true rfl) dX4_sortRows_29 (fun H locs hP hD hS => ?_)
  have hP : va_P D vwCl [(h0, .inr (4, [.int zr, .ref ak, .ref av, .ref ao, .ref ap, .ref al, .ref af, .int 0, .int 0]))] H := hP
  have hD : va_D A [(h0, .inr (4, [.int zr, .ref ak, .ref av, .ref ao, .ref ap, .ref al, .ref af, .int 0, .int 0]))] := hD
  refine W.widen (k := 0) (n := 0) (by omega) (by omega) ?_
  exact W.vret hx hb hr (fun t ht hW => ⟨⟨[(h0, .inr (4, [.int zr, .ref ak, .ref av, .ref ao, .ref ap, .ref al, .ref af, .int 0, .int 0]))], rfl, (by exact rfl), by rw [ht]; exact hP, hD⟩, hS.F ht⟩) hS.2.2 dX4_sortRows_32
set_option maxHeartbeats 1000000 in
set_option maxRecDepth 100000 in
theorem cT_findPartners_0 (l : Launch) (D : va_G) (cI cL cQ : ClassId) (h0 : Nat) (zr : Int32) (ak : Nat) (av : Nat) (ao : Nat) (ap : Nat) (al : Nat) (af : Nat) (o0 : Nat) : Met l yX4_findPartners wsX4_findPartners ({ frames := 0, cells := 0, slots := 0, locals := 0 }) (jr_P D vwCl (jT cI cL cQ) cL cQ [.ref h0, .ref o0] [(h0, .inr (4, [.int zr, .ref ak, .ref av, .ref ao, .ref ap, .ref al, .ref af, .int 0, .int 0]))]) (va_Sv (fun _ : Unit => True)) 0 0 (fun _ => False) := by
  refine Met.ofW (cc := cX4_findPartners) (maxL := 6) (ret := none) (by decide) rfl ?_
  intro p e s m args below meth c s₁ B hml hv
  obtain ⟨rfl, hP, hK, hN⟩ := hv
  have hx := B.exec
  have hb := B.bytes
  have hr := B.returns
  have hts := atoms_spec (ws := wsX4_findPartners) B.pre
  have hown : s.vm.findClass RX4 = some m.cls := findClass_of_methodNamed B.named
  have hlocks := B.notSynchronized
  have hl := lv_entry ([.ref h0, .ref o0]) (n := 6) (Nat.le_of_ble_eq_true rfl)
  rw [lg_entry_eq]
  generalize (lg_sl ([.ref h0, .ref o0]) ++ List.replicate (6 - (lg_sl ([.ref h0, .ref o0])).length) Slot.unset).toArray = ls at hl ⊢
  have hl : lv_has ls 6 [(0, .ref h0), (1, .ref o0)] := hl
  refine lv_iconst (v := 0) hx hb dX4_findPartners_0 (by decide) ?_
  refine lv_istore_n (lv' := [(2, .int 0), (0, .ref h0), (1, .ref o0)]) hx hb dX4_findPartners_1 rfl hl (by decide) rfl (fun ls hl => ?_)
  refine lv_iconst (v := 0) hx hb dX4_findPartners_2 (by decide) ?_
  refine lv_istore_n (lv' := [(3, .int 0), (2, .int 0), (0, .ref h0), (1, .ref o0)]) hx hb dX4_findPartners_3 rfl hl (by decide) rfl (fun ls hl => ?_)
  refine lv_iconst (v := 0) hx hb dX4_findPartners_4 (by decide) ?_
  refine lv_istore (lv' := [(4, .int 0), (3, .int 0), (2, .int 0), (0, .ref h0), (1, .ref o0)]) hx hb dX4_findPartners_5 hl (by decide) rfl (fun ls hl => ?_)
  refine lv_iload hx hb dX4_findPartners_7 (lv_at hl 0 rfl) ?_
  refine lv_aload_n hx hb dX4_findPartners_9 rfl (lv_at hl 3 rfl) ?_
  refine va_get (D := D) (ci := 4) (v := .int 0) (C := RX4) (T := TX4) (N := 9) hx hb hts (by decide +kernel) hown hK hP 0 rfl rfl 7 (by decide) (hts (.fieldLink RX4 34 "JoinDesk$Table" "size" "I") (by decide +kernel)) (fun _ h9 => h9) rfl dX4_findPartners_10 ?_
  refine lv_icmp_ge (tgt := 133) hx hb dX4_findPartners_13 (by decide) (fun c_1 => ?_) (fun c_1 => absurd c_1 (by decide))
  exact W.vret hx hb hr (fun t ht hW => ⟨rfl, (by exact trivial), ht⟩) (fun _ h => nomatch h) dX4_findPartners_133
set_option maxHeartbeats 1000000 in
set_option maxRecDepth 100000 in
theorem cT_append_0 (l : Launch) (D : va_G) (cI cL cQ : ClassId) (h0 : Nat) (a : Nat) (ak : Nat) (av : Nat) (ao : Nat) (ap : Nat) (al : Nat) (af : Nat) (x : Int32) (y : Int32) (sz : Nat) (ha : a ≤ 400) (hb0 : 0 < a) : Met l yX4_append wsX4_append ({ frames := 1, cells := 0, slots := 0, locals := 20 }) (jw_P D vwCl (jT cI cL cQ) cL cQ [.ref h0, .int x, .int y] [(h0, .inr (4, [.int (nI a), .ref ak, .ref av, .ref ao, .ref ap, .ref al, .ref af, .int 0, .int 0])), (ak, .inl (cI, a, .inl (fun _ => 0))), (av, .inl (cI, a, .inl (fun _ => 0)))] sz) (va_Qi (fun (r : Int32) (u : va_W) => r = 0 ∧ u = [(h0, .inr (4, [.int (nI a), .ref ak, .ref av, .ref ao, .ref ap, .ref al, .ref af, .int 1, .int 0])), (ak, .inl (cI, a, .inl (upd (fun _ => 0) (0 : Int32).toNatClampNeg x))), (av, .inl (cI, a, .inl (upd (fun _ => 0) (0 : Int32).toNatClampNeg y)))]) (jw_B D vwCl (va_A [(h0, .inr (4, [.int (nI a), .ref ak, .ref av, .ref ao, .ref ap, .ref al, .ref af, .int 0, .int 0])), (ak, .inl (cI, a, .inl (fun _ => 0))), (av, .inl (cI, a, .inl (fun _ => 0)))] sz) (fun u : va_W => u)) (va_A [(h0, .inr (4, [.int (nI a), .ref ak, .ref av, .ref ao, .ref ap, .ref al, .ref af, .int 0, .int 0])), (ak, .inl (cI, a, .inl (fun _ => 0))), (av, .inl (cI, a, .inl (fun _ => 0)))] sz)) 0 0 (va_A [(h0, .inr (4, [.int (nI a), .ref ak, .ref av, .ref ao, .ref ap, .ref al, .ref af, .int 0, .int 0])), (ak, .inl (cI, a, .inl (fun _ => 0))), (av, .inl (cI, a, .inl (fun _ => 0)))] sz) := by
  refine Met.ofW (cc := cX4_append) (maxL := 3) (ret := (some .int)) (by decide) rfl ?_
  intro p e s m args below meth c s₁ B hml hv
  obtain ⟨rfl, hsz, hP, hK, hN, hD0⟩ := hv
  have hx := B.exec
  have hb := B.bytes
  have hr := B.returns
  have hts := atoms_spec (ws := wsX4_append) B.pre
  have hown : s.vm.findClass RX4 = some m.cls := findClass_of_methodNamed B.named
  have hlocks := B.notSynchronized
  subst hsz
  have hD := hD0.self (sz := s.heap.size)
  generalize hAe : va_A [(h0, .inr (4, [.int (nI a), .ref ak, .ref av, .ref ao, .ref ap, .ref al, .ref af, .int 0, .int 0])), (ak, .inl (cI, a, .inl (fun _ => 0))), (av, .inl (cI, a, .inl (fun _ => 0)))] s.heap.size = A at hD ⊢
  have hA : ∀ q : Nat, s.heap.size ≤ q → A q := fun q h => by rw [← hAe]; exact Or.inr h
  have hS : va_S A s.heap s.heap [] := va_S.rf
  have hl := lv_entry ([.ref h0, .int x, .int y]) (n := 3) (Nat.le_of_ble_eq_true rfl)
  rw [lg_entry_eq]
  generalize (lg_sl ([.ref h0, .int x, .int y]) ++ List.replicate (3 - (lg_sl ([.ref h0, .int x, .int y])).length) Slot.unset).toArray = ls at hl ⊢
  have hl : lv_has ls 3 [(0, .ref h0), (1, .int x), (2, .int y)] := hl
  refine lv_aload_n hx hb dX4_append_0 rfl (lv_at hl 0 rfl) ?_
  refine vp_callSi (va_Run.run (va_runV (As := []) (rest := []) ⟨hx, hb, hml, hown, hts⟩ (cT_hasRoom l D cI cL cQ h0 (nI a) ak av ao ap al af 0 0) (cwV 0 hts gX4_append_X4_hasRoom rfl rfl rfl (by decide +kernel) ⟨Nat.le_of_ble_eq_true rfl, Nat.le_of_ble_eq_true rfl⟩) (jr_V hK hN hP [0] rfl 4 0 rfl rfl rfl) rfl rfl hl.1 rfl (lv_room (Nat.le_of_ble_eq_true rfl)) dX4_append_1 ⟨Nat.le_of_ble_eq_true rfl, Nat.le_of_ble_eq_true rfl⟩)) (fun r f_1 => ?_)
  rcases f_1 with ⟨rfl, f_2⟩ | ⟨rfl, f_3⟩
  · refine lv_if_ne (tgt := 9) hx hb dX4_append_4 (by decide) (fun c_4 => ?_) (fun c_4 => absurd c_4 (by decide))
    refine lv_aload_n hx hb dX4_append_9 rfl (lv_at hl 0 rfl) ?_
    refine va_get (D := D) (ci := 4) (v := .ref ak) (C := RX4) (T := TX4) (N := 9) hx hb hts (by decide +kernel) hown hK hP 0 rfl rfl 1 (by decide) (hts (.fieldLink RX4 15 "JoinDesk$Table" "keys" "[I") (by decide +kernel)) (fun _ h9 => h9) rfl dX4_append_10 ?_
    refine lv_aload_n hx hb dX4_append_13 rfl (lv_at hl 0 rfl) ?_
    refine va_get (D := D) (ci := 4) (v := .int 0) (C := RX4) (T := TX4) (N := 9) hx hb hts (by decide +kernel) hown hK hP 0 rfl rfl 7 (by decide) (hts (.fieldLink RX4 34 "JoinDesk$Table" "size" "I") (by decide +kernel)) (fun _ h9 => h9) rfl dX4_append_14 ?_
    refine lv_iload_n hx hb dX4_append_17 rfl (lv_at hl 1 rfl) ?_
    refine va_iast hx hb hK hP hD hS 1 0 rfl rfl (by rw [← nI_0]; exact vp_in_nI hb0 (by omega)) dX4_append_18 (fun H locs hP hD hS => ?_)
    have hP : va_P D vwCl [(h0, .inr (4, [.int (nI a), .ref ak, .ref av, .ref ao, .ref ap, .ref al, .ref af, .int 0, .int 0])), (ak, .inl (cI, a, .inl (upd (fun _ => 0) (0 : Int32).toNatClampNeg x))), (av, .inl (cI, a, .inl (fun _ => 0)))] H := hP
    have hD : va_D A [(h0, .inr (4, [.int (nI a), .ref ak, .ref av, .ref ao, .ref ap, .ref al, .ref af, .int 0, .int 0])), (ak, .inl (cI, a, .inl (upd (fun _ => 0) (0 : Int32).toNatClampNeg x))), (av, .inl (cI, a, .inl (fun _ => 0)))] := hD
    refine lv_aload_n hx hb dX4_append_19 rfl (lv_at hl 0 rfl) ?_
    refine va_get (D := D) (ci := 4) (v := .ref av) (C := RX4) (T := TX4) (N := 9) hx hb hts (by decide +kernel) hown hK hP 0 rfl rfl 2 (by decide) (hts (.fieldLink RX4 19 "JoinDesk$Table" "values" "[I") (by decide +kernel)) (fun _ h9 => h9) rfl dX4_append_20 ?_
    refine lv_aload_n hx hb dX4_append_23 rfl (lv_at hl 0 rfl) ?_
    refine va_get (D := D) (ci := 4) (v := .int 0) (C := RX4) (T := TX4) (N := 9) hx hb hts (by decide +kernel) hown hK hP 0 rfl rfl 7 (by decide) (hts (.fieldLink RX4 34 "JoinDesk$Table" "size" "I") (by decide +kernel)) (fun _ h9 => h9) rfl dX4_append_24 ?_
    refine lv_iload_n hx hb dX4_append_27 rfl (lv_at hl 2 rfl) ?_
    refine va_iast hx hb hK hP hD hS 2 0 rfl rfl (by rw [← nI_0]; exact vp_in_nI hb0 (by omega)) dX4_append_28 (fun H locs hP hD hS => ?_)
    have hP : va_P D vwCl [(h0, .inr (4, [.int (nI a), .ref ak, .ref av, .ref ao, .ref ap, .ref al, .ref af, .int 0, .int 0])), (ak, .inl (cI, a, .inl (upd (fun _ => 0) (0 : Int32).toNatClampNeg x))), (av, .inl (cI, a, .inl (upd (fun _ => 0) (0 : Int32).toNatClampNeg y)))] H := hP
    have hD : va_D A [(h0, .inr (4, [.int (nI a), .ref ak, .ref av, .ref ao, .ref ap, .ref al, .ref af, .int 0, .int 0])), (ak, .inl (cI, a, .inl (upd (fun _ => 0) (0 : Int32).toNatClampNeg x))), (av, .inl (cI, a, .inl (upd (fun _ => 0) (0 : Int32).toNatClampNeg y)))] := hD
    refine lv_aload_n hx hb dX4_append_29 rfl (lv_at hl 0 rfl) ?_
    refine lv_dup hx hb dX4_append_30 rfl ?_
    refine va_get (D := D) (ci := 4) (v := .int 0) (C := RX4) (T := TX4) (N := 9) hx hb hts (by decide +kernel) hown hK hP 0 rfl rfl 7 (by decide) (hts (.fieldLink RX4 34 "JoinDesk$Table" "size" "I") (by decide +kernel)) (fun _ h9 => h9) rfl dX4_append_31 ?_
    refine lv_iconst (v := 1) hx hb dX4_append_34 (by decide) ?_
    refine lv_iadd hx hb dX4_append_35 ?_
    refine lv_topi (fun z_5 e_z_5 => ?_)
    obtain rfl : z_5 = 1 := e_z_5.trans (by decide)
    refine va_put (D := D) (ci := 4) (v := .int 1) (ty := .int) (C := RX4) (T := TX4) (N := 9) hx hb hts (by decide +kernel) tyX4 tyX4_ok nmX4 hown hK hP hD hS 0 rfl rfl 7 (by decide) (hts (.fieldLink RX4 34 "JoinDesk$Table" "size" "I") (by decide +kernel)) (fun _ h9 => h9) rfl (by decide +kernel) rfl rfl (Nat.le_of_ble_eq_true rfl) dX4_append_36 (fun H locs hP hD hS => ?_)
    have hP : va_P D vwCl [(h0, .inr (4, [.int (nI a), .ref ak, .ref av, .ref ao, .ref ap, .ref al, .ref af, .int 1, .int 0])), (ak, .inl (cI, a, .inl (upd (fun _ => 0) (0 : Int32).toNatClampNeg x))), (av, .inl (cI, a, .inl (upd (fun _ => 0) (0 : Int32).toNatClampNeg y)))] H := hP
    have hD : va_D A [(h0, .inr (4, [.int (nI a), .ref ak, .ref av, .ref ao, .ref ap, .ref al, .ref af, .int 1, .int 0])), (ak, .inl (cI, a, .inl (upd (fun _ => 0) (0 : Int32).toNatClampNeg x))), (av, .inl (cI, a, .inl (upd (fun _ => 0) (0 : Int32).toNatClampNeg y)))] := hD
    refine lv_aload_n hx hb dX4_append_39 rfl (lv_at hl 0 rfl) ?_
    refine va_get (D := D) (ci := 4) (v := .int 1) (C := RX4) (T := TX4) (N := 9) hx hb hts (by decide +kernel) hown hK hP 0 rfl rfl 7 (by decide) (hts (.fieldLink RX4 34 "JoinDesk$Table" "size" "I") (by decide +kernel)) (fun _ h9 => h9) rfl dX4_append_40 ?_
    refine lv_iconst (v := 1) hx hb dX4_append_43 (by decide) ?_
    refine lv_isub hx hb dX4_append_44 ?_
    refine lv_topi (fun z_6 e_z_6 => ?_)
    obtain rfl : z_6 = 0 := e_z_6.trans (by decide)
    refine W.widen (k := 0) (n := 0) (by omega) (by omega) ?_
    exact W.iret (v := 0) hx hb hr (fun t ht hW => ⟨⟨0, [(h0, .inr (4, [.int (nI a), .ref ak, .ref av, .ref ao, .ref ap, .ref al, .ref af, .int 1, .int 0])), (ak, .inl (cI, a, .inl (upd (fun _ => 0) (0 : Int32).toNatClampNeg x))), (av, .inl (cI, a, .inl (upd (fun _ => 0) (0 : Int32).toNatClampNeg y)))], rfl, (by exact ⟨rfl, rfl⟩), by rw [ht]; exact hP, hD⟩, hS.F ht⟩) hS.2.2 dX4_append_45
  · exact False.elim (by have h := f_3; rw [← nI_0, nI_leI (by omega) (by omega)] at h; omega)
end
section
set_option maxHeartbeats 1000000 in
set_option maxRecDepth 100000 in
theorem cT_init (l : Launch) (D : va_G) (cI cL cQ : ClassId) (h0 : Nat) (a : Nat) (sz : Nat) (ha : a ≤ 400) : Met l yX4_init wsX4_init ({ frames := 1, cells := 6, slots := 2402, locals := 12 }) (jw_P D vwCl (jT cI cL cQ) cL cQ [.ref h0, .int (nI a)] [(h0, .inr (4, [.int 0, .null, .null, .null, .null, .null, .null, .int 0, .int 0]))] sz) (va_Qv (fun u : va_W => ∃ (ak : Nat) (av : Nat) (ao : Nat) (ap : Nat) (al : Nat) (af : Nat), u = [(h0, .inr (4, [.int (nI a), .ref ak, .ref av, .ref ao, .ref ap, .ref al, .ref af, .int 0, .int 0])), (ak, .inl (cI, a, .inl (fun _ => 0))), (av, .inl (cI, a, .inl (fun _ => 0))), (ao, .inl (cI, a, .inl (fun _ => 0))), (ap, .inl (cI, a + 1, .inl (fun _ => 0))), (al, .inl (cI, a + 1, .inl (fun _ => 0))), (af, .inl (cI, a, .inl (fun _ => 0)))]) (jw_B D vwCl (va_A [(h0, .inr (4, [.int 0, .null, .null, .null, .null, .null, .null, .int 0, .int 0]))] sz) (fun u : va_W => u)) (va_A [(h0, .inr (4, [.int 0, .null, .null, .null, .null, .null, .null, .int 0, .int 0]))] sz)) 6 2402 (va_A [(h0, .inr (4, [.int 0, .null, .null, .null, .null, .null, .null, .int 0, .int 0]))] sz) := by
  refine Met.ofW (cc := cX4_init) (maxL := 2) (ret := none) (by decide) rfl ?_
  intro p e s m args below meth c s₁ B hml hv
  obtain ⟨rfl, hsz, hP, hK, hN, hD0⟩ := hv
  have hx := B.exec
  have hb := B.bytes
  have hr := B.returns
  have hts := atoms_spec (ws := wsX4_init) B.pre
  have hown : s.vm.findClass RX4 = some m.cls := findClass_of_methodNamed B.named
  have hlocks := B.notSynchronized
  have hin : meth.name = "<init>" := (name_of_methodNamed B.named B.method).1
  subst hsz
  have hD := hD0.self (sz := s.heap.size)
  generalize hAe : va_A [(h0, .inr (4, [.int 0, .null, .null, .null, .null, .null, .null, .int 0, .int 0]))] s.heap.size = A at hD ⊢
  have hA : ∀ q : Nat, s.heap.size ≤ q → A q := fun q h => by rw [← hAe]; exact Or.inr h
  have hS : va_S A s.heap s.heap [] := va_S.rf
  have hl := lv_entry ([.ref h0, .int (nI a)]) (n := 2) (Nat.le_of_ble_eq_true rfl)
  rw [lg_entry_eq]
  generalize (lg_sl ([.ref h0, .int (nI a)]) ++ List.replicate (2 - (lg_sl ([.ref h0, .int (nI a)])).length) Slot.unset).toArray = ls at hl ⊢
  have hl : lv_has ls 2 [(0, .ref h0), (1, .int (nI a))] := hl
  refine lv_aload_n hx hb dX4_init_0 rfl (lv_at hl 0 rfl) ?_
  refine W.objInit hx hb hown (hts (.methodLink RX4 3 objectInit) (by decide +kernel)) (hts (.instanceMethod objectInit) (by decide +kernel)) (hts (.code objectInit ⟨#[0xb1]⟩ 1 none) (by decide +kernel)) rfl (by rw [hml]; exact hl.1) rfl dX4_init_1 (Nat.le_of_ble_eq_true rfl) (Nat.le_of_ble_eq_true rfl) ?_
  refine W.eq (g2 := F0 m 4 ls []) rfl ?_
  refine lv_aload_n hx hb dX4_init_4 rfl (lv_at hl 0 rfl) ?_
  refine lv_iload_n hx hb dX4_init_5 rfl (lv_at hl 1 rfl) ?_
  refine va_putF (D := D) (ci := 4) (v := .int (nI a)) (ty := .int) (C := RX4) (T := TX4) (N := 9) hx hb hts (by decide +kernel) tyX4 tyX4_ok nmX4 hown hK hP hD hS 0 rfl rfl 0 (by decide) (hts (.fieldLink RX4 9 "JoinDesk$Table" "room" "I") (by decide +kernel)) (fun _ h9 => h9) rfl hin rfl (by decide +kernel) rfl rfl (Nat.le_of_ble_eq_true rfl) dX4_init_6 (fun H locs hP hD hS => ?_)
  have hP : va_P D vwCl [(h0, .inr (4, [.int (nI a), .null, .null, .null, .null, .null, .null, .int 0, .int 0]))] H := hP
  have hD : va_D A [(h0, .inr (4, [.int (nI a), .null, .null, .null, .null, .null, .null, .int 0, .int 0]))] := hD
  refine lv_aload_n hx hb dX4_init_9 rfl (lv_at hl 0 rfl) ?_
  refine lv_iload_n hx hb dX4_init_10 rfl (lv_at hl 1 rfl) ?_
  refine jx_newi (atype := .int) hx hb (hts (.arrayClass .int) (by decide +kernel)) rfl hK hP hD hS hA 0 rfl (N' := a) (nI_pos (by omega)) (nI_clamp (by omega)) (by omega) (Nat.le_of_ble_eq_true rfl) (Nat.le_trans (Nat.add_le_add_left (show a ≤ 400 by omega) _) (Nat.le_of_ble_eq_true rfl)) dX4_init_11 (fun ak H hP hD hS => ?_)
  have hP : va_P D vwCl [(h0, .inr (4, [.int (nI a), .null, .null, .null, .null, .null, .null, .int 0, .int 0])), (ak, .inl (cI, a, .inl (fun _ => 0)))] H := hP
  have hD : va_D A [(h0, .inr (4, [.int (nI a), .null, .null, .null, .null, .null, .null, .int 0, .int 0])), (ak, .inl (cI, a, .inl (fun _ => 0)))] := hD
  refine W.widen (k := 1) (n := 400) (by omega) (by omega) ?_
  refine va_putF (D := D) (ci := 4) (v := .ref ak) (ty := .array .int) (C := RX4) (T := TX4) (N := 9) hx hb hts (by decide +kernel) tyX4 tyX4_ok nmX4 hown hK hP hD hS 0 rfl rfl 1 (by decide) (hts (.fieldLink RX4 15 "JoinDesk$Table" "keys" "[I") (by decide +kernel)) (fun _ h9 => h9) rfl hin rfl (by decide +kernel) rfl rfl (Nat.le_of_ble_eq_true rfl) dX4_init_13 (fun H locs hP hD hS => ?_)
  have hP : va_P D vwCl [(h0, .inr (4, [.int (nI a), .ref ak, .null, .null, .null, .null, .null, .int 0, .int 0])), (ak, .inl (cI, a, .inl (fun _ => 0)))] H := hP
  have hD : va_D A [(h0, .inr (4, [.int (nI a), .ref ak, .null, .null, .null, .null, .null, .int 0, .int 0])), (ak, .inl (cI, a, .inl (fun _ => 0)))] := hD
  refine lv_aload_n hx hb dX4_init_16 rfl (lv_at hl 0 rfl) ?_
  refine lv_iload_n hx hb dX4_init_17 rfl (lv_at hl 1 rfl) ?_
  refine jx_newi (atype := .int) hx hb (hts (.arrayClass .int) (by decide +kernel)) rfl hK hP hD hS hA 0 rfl (N' := a) (nI_pos (by omega)) (nI_clamp (by omega)) (by omega) (Nat.le_of_ble_eq_true rfl) (Nat.le_trans (Nat.add_le_add_left (show a ≤ 400 by omega) _) (Nat.le_of_ble_eq_true rfl)) dX4_init_18 (fun av H hP hD hS => ?_)
  have hP : va_P D vwCl [(h0, .inr (4, [.int (nI a), .ref ak, .null, .null, .null, .null, .null, .int 0, .int 0])), (ak, .inl (cI, a, .inl (fun _ => 0))), (av, .inl (cI, a, .inl (fun _ => 0)))] H := hP
  have hD : va_D A [(h0, .inr (4, [.int (nI a), .ref ak, .null, .null, .null, .null, .null, .int 0, .int 0])), (ak, .inl (cI, a, .inl (fun _ => 0))), (av, .inl (cI, a, .inl (fun _ => 0)))] := hD
  refine W.widen (k := 2) (n := 800) (by omega) (by omega) ?_
  refine va_putF (D := D) (ci := 4) (v := .ref av) (ty := .array .int) (C := RX4) (T := TX4) (N := 9) hx hb hts (by decide +kernel) tyX4 tyX4_ok nmX4 hown hK hP hD hS 0 rfl rfl 2 (by decide) (hts (.fieldLink RX4 19 "JoinDesk$Table" "values" "[I") (by decide +kernel)) (fun _ h9 => h9) rfl hin rfl (by decide +kernel) rfl rfl (Nat.le_of_ble_eq_true rfl) dX4_init_20 (fun H locs hP hD hS => ?_)
  have hP : va_P D vwCl [(h0, .inr (4, [.int (nI a), .ref ak, .ref av, .null, .null, .null, .null, .int 0, .int 0])), (ak, .inl (cI, a, .inl (fun _ => 0))), (av, .inl (cI, a, .inl (fun _ => 0)))] H := hP
  have hD : va_D A [(h0, .inr (4, [.int (nI a), .ref ak, .ref av, .null, .null, .null, .null, .int 0, .int 0])), (ak, .inl (cI, a, .inl (fun _ => 0))), (av, .inl (cI, a, .inl (fun _ => 0)))] := hD
  refine lv_aload_n hx hb dX4_init_23 rfl (lv_at hl 0 rfl) ?_
  refine lv_iload_n hx hb dX4_init_24 rfl (lv_at hl 1 rfl) ?_
  refine jx_newi (atype := .int) hx hb (hts (.arrayClass .int) (by decide +kernel)) rfl hK hP hD hS hA 0 rfl (N' := a) (nI_pos (by omega)) (nI_clamp (by omega)) (by omega) (Nat.le_of_ble_eq_true rfl) (Nat.le_trans (Nat.add_le_add_left (show a ≤ 400 by omega) _) (Nat.le_of_ble_eq_true rfl)) dX4_init_25 (fun ao H hP hD hS => ?_)
  have hP : va_P D vwCl [(h0, .inr (4, [.int (nI a), .ref ak, .ref av, .null, .null, .null, .null, .int 0, .int 0])), (ak, .inl (cI, a, .inl (fun _ => 0))), (av, .inl (cI, a, .inl (fun _ => 0))), (ao, .inl (cI, a, .inl (fun _ => 0)))] H := hP
  have hD : va_D A [(h0, .inr (4, [.int (nI a), .ref ak, .ref av, .null, .null, .null, .null, .int 0, .int 0])), (ak, .inl (cI, a, .inl (fun _ => 0))), (av, .inl (cI, a, .inl (fun _ => 0))), (ao, .inl (cI, a, .inl (fun _ => 0)))] := hD
  refine W.widen (k := 3) (n := 1200) (by omega) (by omega) ?_
  refine va_putF (D := D) (ci := 4) (v := .ref ao) (ty := .array .int) (C := RX4) (T := TX4) (N := 9) hx hb hts (by decide +kernel) tyX4 tyX4_ok nmX4 hown hK hP hD hS 0 rfl rfl 3 (by decide) (hts (.fieldLink RX4 22 "JoinDesk$Table" "order" "[I") (by decide +kernel)) (fun _ h9 => h9) rfl hin rfl (by decide +kernel) rfl rfl (Nat.le_of_ble_eq_true rfl) dX4_init_27 (fun H locs hP hD hS => ?_)
  have hP : va_P D vwCl [(h0, .inr (4, [.int (nI a), .ref ak, .ref av, .ref ao, .null, .null, .null, .int 0, .int 0])), (ak, .inl (cI, a, .inl (fun _ => 0))), (av, .inl (cI, a, .inl (fun _ => 0))), (ao, .inl (cI, a, .inl (fun _ => 0)))] H := hP
  have hD : va_D A [(h0, .inr (4, [.int (nI a), .ref ak, .ref av, .ref ao, .null, .null, .null, .int 0, .int 0])), (ak, .inl (cI, a, .inl (fun _ => 0))), (av, .inl (cI, a, .inl (fun _ => 0))), (ao, .inl (cI, a, .inl (fun _ => 0)))] := hD
  refine lv_aload_n hx hb dX4_init_30 rfl (lv_at hl 0 rfl) ?_
  refine lv_iload_n hx hb dX4_init_31 rfl (lv_at hl 1 rfl) ?_
  refine lv_iconst (v := 1) hx hb dX4_init_32 (by decide) ?_
  refine lv_iadd hx hb dX4_init_33 ?_
  refine jx_newi (atype := .int) hx hb (hts (.arrayClass .int) (by decide +kernel)) rfl hK hP hD hS hA 0 rfl (N' := (a + 1)) (by rw [nI_1]; exact nI_pos (by omega)) (by rw [nI_1]; exact nI_clamp (by omega)) (by omega) (Nat.le_of_ble_eq_true rfl) (Nat.le_trans (Nat.add_le_add_left (show a + 1 ≤ 401 by omega) _) (Nat.le_of_ble_eq_true rfl)) dX4_init_34 (fun ap H hP hD hS => ?_)
  have hP : va_P D vwCl [(h0, .inr (4, [.int (nI a), .ref ak, .ref av, .ref ao, .null, .null, .null, .int 0, .int 0])), (ak, .inl (cI, a, .inl (fun _ => 0))), (av, .inl (cI, a, .inl (fun _ => 0))), (ao, .inl (cI, a, .inl (fun _ => 0))), (ap, .inl (cI, a + 1, .inl (fun _ => 0)))] H := hP
  have hD : va_D A [(h0, .inr (4, [.int (nI a), .ref ak, .ref av, .ref ao, .null, .null, .null, .int 0, .int 0])), (ak, .inl (cI, a, .inl (fun _ => 0))), (av, .inl (cI, a, .inl (fun _ => 0))), (ao, .inl (cI, a, .inl (fun _ => 0))), (ap, .inl (cI, a + 1, .inl (fun _ => 0)))] := hD
  refine W.widen (k := 4) (n := 1601) (by omega) (by omega) ?_
  refine va_putF (D := D) (ci := 4) (v := .ref ap) (ty := .array .int) (C := RX4) (T := TX4) (N := 9) hx hb hts (by decide +kernel) tyX4 tyX4_ok nmX4 hown hK hP hD hS 0 rfl rfl 4 (by decide) (hts (.fieldLink RX4 25 "JoinDesk$Table" "partnerSums" "[I") (by decide +kernel)) (fun _ h9 => h9) rfl hin rfl (by decide +kernel) rfl rfl (Nat.le_of_ble_eq_true rfl) dX4_init_36 (fun H locs hP hD hS => ?_)
  have hP : va_P D vwCl [(h0, .inr (4, [.int (nI a), .ref ak, .ref av, .ref ao, .ref ap, .null, .null, .int 0, .int 0])), (ak, .inl (cI, a, .inl (fun _ => 0))), (av, .inl (cI, a, .inl (fun _ => 0))), (ao, .inl (cI, a, .inl (fun _ => 0))), (ap, .inl (cI, a + 1, .inl (fun _ => 0)))] H := hP
  have hD : va_D A [(h0, .inr (4, [.int (nI a), .ref ak, .ref av, .ref ao, .ref ap, .null, .null, .int 0, .int 0])), (ak, .inl (cI, a, .inl (fun _ => 0))), (av, .inl (cI, a, .inl (fun _ => 0))), (ao, .inl (cI, a, .inl (fun _ => 0))), (ap, .inl (cI, a + 1, .inl (fun _ => 0)))] := hD
  refine lv_aload_n hx hb dX4_init_39 rfl (lv_at hl 0 rfl) ?_
  refine lv_iload_n hx hb dX4_init_40 rfl (lv_at hl 1 rfl) ?_
  refine lv_iconst (v := 1) hx hb dX4_init_41 (by decide) ?_
  refine lv_iadd hx hb dX4_init_42 ?_
  refine jx_newi (atype := .int) hx hb (hts (.arrayClass .int) (by decide +kernel)) rfl hK hP hD hS hA 0 rfl (N' := (a + 1)) (by rw [nI_1]; exact nI_pos (by omega)) (by rw [nI_1]; exact nI_clamp (by omega)) (by omega) (Nat.le_of_ble_eq_true rfl) (Nat.le_trans (Nat.add_le_add_left (show a + 1 ≤ 401 by omega) _) (Nat.le_of_ble_eq_true rfl)) dX4_init_43 (fun al H hP hD hS => ?_)
  have hP : va_P D vwCl [(h0, .inr (4, [.int (nI a), .ref ak, .ref av, .ref ao, .ref ap, .null, .null, .int 0, .int 0])), (ak, .inl (cI, a, .inl (fun _ => 0))), (av, .inl (cI, a, .inl (fun _ => 0))), (ao, .inl (cI, a, .inl (fun _ => 0))), (ap, .inl (cI, a + 1, .inl (fun _ => 0))), (al, .inl (cI, a + 1, .inl (fun _ => 0)))] H := hP
  have hD : va_D A [(h0, .inr (4, [.int (nI a), .ref ak, .ref av, .ref ao, .ref ap, .null, .null, .int 0, .int 0])), (ak, .inl (cI, a, .inl (fun _ => 0))), (av, .inl (cI, a, .inl (fun _ => 0))), (ao, .inl (cI, a, .inl (fun _ => 0))), (ap, .inl (cI, a + 1, .inl (fun _ => 0))), (al, .inl (cI, a + 1, .inl (fun _ => 0)))] := hD
  refine W.widen (k := 5) (n := 2002) (by omega) (by omega) ?_
  refine va_putF (D := D) (ci := 4) (v := .ref al) (ty := .array .int) (C := RX4) (T := TX4) (N := 9) hx hb hts (by decide +kernel) tyX4 tyX4_ok nmX4 hown hK hP hD hS 0 rfl rfl 5 (by decide) (hts (.fieldLink RX4 28 "JoinDesk$Table" "loneSums" "[I") (by decide +kernel)) (fun _ h9 => h9) rfl hin rfl (by decide +kernel) rfl rfl (Nat.le_of_ble_eq_true rfl) dX4_init_45 (fun H locs hP hD hS => ?_)
  have hP : va_P D vwCl [(h0, .inr (4, [.int (nI a), .ref ak, .ref av, .ref ao, .ref ap, .ref al, .null, .int 0, .int 0])), (ak, .inl (cI, a, .inl (fun _ => 0))), (av, .inl (cI, a, .inl (fun _ => 0))), (ao, .inl (cI, a, .inl (fun _ => 0))), (ap, .inl (cI, a + 1, .inl (fun _ => 0))), (al, .inl (cI, a + 1, .inl (fun _ => 0)))] H := hP
  have hD : va_D A [(h0, .inr (4, [.int (nI a), .ref ak, .ref av, .ref ao, .ref ap, .ref al, .null, .int 0, .int 0])), (ak, .inl (cI, a, .inl (fun _ => 0))), (av, .inl (cI, a, .inl (fun _ => 0))), (ao, .inl (cI, a, .inl (fun _ => 0))), (ap, .inl (cI, a + 1, .inl (fun _ => 0))), (al, .inl (cI, a + 1, .inl (fun _ => 0)))] := hD
  refine lv_aload_n hx hb dX4_init_48 rfl (lv_at hl 0 rfl) ?_
  refine lv_iload_n hx hb dX4_init_49 rfl (lv_at hl 1 rfl) ?_
  refine jx_newi (atype := .int) hx hb (hts (.arrayClass .int) (by decide +kernel)) rfl hK hP hD hS hA 0 rfl (N' := a) (nI_pos (by omega)) (nI_clamp (by omega)) (by omega) (Nat.le_of_ble_eq_true rfl) (Nat.le_trans (Nat.add_le_add_left (show a ≤ 400 by omega) _) (Nat.le_of_ble_eq_true rfl)) dX4_init_50 (fun af H hP hD hS => ?_)
  have hP : va_P D vwCl [(h0, .inr (4, [.int (nI a), .ref ak, .ref av, .ref ao, .ref ap, .ref al, .null, .int 0, .int 0])), (ak, .inl (cI, a, .inl (fun _ => 0))), (av, .inl (cI, a, .inl (fun _ => 0))), (ao, .inl (cI, a, .inl (fun _ => 0))), (ap, .inl (cI, a + 1, .inl (fun _ => 0))), (al, .inl (cI, a + 1, .inl (fun _ => 0))), (af, .inl (cI, a, .inl (fun _ => 0)))] H := hP
  have hD : va_D A [(h0, .inr (4, [.int (nI a), .ref ak, .ref av, .ref ao, .ref ap, .ref al, .null, .int 0, .int 0])), (ak, .inl (cI, a, .inl (fun _ => 0))), (av, .inl (cI, a, .inl (fun _ => 0))), (ao, .inl (cI, a, .inl (fun _ => 0))), (ap, .inl (cI, a + 1, .inl (fun _ => 0))), (al, .inl (cI, a + 1, .inl (fun _ => 0))), (af, .inl (cI, a, .inl (fun _ => 0)))] := hD
  refine W.widen (k := 6) (n := 2402) (by omega) (by omega) ?_
  refine va_putF (D := D) (ci := 4) (v := .ref af) (ty := .array .int) (C := RX4) (T := TX4) (N := 9) hx hb hts (by decide +kernel) tyX4 tyX4_ok nmX4 hown hK hP hD hS 0 rfl rfl 6 (by decide) (hts (.fieldLink RX4 31 "JoinDesk$Table" "firstPartners" "[I") (by decide +kernel)) (fun _ h9 => h9) rfl hin rfl (by decide +kernel) rfl rfl (Nat.le_of_ble_eq_true rfl) dX4_init_52 (fun H locs hP hD hS => ?_)
  have hP : va_P D vwCl [(h0, .inr (4, [.int (nI a), .ref ak, .ref av, .ref ao, .ref ap, .ref al, .ref af, .int 0, .int 0])), (ak, .inl (cI, a, .inl (fun _ => 0))), (av, .inl (cI, a, .inl (fun _ => 0))), (ao, .inl (cI, a, .inl (fun _ => 0))), (ap, .inl (cI, a + 1, .inl (fun _ => 0))), (al, .inl (cI, a + 1, .inl (fun _ => 0))), (af, .inl (cI, a, .inl (fun _ => 0)))] H := hP
  have hD : va_D A [(h0, .inr (4, [.int (nI a), .ref ak, .ref av, .ref ao, .ref ap, .ref al, .ref af, .int 0, .int 0])), (ak, .inl (cI, a, .inl (fun _ => 0))), (av, .inl (cI, a, .inl (fun _ => 0))), (ao, .inl (cI, a, .inl (fun _ => 0))), (ap, .inl (cI, a + 1, .inl (fun _ => 0))), (al, .inl (cI, a + 1, .inl (fun _ => 0))), (af, .inl (cI, a, .inl (fun _ => 0)))] := hD
  refine lv_aload_n hx hb dX4_init_55 rfl (lv_at hl 0 rfl) ?_
  refine lv_iconst (v := 0) hx hb dX4_init_56 (by decide) ?_
  refine va_put (D := D) (ci := 4) (v := .int 0) (ty := .int) (C := RX4) (T := TX4) (N := 9) hx hb hts (by decide +kernel) tyX4 tyX4_ok nmX4 hown hK hP hD hS 0 rfl rfl 7 (by decide) (hts (.fieldLink RX4 34 "JoinDesk$Table" "size" "I") (by decide +kernel)) (fun _ h9 => h9) rfl (by decide +kernel) rfl rfl (Nat.le_of_ble_eq_true rfl) dX4_init_57 (fun H locs hP hD hS => ?_)
  have hP : va_P D vwCl [(h0, .inr (4, [.int (nI a), .ref ak, .ref av, .ref ao, .ref ap, .ref al, .ref af, .int 0, .int 0])), (ak, .inl (cI, a, .inl (fun _ => 0))), (av, .inl (cI, a, .inl (fun _ => 0))), (ao, .inl (cI, a, .inl (fun _ => 0))), (ap, .inl (cI, a + 1, .inl (fun _ => 0))), (al, .inl (cI, a + 1, .inl (fun _ => 0))), (af, .inl (cI, a, .inl (fun _ => 0)))] H := hP
  have hD : va_D A [(h0, .inr (4, [.int (nI a), .ref ak, .ref av, .ref ao, .ref ap, .ref al, .ref af, .int 0, .int 0])), (ak, .inl (cI, a, .inl (fun _ => 0))), (av, .inl (cI, a, .inl (fun _ => 0))), (ao, .inl (cI, a, .inl (fun _ => 0))), (ap, .inl (cI, a + 1, .inl (fun _ => 0))), (al, .inl (cI, a + 1, .inl (fun _ => 0))), (af, .inl (cI, a, .inl (fun _ => 0)))] := hD
  refine lv_aload_n hx hb dX4_init_60 rfl (lv_at hl 0 rfl) ?_
  refine lv_iconst (v := 0) hx hb dX4_init_61 (by decide) ?_
  refine va_put (D := D) (ci := 4) (v := .int 0) (ty := .int) (C := RX4) (T := TX4) (N := 9) hx hb hts (by decide +kernel) tyX4 tyX4_ok nmX4 hown hK hP hD hS 0 rfl rfl 8 (by decide) (hts (.fieldLink RX4 37 "JoinDesk$Table" "placed" "I") (by decide +kernel)) (fun _ h9 => h9) rfl (by decide +kernel) rfl rfl (Nat.le_of_ble_eq_true rfl) dX4_init_62 (fun H locs hP hD hS => ?_)
  have hP : va_P D vwCl [(h0, .inr (4, [.int (nI a), .ref ak, .ref av, .ref ao, .ref ap, .ref al, .ref af, .int 0, .int 0])), (ak, .inl (cI, a, .inl (fun _ => 0))), (av, .inl (cI, a, .inl (fun _ => 0))), (ao, .inl (cI, a, .inl (fun _ => 0))), (ap, .inl (cI, a + 1, .inl (fun _ => 0))), (al, .inl (cI, a + 1, .inl (fun _ => 0))), (af, .inl (cI, a, .inl (fun _ => 0)))] H := hP
  have hD : va_D A [(h0, .inr (4, [.int (nI a), .ref ak, .ref av, .ref ao, .ref ap, .ref al, .ref af, .int 0, .int 0])), (ak, .inl (cI, a, .inl (fun _ => 0))), (av, .inl (cI, a, .inl (fun _ => 0))), (ao, .inl (cI, a, .inl (fun _ => 0))), (ap, .inl (cI, a + 1, .inl (fun _ => 0))), (al, .inl (cI, a + 1, .inl (fun _ => 0))), (af, .inl (cI, a, .inl (fun _ => 0)))] := hD
  refine W.widen (k := 6) (n := 2402) (by omega) (by omega) ?_
  exact W.vret hx hb hr (fun t ht hW => ⟨⟨[(h0, .inr (4, [.int (nI a), .ref ak, .ref av, .ref ao, .ref ap, .ref al, .ref af, .int 0, .int 0])), (ak, .inl (cI, a, .inl (fun _ => 0))), (av, .inl (cI, a, .inl (fun _ => 0))), (ao, .inl (cI, a, .inl (fun _ => 0))), (ap, .inl (cI, a + 1, .inl (fun _ => 0))), (al, .inl (cI, a + 1, .inl (fun _ => 0))), (af, .inl (cI, a, .inl (fun _ => 0)))], rfl, (by exact ⟨_, _, _, _, _, _, rfl⟩), by rw [ht]; exact hP, hD⟩, hS.F ht⟩) hS.2.2 dX4_init_65
end
section
set_option maxHeartbeats 1000000 in
set_option maxRecDepth 100000 in
theorem cP_init (l : Launch) (D : va_G) (cI cL cQ : ClassId) (h0 : Nat) (sz : Nat) : Met l yX2_init wsX2_init ({ frames := 1, cells := 0, slots := 0, locals := 12 }) (jw_P D vwCl (jT cI cL cQ) cL cQ [.ref h0] [(h0, .inr (2, [.int 0, .int 0, .int 0, .int 0, .int 0, .int 0, .int 0]))] sz) (va_Qv (fun u : va_W => u = [(h0, .inr (2, [.int 0, .int 0, .int 0, .int 0, .int (-1), .int (-1), .int 0]))]) (jw_B D vwCl (va_A [(h0, .inr (2, [.int 0, .int 0, .int 0, .int 0, .int 0, .int 0, .int 0]))] sz) (fun u : va_W => u)) (va_A [(h0, .inr (2, [.int 0, .int 0, .int 0, .int 0, .int 0, .int 0, .int 0]))] sz)) 0 0 (va_A [(h0, .inr (2, [.int 0, .int 0, .int 0, .int 0, .int 0, .int 0, .int 0]))] sz) := by
  refine Met.ofW (cc := cX2_init) (maxL := 1) (ret := none) (by decide) rfl ?_
  intro p e s m args below meth c s₁ B hml hv
  obtain ⟨rfl, hsz, hP, hK, hN, hD0⟩ := hv
  have hx := B.exec
  have hb := B.bytes
  have hr := B.returns
  have hts := atoms_spec (ws := wsX2_init) B.pre
  have hown : s.vm.findClass RX2 = some m.cls := findClass_of_methodNamed B.named
  have hlocks := B.notSynchronized
  have hin : meth.name = "<init>" := (name_of_methodNamed B.named B.method).1
  subst hsz
  have hD := hD0.self (sz := s.heap.size)
  generalize hAe : va_A [(h0, .inr (2, [.int 0, .int 0, .int 0, .int 0, .int 0, .int 0, .int 0]))] s.heap.size = A at hD ⊢
  have hA : ∀ q : Nat, s.heap.size ≤ q → A q := fun q h => by rw [← hAe]; exact Or.inr h
  have hS : va_S A s.heap s.heap [] := va_S.rf
  have hl := lv_entry ([.ref h0]) (n := 1) (Nat.le_of_ble_eq_true rfl)
  rw [lg_entry_eq]
  generalize (lg_sl ([.ref h0]) ++ List.replicate (1 - (lg_sl ([.ref h0])).length) Slot.unset).toArray = ls at hl ⊢
  have hl : lv_has ls 1 [(0, .ref h0)] := hl
  refine lv_aload_n hx hb dX2_init_0 rfl (lv_at hl 0 rfl) ?_
  refine W.objInit hx hb hown (hts (.methodLink RX2 3 objectInit) (by decide +kernel)) (hts (.instanceMethod objectInit) (by decide +kernel)) (hts (.code objectInit ⟨#[0xb1]⟩ 1 none) (by decide +kernel)) rfl (by rw [hml]; exact hl.1) rfl dX2_init_1 (Nat.le_of_ble_eq_true rfl) (Nat.le_of_ble_eq_true rfl) ?_
  refine W.eq (g2 := F0 m 4 ls []) rfl ?_
  refine lv_aload_n hx hb dX2_init_4 rfl (lv_at hl 0 rfl) ?_
  refine lv_iconst (v := (-1)) hx hb dX2_init_5 (by decide) ?_
  refine va_put (D := D) (ci := 2) (v := .int (-1)) (ty := .int) (C := RX2) (T := TX2) (N := 7) hx hb hts (by decide +kernel) tyX2 tyX2_ok nmX2 hown hK hP hD hS 0 rfl rfl 4 (by decide) (hts (.fieldLink RX2 9 "JoinDesk$Position" "leftAt" "I") (by decide +kernel)) (fun _ h9 => h9) rfl (by decide +kernel) rfl rfl (Nat.le_of_ble_eq_true rfl) dX2_init_6 (fun H locs hP hD hS => ?_)
  have hP : va_P D vwCl [(h0, .inr (2, [.int 0, .int 0, .int 0, .int 0, .int (-1), .int 0, .int 0]))] H := hP
  have hD : va_D A [(h0, .inr (2, [.int 0, .int 0, .int 0, .int 0, .int (-1), .int 0, .int 0]))] := hD
  refine lv_aload_n hx hb dX2_init_9 rfl (lv_at hl 0 rfl) ?_
  refine lv_iconst (v := (-1)) hx hb dX2_init_10 (by decide) ?_
  refine va_put (D := D) (ci := 2) (v := .int (-1)) (ty := .int) (C := RX2) (T := TX2) (N := 7) hx hb hts (by decide +kernel) tyX2 tyX2_ok nmX2 hown hK hP hD hS 0 rfl rfl 5 (by decide) (hts (.fieldLink RX2 15 "JoinDesk$Position" "rightAt" "I") (by decide +kernel)) (fun _ h9 => h9) rfl (by decide +kernel) rfl rfl (Nat.le_of_ble_eq_true rfl) dX2_init_11 (fun H locs hP hD hS => ?_)
  have hP : va_P D vwCl [(h0, .inr (2, [.int 0, .int 0, .int 0, .int 0, .int (-1), .int (-1), .int 0]))] H := hP
  have hD : va_D A [(h0, .inr (2, [.int 0, .int 0, .int 0, .int 0, .int (-1), .int (-1), .int 0]))] := hD
  refine W.widen (k := 0) (n := 0) (by omega) (by omega) ?_
  exact W.vret hx hb hr (fun t ht hW => ⟨⟨[(h0, .inr (2, [.int 0, .int 0, .int 0, .int 0, .int (-1), .int (-1), .int 0]))], rfl, (by exact rfl), by rw [ht]; exact hP, hD⟩, hS.F ht⟩) hS.2.2 dX2_init_14
set_option maxHeartbeats 1000000 in
set_option maxRecDepth 100000 in
theorem cP_stand (l : Launch) (D : va_G) (cI cL cQ : ClassId) (h0 : Nat) (p0 : Int32) (p1 : Int32) (p2 : Int32) (p3 : Int32) (p4 : Int32) (p5 : Int32) (p6 : Int32) (x : Int32) (y : Int32) (z : Int32) (sz : Nat) : Met l yX2_stand wsX2_stand ({ frames := 0, cells := 0, slots := 0, locals := 0 }) (jw_P D vwCl (jT cI cL cQ) cL cQ [.ref h0, .int x, .int y, .int z] [(h0, .inr (2, [.int p0, .int p1, .int p2, .int p3, .int p4, .int p5, .int p6]))] sz) (va_Qv (fun u : va_W => u = [(h0, .inr (2, [.int x, .int x, .int y, .int y, .int (-1), .int (-1), .int z]))]) (jw_B D vwCl (va_A [(h0, .inr (2, [.int p0, .int p1, .int p2, .int p3, .int p4, .int p5, .int p6]))] sz) (fun u : va_W => u)) (va_A [(h0, .inr (2, [.int p0, .int p1, .int p2, .int p3, .int p4, .int p5, .int p6]))] sz)) 0 0 (va_A [(h0, .inr (2, [.int p0, .int p1, .int p2, .int p3, .int p4, .int p5, .int p6]))] sz) := by
  refine Met.ofW (cc := cX2_stand) (maxL := 4) (ret := none) (by decide) rfl ?_
  intro p e s m args below meth c s₁ B hml hv
  obtain ⟨rfl, hsz, hP, hK, hN, hD0⟩ := hv
  have hx := B.exec
  have hb := B.bytes
  have hr := B.returns
  have hts := atoms_spec (ws := wsX2_stand) B.pre
  have hown : s.vm.findClass RX2 = some m.cls := findClass_of_methodNamed B.named
  have hlocks := B.notSynchronized
  subst hsz
  have hD := hD0.self (sz := s.heap.size)
  generalize hAe : va_A [(h0, .inr (2, [.int p0, .int p1, .int p2, .int p3, .int p4, .int p5, .int p6]))] s.heap.size = A at hD ⊢
  have hA : ∀ q : Nat, s.heap.size ≤ q → A q := fun q h => by rw [← hAe]; exact Or.inr h
  have hS : va_S A s.heap s.heap [] := va_S.rf
  have hl := lv_entry ([.ref h0, .int x, .int y, .int z]) (n := 4) (Nat.le_of_ble_eq_true rfl)
  rw [lg_entry_eq]
  generalize (lg_sl ([.ref h0, .int x, .int y, .int z]) ++ List.replicate (4 - (lg_sl ([.ref h0, .int x, .int y, .int z])).length) Slot.unset).toArray = ls at hl ⊢
  have hl : lv_has ls 4 [(0, .ref h0), (1, .int x), (2, .int y), (3, .int z)] := hl
  refine lv_aload_n hx hb dX2_stand_0 rfl (lv_at hl 0 rfl) ?_
  refine lv_iload_n hx hb dX2_stand_1 rfl (lv_at hl 1 rfl) ?_
  refine va_put (D := D) (ci := 2) (v := .int x) (ty := .int) (C := RX2) (T := TX2) (N := 7) hx hb hts (by decide +kernel) tyX2 tyX2_ok nmX2 hown hK hP hD hS 0 rfl rfl 0 (by decide) (hts (.fieldLink RX2 18 "JoinDesk$Position" "leftFrom" "I") (by decide +kernel)) (fun _ h9 => h9) rfl (by decide +kernel) rfl rfl (Nat.le_of_ble_eq_true rfl) dX2_stand_2 (fun H locs hP hD hS => ?_)
  have hP : va_P D vwCl [(h0, .inr (2, [.int x, .int p1, .int p2, .int p3, .int p4, .int p5, .int p6]))] H := hP
  have hD : va_D A [(h0, .inr (2, [.int x, .int p1, .int p2, .int p3, .int p4, .int p5, .int p6]))] := hD
  refine lv_aload_n hx hb dX2_stand_5 rfl (lv_at hl 0 rfl) ?_
  refine lv_iload_n hx hb dX2_stand_6 rfl (lv_at hl 1 rfl) ?_
  refine va_put (D := D) (ci := 2) (v := .int x) (ty := .int) (C := RX2) (T := TX2) (N := 7) hx hb hts (by decide +kernel) tyX2 tyX2_ok nmX2 hown hK hP hD hS 0 rfl rfl 1 (by decide) (hts (.fieldLink RX2 21 "JoinDesk$Position" "leftTo" "I") (by decide +kernel)) (fun _ h9 => h9) rfl (by decide +kernel) rfl rfl (Nat.le_of_ble_eq_true rfl) dX2_stand_7 (fun H locs hP hD hS => ?_)
  have hP : va_P D vwCl [(h0, .inr (2, [.int x, .int x, .int p2, .int p3, .int p4, .int p5, .int p6]))] H := hP
  have hD : va_D A [(h0, .inr (2, [.int x, .int x, .int p2, .int p3, .int p4, .int p5, .int p6]))] := hD
  refine lv_aload_n hx hb dX2_stand_10 rfl (lv_at hl 0 rfl) ?_
  refine lv_iload_n hx hb dX2_stand_11 rfl (lv_at hl 2 rfl) ?_
  refine va_put (D := D) (ci := 2) (v := .int y) (ty := .int) (C := RX2) (T := TX2) (N := 7) hx hb hts (by decide +kernel) tyX2 tyX2_ok nmX2 hown hK hP hD hS 0 rfl rfl 2 (by decide) (hts (.fieldLink RX2 24 "JoinDesk$Position" "rightFrom" "I") (by decide +kernel)) (fun _ h9 => h9) rfl (by decide +kernel) rfl rfl (Nat.le_of_ble_eq_true rfl) dX2_stand_12 (fun H locs hP hD hS => ?_)
  have hP : va_P D vwCl [(h0, .inr (2, [.int x, .int x, .int y, .int p3, .int p4, .int p5, .int p6]))] H := hP
  have hD : va_D A [(h0, .inr (2, [.int x, .int x, .int y, .int p3, .int p4, .int p5, .int p6]))] := hD
  refine lv_aload_n hx hb dX2_stand_15 rfl (lv_at hl 0 rfl) ?_
  refine lv_iload_n hx hb dX2_stand_16 rfl (lv_at hl 2 rfl) ?_
  refine va_put (D := D) (ci := 2) (v := .int y) (ty := .int) (C := RX2) (T := TX2) (N := 7) hx hb hts (by decide +kernel) tyX2 tyX2_ok nmX2 hown hK hP hD hS 0 rfl rfl 3 (by decide) (hts (.fieldLink RX2 27 "JoinDesk$Position" "rightTo" "I") (by decide +kernel)) (fun _ h9 => h9) rfl (by decide +kernel) rfl rfl (Nat.le_of_ble_eq_true rfl) dX2_stand_17 (fun H locs hP hD hS => ?_)
  have hP : va_P D vwCl [(h0, .inr (2, [.int x, .int x, .int y, .int y, .int p4, .int p5, .int p6]))] H := hP
  have hD : va_D A [(h0, .inr (2, [.int x, .int x, .int y, .int y, .int p4, .int p5, .int p6]))] := hD
  refine lv_aload_n hx hb dX2_stand_20 rfl (lv_at hl 0 rfl) ?_
  refine lv_iconst (v := (-1)) hx hb dX2_stand_21 (by decide) ?_
  refine va_put (D := D) (ci := 2) (v := .int (-1)) (ty := .int) (C := RX2) (T := TX2) (N := 7) hx hb hts (by decide +kernel) tyX2 tyX2_ok nmX2 hown hK hP hD hS 0 rfl rfl 4 (by decide) (hts (.fieldLink RX2 9 "JoinDesk$Position" "leftAt" "I") (by decide +kernel)) (fun _ h9 => h9) rfl (by decide +kernel) rfl rfl (Nat.le_of_ble_eq_true rfl) dX2_stand_22 (fun H locs hP hD hS => ?_)
  have hP : va_P D vwCl [(h0, .inr (2, [.int x, .int x, .int y, .int y, .int (-1), .int p5, .int p6]))] H := hP
  have hD : va_D A [(h0, .inr (2, [.int x, .int x, .int y, .int y, .int (-1), .int p5, .int p6]))] := hD
  refine lv_aload_n hx hb dX2_stand_25 rfl (lv_at hl 0 rfl) ?_
  refine lv_iconst (v := (-1)) hx hb dX2_stand_26 (by decide) ?_
  refine va_put (D := D) (ci := 2) (v := .int (-1)) (ty := .int) (C := RX2) (T := TX2) (N := 7) hx hb hts (by decide +kernel) tyX2 tyX2_ok nmX2 hown hK hP hD hS 0 rfl rfl 5 (by decide) (hts (.fieldLink RX2 15 "JoinDesk$Position" "rightAt" "I") (by decide +kernel)) (fun _ h9 => h9) rfl (by decide +kernel) rfl rfl (Nat.le_of_ble_eq_true rfl) dX2_stand_27 (fun H locs hP hD hS => ?_)
  have hP : va_P D vwCl [(h0, .inr (2, [.int x, .int x, .int y, .int y, .int (-1), .int (-1), .int p6]))] H := hP
  have hD : va_D A [(h0, .inr (2, [.int x, .int x, .int y, .int y, .int (-1), .int (-1), .int p6]))] := hD
  refine lv_aload_n hx hb dX2_stand_30 rfl (lv_at hl 0 rfl) ?_
  refine lv_iload_n hx hb dX2_stand_31 rfl (lv_at hl 3 rfl) ?_
  refine va_put (D := D) (ci := 2) (v := .int z) (ty := .int) (C := RX2) (T := TX2) (N := 7) hx hb hts (by decide +kernel) tyX2 tyX2_ok nmX2 hown hK hP hD hS 0 rfl rfl 6 (by decide) (hts (.fieldLink RX2 30 "JoinDesk$Position" "passed" "I") (by decide +kernel)) (fun _ h9 => h9) rfl (by decide +kernel) rfl rfl (Nat.le_of_ble_eq_true rfl) dX2_stand_32 (fun H locs hP hD hS => ?_)
  have hP : va_P D vwCl [(h0, .inr (2, [.int x, .int x, .int y, .int y, .int (-1), .int (-1), .int z]))] H := hP
  have hD : va_D A [(h0, .inr (2, [.int x, .int x, .int y, .int y, .int (-1), .int (-1), .int z]))] := hD
  refine W.widen (k := 0) (n := 0) (by omega) (by omega) ?_
  exact W.vret hx hb hr (fun t ht hW => ⟨⟨[(h0, .inr (2, [.int x, .int x, .int y, .int y, .int (-1), .int (-1), .int z]))], rfl, (by exact rfl), by rw [ht]; exact hP, hD⟩, hS.F ht⟩) hS.2.2 dX2_stand_35
set_option maxHeartbeats 1000000 in
set_option maxRecDepth 100000 in
theorem cS_init (l : Launch) (D : va_G) (cI cL cQ : ClassId) (h0 : Nat) (sz : Nat) : Met l yX3_init wsX3_init ({ frames := 1, cells := 0, slots := 0, locals := 12 }) (jw_P D vwCl (jT cI cL cQ) cL cQ [.ref h0] [(h0, .inr (3, [.int 0, .long 0, .long 0, .long 0]))] sz) (va_Qv (fun u : va_W => u = [(h0, .inr (3, [.int 0, .long 0, .long 0, .long 0]))]) (jw_B D vwCl (va_A [(h0, .inr (3, [.int 0, .long 0, .long 0, .long 0]))] sz) (fun u : va_W => u)) (va_A [(h0, .inr (3, [.int 0, .long 0, .long 0, .long 0]))] sz)) 0 0 (va_A [(h0, .inr (3, [.int 0, .long 0, .long 0, .long 0]))] sz) := by
  refine Met.ofW (cc := cX3_init) (maxL := 1) (ret := none) (by decide) rfl ?_
  intro p e s m args below meth c s₁ B hml hv
  obtain ⟨rfl, hsz, hP, hK, hN, hD0⟩ := hv
  have hx := B.exec
  have hb := B.bytes
  have hr := B.returns
  have hts := atoms_spec (ws := wsX3_init) B.pre
  have hown : s.vm.findClass RX3 = some m.cls := findClass_of_methodNamed B.named
  have hlocks := B.notSynchronized
  have hin : meth.name = "<init>" := (name_of_methodNamed B.named B.method).1
  subst hsz
  have hD := hD0.self (sz := s.heap.size)
  generalize hAe : va_A [(h0, .inr (3, [.int 0, .long 0, .long 0, .long 0]))] s.heap.size = A at hD ⊢
  have hA : ∀ q : Nat, s.heap.size ≤ q → A q := fun q h => by rw [← hAe]; exact Or.inr h
  have hS : va_S A s.heap s.heap [] := va_S.rf
  have hl := lv_entry ([.ref h0]) (n := 1) (Nat.le_of_ble_eq_true rfl)
  rw [lg_entry_eq]
  generalize (lg_sl ([.ref h0]) ++ List.replicate (1 - (lg_sl ([.ref h0])).length) Slot.unset).toArray = ls at hl ⊢
  have hl : lv_has ls 1 [(0, .ref h0)] := hl
  refine lv_aload_n hx hb dX3_init_0 rfl (lv_at hl 0 rfl) ?_
  refine W.objInit hx hb hown (hts (.methodLink RX3 1 objectInit) (by decide +kernel)) (hts (.instanceMethod objectInit) (by decide +kernel)) (hts (.code objectInit ⟨#[0xb1]⟩ 1 none) (by decide +kernel)) rfl (by rw [hml]; exact hl.1) rfl dX3_init_1 (Nat.le_of_ble_eq_true rfl) (Nat.le_of_ble_eq_true rfl) ?_
  refine W.eq (g2 := F0 m 4 ls []) rfl ?_
  refine W.widen (k := 0) (n := 0) (by omega) (by omega) ?_
  exact W.vret hx hb hr (fun t ht hW => ⟨⟨[(h0, .inr (3, [.int 0, .long 0, .long 0, .long 0]))], rfl, (by exact rfl), by rw [ht]; exact hP, hD⟩, hS.F ht⟩) hS.2.2 dX3_init_4
set_option maxHeartbeats 1000000 in
set_option maxRecDepth 100000 in
theorem cC_kindInUse (l : Launch) (D : va_G) (cI cL cQ : ClassId) (h0 : Nat) (tl : Nat) (tr : Nat) (he : Nat) (ma : Nat) (hm : Int32) (kd : Int32) (cc0 : Int64) : Met l yX0_kindInUse wsX0_kindInUse ({ frames := 0, cells := 0, slots := 0, locals := 0 }) (jr_P D vwCl (jT cI cL cQ) cL cQ [.ref h0] [(h0, .inr (0, [.ref tl, .ref tr, .ref he, .ref ma, .int hm, .int kd, .long cc0]))]) (vp_Si (fun r : Int32 => r = kd)) 0 0 (fun _ => False) := by
  refine Met.ofW (cc := cX0_kindInUse) (maxL := 1) (ret := (some .int)) (by decide) rfl ?_
  intro p e s m args below meth c s₁ B hml hv
  obtain ⟨rfl, hP, hK, hN⟩ := hv
  have hx := B.exec
  have hb := B.bytes
  have hr := B.returns
  have hts := atoms_spec (ws := wsX0_kindInUse) B.pre
  have hown : s.vm.findClass RX0 = some m.cls := findClass_of_methodNamed B.named
  have hlocks := B.notSynchronized
  have hl := lv_entry ([.ref h0]) (n := 1) (Nat.le_of_ble_eq_true rfl)
  rw [lg_entry_eq]
  generalize (lg_sl ([.ref h0]) ++ List.replicate (1 - (lg_sl ([.ref h0])).length) Slot.unset).toArray = ls at hl ⊢
  have hl : lv_has ls 1 [(0, .ref h0)] := hl
  refine lv_aload_n hx hb dX0_kindInUse_0 rfl (lv_at hl 0 rfl) ?_
  refine va_get (D := D) (ci := 0) (v := .int kd) (C := RX0) (T := TX0) (N := 7) hx hb hts (by decide +kernel) hown hK hP 0 rfl rfl 5 (by decide) (hts (.fieldLink RX0 32 "JoinDesk$Cursor" "kind" "I") (by decide +kernel)) (fun _ h9 => h9) rfl dX0_kindInUse_1 ?_
  exact W.iret (v := kd) hx hb hr (fun t ht hW => ⟨kd, rfl, (by exact rfl), ht⟩) (fun _ h => nomatch h) dX0_kindInUse_4
set_option maxHeartbeats 1000000 in
set_option maxRecDepth 100000 in
theorem cC_cellsRead (l : Launch) (D : va_G) (cI cL cQ : ClassId) (h0 : Nat) (tl : Nat) (tr : Nat) (he : Nat) (ma : Nat) (hm : Int32) (kd : Int32) (cc0 : Int64) : Met l yX0_cellsRead wsX0_cellsRead ({ frames := 0, cells := 0, slots := 0, locals := 0 }) (jr_P D vwCl (jT cI cL cQ) cL cQ [.ref h0] [(h0, .inr (0, [.ref tl, .ref tr, .ref he, .ref ma, .int hm, .int kd, .long cc0]))]) (vp_Sl (fun r : Int64 => r = cc0)) 0 0 (fun _ => False) := by
  refine Met.ofW (cc := cX0_cellsRead) (maxL := 1) (ret := (some .long)) (by decide) rfl ?_
  intro p e s m args below meth c s₁ B hml hv
  obtain ⟨rfl, hP, hK, hN⟩ := hv
  have hx := B.exec
  have hb := B.bytes
  have hr := B.returns
  have hts := atoms_spec (ws := wsX0_cellsRead) B.pre
  have hown : s.vm.findClass RX0 = some m.cls := findClass_of_methodNamed B.named
  have hlocks := B.notSynchronized
  have hl := lv_entry ([.ref h0]) (n := 1) (Nat.le_of_ble_eq_true rfl)
  rw [lg_entry_eq]
  generalize (lg_sl ([.ref h0]) ++ List.replicate (1 - (lg_sl ([.ref h0])).length) Slot.unset).toArray = ls at hl ⊢
  have hl : lv_has ls 1 [(0, .ref h0)] := hl
  refine lv_aload_n hx hb dX0_cellsRead_0 rfl (lv_at hl 0 rfl) ?_
  refine va_get (D := D) (ci := 0) (v := .long cc0) (C := RX0) (T := TX0) (N := 7) hx hb hts (by decide +kernel) hown hK hP 0 rfl rfl 6 (by decide) (hts (.fieldLink RX0 36 "JoinDesk$Cursor" "cells" "J") (by decide +kernel)) (fun _ h9 => h9) rfl dX0_cellsRead_1 ?_
  exact W.lret (v := cc0) hx hb hr (fun t ht hW => ⟨cc0, rfl, (by exact rfl), ht⟩) (fun _ h => nomatch h) dX0_cellsRead_4
set_option maxHeartbeats 1000000 in
set_option maxRecDepth 100000 in
theorem cC_useKind (l : Launch) (D : va_G) (cI cL cQ : ClassId) (h0 : Nat) (tl : Nat) (tr : Nat) (he : Nat) (ma : Nat) (hm : Int32) (kd : Int32) (cc0 : Int64) (x : Int32) (sz : Nat) : Met l yX0_useKind wsX0_useKind ({ frames := 0, cells := 0, slots := 0, locals := 0 }) (jw_P D vwCl (jT cI cL cQ) cL cQ [.ref h0, .int x] [(h0, .inr (0, [.ref tl, .ref tr, .ref he, .ref ma, .int hm, .int kd, .long cc0]))] sz) (va_Qv (fun u : va_W => u = [(h0, .inr (0, [.ref tl, .ref tr, .ref he, .ref ma, .int hm, .int x, .long cc0]))]) (jw_B D vwCl (va_A [(h0, .inr (0, [.ref tl, .ref tr, .ref he, .ref ma, .int hm, .int kd, .long cc0]))] sz) (fun u : va_W => u)) (va_A [(h0, .inr (0, [.ref tl, .ref tr, .ref he, .ref ma, .int hm, .int kd, .long cc0]))] sz)) 0 0 (va_A [(h0, .inr (0, [.ref tl, .ref tr, .ref he, .ref ma, .int hm, .int kd, .long cc0]))] sz) := by
  refine Met.ofW (cc := cX0_useKind) (maxL := 2) (ret := none) (by decide) rfl ?_
  intro p e s m args below meth c s₁ B hml hv
  obtain ⟨rfl, hsz, hP, hK, hN, hD0⟩ := hv
  have hx := B.exec
  have hb := B.bytes
  have hr := B.returns
  have hts := atoms_spec (ws := wsX0_useKind) B.pre
  have hown : s.vm.findClass RX0 = some m.cls := findClass_of_methodNamed B.named
  have hlocks := B.notSynchronized
  subst hsz
  have hD := hD0.self (sz := s.heap.size)
  generalize hAe : va_A [(h0, .inr (0, [.ref tl, .ref tr, .ref he, .ref ma, .int hm, .int kd, .long cc0]))] s.heap.size = A at hD ⊢
  have hA : ∀ q : Nat, s.heap.size ≤ q → A q := fun q h => by rw [← hAe]; exact Or.inr h
  have hS : va_S A s.heap s.heap [] := va_S.rf
  have hl := lv_entry ([.ref h0, .int x]) (n := 2) (Nat.le_of_ble_eq_true rfl)
  rw [lg_entry_eq]
  generalize (lg_sl ([.ref h0, .int x]) ++ List.replicate (2 - (lg_sl ([.ref h0, .int x])).length) Slot.unset).toArray = ls at hl ⊢
  have hl : lv_has ls 2 [(0, .ref h0), (1, .int x)] := hl
  refine lv_aload_n hx hb dX0_useKind_0 rfl (lv_at hl 0 rfl) ?_
  refine lv_iload_n hx hb dX0_useKind_1 rfl (lv_at hl 1 rfl) ?_
  refine va_put (D := D) (ci := 0) (v := .int x) (ty := .int) (C := RX0) (T := TX0) (N := 7) hx hb hts (by decide +kernel) tyX0 tyX0_ok nmX0 hown hK hP hD hS 0 rfl rfl 5 (by decide) (hts (.fieldLink RX0 32 "JoinDesk$Cursor" "kind" "I") (by decide +kernel)) (fun _ h9 => h9) rfl (by decide +kernel) rfl rfl (Nat.le_of_ble_eq_true rfl) dX0_useKind_2 (fun H locs hP hD hS => ?_)
  have hP : va_P D vwCl [(h0, .inr (0, [.ref tl, .ref tr, .ref he, .ref ma, .int hm, .int x, .long cc0]))] H := hP
  have hD : va_D A [(h0, .inr (0, [.ref tl, .ref tr, .ref he, .ref ma, .int hm, .int x, .long cc0]))] := hD
  refine W.widen (k := 0) (n := 0) (by omega) (by omega) ?_
  exact W.vret hx hb hr (fun t ht hW => ⟨⟨[(h0, .inr (0, [.ref tl, .ref tr, .ref he, .ref ma, .int hm, .int x, .long cc0]))], rfl, (by exact rfl), by rw [ht]; exact hP, hD⟩, hS.F ht⟩) hS.2.2 dX0_useKind_5
set_option maxHeartbeats 1000000 in
set_option maxRecDepth 100000 in
theorem cC_forgetMark (l : Launch) (D : va_G) (cI cL cQ : ClassId) (h0 : Nat) (tl : Nat) (tr : Nat) (he : Nat) (ma : Nat) (hm : Int32) (kd : Int32) (cc0 : Int64) (sz : Nat) : Met l yX0_forgetMark wsX0_forgetMark ({ frames := 0, cells := 0, slots := 0, locals := 0 }) (jw_P D vwCl (jT cI cL cQ) cL cQ [.ref h0] [(h0, .inr (0, [.ref tl, .ref tr, .ref he, .ref ma, .int hm, .int kd, .long cc0]))] sz) (va_Qv (fun u : va_W => u = [(h0, .inr (0, [.ref tl, .ref tr, .ref he, .ref ma, .int 0, .int kd, .long cc0]))]) (jw_B D vwCl (va_A [(h0, .inr (0, [.ref tl, .ref tr, .ref he, .ref ma, .int hm, .int kd, .long cc0]))] sz) (fun u : va_W => u)) (va_A [(h0, .inr (0, [.ref tl, .ref tr, .ref he, .ref ma, .int hm, .int kd, .long cc0]))] sz)) 0 0 (va_A [(h0, .inr (0, [.ref tl, .ref tr, .ref he, .ref ma, .int hm, .int kd, .long cc0]))] sz) := by
  refine Met.ofW (cc := cX0_forgetMark) (maxL := 1) (ret := none) (by decide) rfl ?_
  intro p e s m args below meth c s₁ B hml hv
  obtain ⟨rfl, hsz, hP, hK, hN, hD0⟩ := hv
  have hx := B.exec
  have hb := B.bytes
  have hr := B.returns
  have hts := atoms_spec (ws := wsX0_forgetMark) B.pre
  have hown : s.vm.findClass RX0 = some m.cls := findClass_of_methodNamed B.named
  have hlocks := B.notSynchronized
  subst hsz
  have hD := hD0.self (sz := s.heap.size)
  generalize hAe : va_A [(h0, .inr (0, [.ref tl, .ref tr, .ref he, .ref ma, .int hm, .int kd, .long cc0]))] s.heap.size = A at hD ⊢
  have hA : ∀ q : Nat, s.heap.size ≤ q → A q := fun q h => by rw [← hAe]; exact Or.inr h
  have hS : va_S A s.heap s.heap [] := va_S.rf
  have hl := lv_entry ([.ref h0]) (n := 1) (Nat.le_of_ble_eq_true rfl)
  rw [lg_entry_eq]
  generalize (lg_sl ([.ref h0]) ++ List.replicate (1 - (lg_sl ([.ref h0])).length) Slot.unset).toArray = ls at hl ⊢
  have hl : lv_has ls 1 [(0, .ref h0)] := hl
  refine lv_aload_n hx hb dX0_forgetMark_0 rfl (lv_at hl 0 rfl) ?_
  refine lv_iconst (v := 0) hx hb dX0_forgetMark_1 (by decide) ?_
  refine va_put (D := D) (ci := 0) (v := .int 0) (ty := .boolean) (C := RX0) (T := TX0) (N := 7) hx hb hts (by decide +kernel) tyX0 tyX0_ok nmX0 hown hK hP hD hS 0 rfl rfl 4 (by decide) (hts (.fieldLink RX0 28 "JoinDesk$Cursor" "hasMark" "Z") (by decide +kernel)) (fun _ h9 => h9) rfl (by decide +kernel) rfl rfl (Nat.le_of_ble_eq_true rfl) dX0_forgetMark_2 (fun H locs hP hD hS => ?_)
  have hP : va_P D vwCl [(h0, .inr (0, [.ref tl, .ref tr, .ref he, .ref ma, .int 0, .int kd, .long cc0]))] H := hP
  have hD : va_D A [(h0, .inr (0, [.ref tl, .ref tr, .ref he, .ref ma, .int 0, .int kd, .long cc0]))] := hD
  refine W.widen (k := 0) (n := 0) (by omega) (by omega) ?_
  exact W.vret hx hb hr (fun t ht hW => ⟨⟨[(h0, .inr (0, [.ref tl, .ref tr, .ref he, .ref ma, .int 0, .int kd, .long cc0]))], rfl, (by exact rfl), by rw [ht]; exact hP, hD⟩, hS.F ht⟩) hS.2.2 dX0_forgetMark_5
set_option maxHeartbeats 1000000 in
set_option maxRecDepth 100000 in
theorem cC_restart (l : Launch) (D : va_G) (cI cL cQ : ClassId) (h0 : Nat) (tl : Nat) (tr : Nat) (he : Nat) (ma : Nat) (hm : Int32) (kd : Int32) (cc0 : Int64) (p0 : Int32) (p1 : Int32) (p2 : Int32) (p3 : Int32) (p4 : Int32) (p5 : Int32) (p6 : Int32) (sz : Nat) : Met l yX0_restart wsX0_restart ({ frames := 1, cells := 0, slots := 0, locals := 23 }) (jw_P D vwCl (jT cI cL cQ) cL cQ [.ref h0] [(h0, .inr (0, [.ref tl, .ref tr, .ref he, .ref ma, .int hm, .int kd, .long cc0])), (he, .inr (2, [.int p0, .int p1, .int p2, .int p3, .int p4, .int p5, .int p6]))] sz) (va_Qv (fun u : va_W => u = [(h0, .inr (0, [.ref tl, .ref tr, .ref he, .ref ma, .int hm, .int kd, .long 0])), (he, .inr (2, [.int 0, .int 0, .int 0, .int 0, .int (-1), .int (-1), .int 0]))]) (jw_B D vwCl (va_A [(h0, .inr (0, [.ref tl, .ref tr, .ref he, .ref ma, .int hm, .int kd, .long cc0])), (he, .inr (2, [.int p0, .int p1, .int p2, .int p3, .int p4, .int p5, .int p6]))] sz) (fun u : va_W => u)) (va_A [(h0, .inr (0, [.ref tl, .ref tr, .ref he, .ref ma, .int hm, .int kd, .long cc0])), (he, .inr (2, [.int p0, .int p1, .int p2, .int p3, .int p4, .int p5, .int p6]))] sz)) 0 0 (va_A [(h0, .inr (0, [.ref tl, .ref tr, .ref he, .ref ma, .int hm, .int kd, .long cc0])), (he, .inr (2, [.int p0, .int p1, .int p2, .int p3, .int p4, .int p5, .int p6]))] sz) := by
  refine Met.ofW (cc := cX0_restart) (maxL := 1) (ret := none) (by decide) rfl ?_
  intro p e s m args below meth c s₁ B hml hv
  obtain ⟨rfl, hsz, hP, hK, hN, hD0⟩ := hv
  have hx := B.exec
  have hb := B.bytes
  have hr := B.returns
  have hts := atoms_spec (ws := wsX0_restart) B.pre
  have hown : s.vm.findClass RX0 = some m.cls := findClass_of_methodNamed B.named
  have hlocks := B.notSynchronized
  subst hsz
  have hD := hD0.self (sz := s.heap.size)
  generalize hAe : va_A [(h0, .inr (0, [.ref tl, .ref tr, .ref he, .ref ma, .int hm, .int kd, .long cc0])), (he, .inr (2, [.int p0, .int p1, .int p2, .int p3, .int p4, .int p5, .int p6]))] s.heap.size = A at hD ⊢
  have hA : ∀ q : Nat, s.heap.size ≤ q → A q := fun q h => by rw [← hAe]; exact Or.inr h
  have hS : va_S A s.heap s.heap [] := va_S.rf
  have hl := lv_entry ([.ref h0]) (n := 1) (Nat.le_of_ble_eq_true rfl)
  rw [lg_entry_eq]
  generalize (lg_sl ([.ref h0]) ++ List.replicate (1 - (lg_sl ([.ref h0])).length) Slot.unset).toArray = ls at hl ⊢
  have hl : lv_has ls 1 [(0, .ref h0)] := hl
  refine lv_aload_n hx hb dX0_restart_0 rfl (lv_at hl 0 rfl) ?_
  refine va_get (D := D) (ci := 0) (v := .ref he) (C := RX0) (T := TX0) (N := 7) hx hb hts (by decide +kernel) hown hK hP 0 rfl rfl 2 (by decide) (hts (.fieldLink RX0 21 "JoinDesk$Cursor" "here" "LJoinDesk$Position;") (by decide +kernel)) (fun _ h9 => h9) rfl dX0_restart_1 ?_
  refine lv_iconst (v := 0) hx hb dX0_restart_4 (by decide) ?_
  refine lv_iconst (v := 0) hx hb dX0_restart_5 (by decide) ?_
  refine lv_iconst (v := 0) hx hb dX0_restart_6 (by decide) ?_
  refine jw_v (wr := [(h0, .inr (0, [.ref tl, .ref tr, .ref he, .ref ma, .int hm, .int kd, .long cc0]))]) (va_runV (As := [.int 0, .int 0, .int 0]) (rest := []) ⟨hx, hb, hml, hown, hts⟩ (cP_stand l D cI cL cQ he p0 p1 p2 p3 p4 p5 p6 0 0 0 _) (cwV 3 hts gX0_restart_X2_stand rfl rfl rfl (by decide +kernel) ⟨Nat.le_of_ble_eq_true rfl, Nat.le_of_ble_eq_true rfl⟩) (jw_V hK hN hP hD [1] (by decide) rfl 2 1 rfl rfl rfl) rfl rfl hl.1 rfl (lv_room (Nat.le_of_ble_eq_true rfl)) dX0_restart_7 ⟨Nat.le_of_ble_eq_true rfl, Nat.le_of_ble_eq_true rfl⟩) hP hD hS hA [1] [0] rfl rfl (by decide) (by decide) (fun u H locs f_1 hP hD hS => ?_)
  obtain rfl := f_1
  have hP : va_P D vwCl [(h0, .inr (0, [.ref tl, .ref tr, .ref he, .ref ma, .int hm, .int kd, .long cc0])), (he, .inr (2, [.int 0, .int 0, .int 0, .int 0, .int (-1), .int (-1), .int 0]))] H := hP
  have hD : va_D A [(h0, .inr (0, [.ref tl, .ref tr, .ref he, .ref ma, .int hm, .int kd, .long cc0])), (he, .inr (2, [.int 0, .int 0, .int 0, .int 0, .int (-1), .int (-1), .int 0]))] := hD
  refine lv_aload_n hx hb dX0_restart_10 rfl (lv_at hl 0 rfl) ?_
  refine lv_lconst (v := 0) hx hb dX0_restart_11 (by decide) ?_
  refine va_put (D := D) (ci := 0) (v := .long 0) (ty := .long) (C := RX0) (T := TX0) (N := 7) hx hb hts (by decide +kernel) tyX0 tyX0_ok nmX0 hown hK hP hD hS 0 rfl rfl 6 (by decide) (hts (.fieldLink RX0 36 "JoinDesk$Cursor" "cells" "J") (by decide +kernel)) (fun _ h9 => h9) rfl (by decide +kernel) rfl rfl (Nat.le_of_ble_eq_true rfl) dX0_restart_12 (fun H locs hP hD hS => ?_)
  have hP : va_P D vwCl [(h0, .inr (0, [.ref tl, .ref tr, .ref he, .ref ma, .int hm, .int kd, .long 0])), (he, .inr (2, [.int 0, .int 0, .int 0, .int 0, .int (-1), .int (-1), .int 0]))] H := hP
  have hD : va_D A [(h0, .inr (0, [.ref tl, .ref tr, .ref he, .ref ma, .int hm, .int kd, .long 0])), (he, .inr (2, [.int 0, .int 0, .int 0, .int 0, .int (-1), .int (-1), .int 0]))] := hD
  refine W.widen (k := 0) (n := 0) (by omega) (by omega) ?_
  exact W.vret hx hb hr (fun t ht hW => ⟨⟨[(h0, .inr (0, [.ref tl, .ref tr, .ref he, .ref ma, .int hm, .int kd, .long 0])), (he, .inr (2, [.int 0, .int 0, .int 0, .int 0, .int (-1), .int (-1), .int 0]))], rfl, (by exact rfl), by rw [ht]; exact hP, hD⟩, hS.F ht⟩) hS.2.2 dX0_restart_15
set_option maxHeartbeats 1000000 in
set_option maxRecDepth 100000 in
theorem cC_init (l : Launch) (D : va_G) (cI cL cQ : ClassId) (h0 : Nat) (tl : Nat) (tr : Nat) (sz : Nat) : Met l yX0_init wsX0_init ({ frames := 2, cells := 2, slots := 14, locals := 32 }) (jw_P D vwCl (jT cI cL cQ) cL cQ [.ref h0, .ref tl, .ref tr] [(h0, .inr (0, [.null, .null, .null, .null, .int 0, .int 0, .long 0]))] sz) (va_Qv (fun u : va_W => ∃ (he : Nat) (ma : Nat), u = [(h0, .inr (0, [.ref tl, .ref tr, .ref he, .ref ma, .int 0, .int 0, .long 0])), (he, .inr (2, [.int 0, .int 0, .int 0, .int 0, .int (-1), .int (-1), .int 0])), (ma, .inr (2, [.int 0, .int 0, .int 0, .int 0, .int (-1), .int (-1), .int 0]))]) (jw_B D vwCl (va_A [(h0, .inr (0, [.null, .null, .null, .null, .int 0, .int 0, .long 0]))] sz) (fun u : va_W => u)) (va_A [(h0, .inr (0, [.null, .null, .null, .null, .int 0, .int 0, .long 0]))] sz)) 2 14 (va_A [(h0, .inr (0, [.null, .null, .null, .null, .int 0, .int 0, .long 0]))] sz) := by
  refine Met.ofW (cc := cX0_init) (maxL := 3) (ret := none) (by decide) rfl ?_
  intro p e s m args below meth c s₁ B hml hv
  obtain ⟨rfl, hsz, hP, hK, hN, hD0⟩ := hv
  have hx := B.exec
  have hb := B.bytes
  have hr := B.returns
  have hts := atoms_spec (ws := wsX0_init) B.pre
  have hown : s.vm.findClass RX0 = some m.cls := findClass_of_methodNamed B.named
  have hlocks := B.notSynchronized
  have hin : meth.name = "<init>" := (name_of_methodNamed B.named B.method).1
  subst hsz
  have hD := hD0.self (sz := s.heap.size)
  generalize hAe : va_A [(h0, .inr (0, [.null, .null, .null, .null, .int 0, .int 0, .long 0]))] s.heap.size = A at hD ⊢
  have hA : ∀ q : Nat, s.heap.size ≤ q → A q := fun q h => by rw [← hAe]; exact Or.inr h
  have hS : va_S A s.heap s.heap [] := va_S.rf
  have hl := lv_entry ([.ref h0, .ref tl, .ref tr]) (n := 3) (Nat.le_of_ble_eq_true rfl)
  rw [lg_entry_eq]
  generalize (lg_sl ([.ref h0, .ref tl, .ref tr]) ++ List.replicate (3 - (lg_sl ([.ref h0, .ref tl, .ref tr])).length) Slot.unset).toArray = ls at hl ⊢
  have hl : lv_has ls 3 [(0, .ref h0), (1, .ref tl), (2, .ref tr)] := hl
  refine lv_aload_n hx hb dX0_init_0 rfl (lv_at hl 0 rfl) ?_
  refine W.objInit hx hb hown (hts (.methodLink RX0 3 objectInit) (by decide +kernel)) (hts (.instanceMethod objectInit) (by decide +kernel)) (hts (.code objectInit ⟨#[0xb1]⟩ 1 none) (by decide +kernel)) rfl (by rw [hml]; exact hl.1) rfl dX0_init_1 (Nat.le_of_ble_eq_true rfl) (Nat.le_of_ble_eq_true rfl) ?_
  refine W.eq (g2 := F0 m 4 ls []) rfl ?_
  refine lv_aload_n hx hb dX0_init_4 rfl (lv_at hl 0 rfl) ?_
  refine lv_aload_n hx hb dX0_init_5 rfl (lv_at hl 1 rfl) ?_
  refine va_putF (D := D) (ci := 0) (v := .ref tl) (ty := .object "JoinDesk$Table") (C := RX0) (T := TX0) (N := 7) hx hb hts (by decide +kernel) tyX0 tyX0_ok nmX0 hown hK hP hD hS 0 rfl rfl 0 (by decide) (hts (.fieldLink RX0 9 "JoinDesk$Cursor" "left" "LJoinDesk$Table;") (by decide +kernel)) (fun _ h9 => h9) rfl hin rfl (by decide +kernel) rfl rfl (Nat.le_of_ble_eq_true rfl) dX0_init_6 (fun H locs hP hD hS => ?_)
  have hP : va_P D vwCl [(h0, .inr (0, [.ref tl, .null, .null, .null, .int 0, .int 0, .long 0]))] H := hP
  have hD : va_D A [(h0, .inr (0, [.ref tl, .null, .null, .null, .int 0, .int 0, .long 0]))] := hD
  refine lv_aload_n hx hb dX0_init_9 rfl (lv_at hl 0 rfl) ?_
  refine lv_aload_n hx hb dX0_init_10 rfl (lv_at hl 2 rfl) ?_
  refine va_putF (D := D) (ci := 0) (v := .ref tr) (ty := .object "JoinDesk$Table") (C := RX0) (T := TX0) (N := 7) hx hb hts (by decide +kernel) tyX0 tyX0_ok nmX0 hown hK hP hD hS 0 rfl rfl 1 (by decide) (hts (.fieldLink RX0 15 "JoinDesk$Cursor" "right" "LJoinDesk$Table;") (by decide +kernel)) (fun _ h9 => h9) rfl hin rfl (by decide +kernel) rfl rfl (Nat.le_of_ble_eq_true rfl) dX0_init_11 (fun H locs hP hD hS => ?_)
  have hP : va_P D vwCl [(h0, .inr (0, [.ref tl, .ref tr, .null, .null, .int 0, .int 0, .long 0]))] H := hP
  have hD : va_D A [(h0, .inr (0, [.ref tl, .ref tr, .null, .null, .int 0, .int 0, .long 0]))] := hD
  refine lv_aload_n hx hb dX0_init_14 rfl (lv_at hl 0 rfl) ?_
  refine va_new (ci := 2) (fs := [.int 0, .int 0, .int 0, .int 0, .int 0, .int 0, .int 0]) (C := RX2) (T := TX2) (N := 7) hx hb hts (by decide +kernel) tyX2 tyX2_ok hown (hts (.classLink RX0 18 RX2) (by decide +kernel)) (hts (.instantiable RX2 7) (by decide +kernel)) (hts (.initialized RX2) (by decide +kernel)) hK hP hD hS hA rfl (fun j hj => by rcases (show j = 0 ∨ j = 1 ∨ j = 2 ∨ j = 3 ∨ j = 4 ∨ j = 5 ∨ j = 6 by omega) with rfl | rfl | rfl | rfl | rfl | rfl | rfl <;> rfl) (Nat.le_of_ble_eq_true rfl) (Nat.le_of_ble_eq_true rfl) dX0_init_15 (fun he H hP hD hS => ?_)
  have hP : va_P D vwCl [(h0, .inr (0, [.ref tl, .ref tr, .null, .null, .int 0, .int 0, .long 0])), (he, .inr (2, [.int 0, .int 0, .int 0, .int 0, .int 0, .int 0, .int 0]))] H := hP
  have hD : va_D A [(h0, .inr (0, [.ref tl, .ref tr, .null, .null, .int 0, .int 0, .long 0])), (he, .inr (2, [.int 0, .int 0, .int 0, .int 0, .int 0, .int 0, .int 0]))] := hD
  refine W.widen (k := 1) (n := 7) (by omega) (by omega) ?_
  refine lv_dup hx hb dX0_init_18 rfl ?_
  refine jw_v (wr := [(h0, .inr (0, [.ref tl, .ref tr, .null, .null, .int 0, .int 0, .long 0]))]) (va_runI (As := []) (rest := [.ref he, .ref h0]) ⟨hx, hb, hml, hown, hts⟩ (cP_init l D cI cL cQ he _) (cwI 0 hts gX0_init_X2_init rfl rfl rfl (hts (.initialized RX2) (by decide +kernel)) (hts (.methodLink RX0 20 yX2_init) (by decide +kernel)) (hts (.instanceMethod yX2_init) (by decide +kernel)) rfl (by decide +kernel) ⟨Nat.le_of_ble_eq_true rfl, Nat.le_of_ble_eq_true rfl⟩) (jw_S hK hN hP hD [1] (by decide) rfl) rfl rfl hl.1 rfl (lv_room (Nat.le_of_ble_eq_true rfl)) dX0_init_19 ⟨Nat.le_of_ble_eq_true rfl, Nat.le_of_ble_eq_true rfl⟩) hP hD hS hA [1] [0] rfl rfl (by decide) (by decide) (fun u H locs f_1 hP hD hS => ?_)
  obtain rfl := f_1
  have hP : va_P D vwCl [(h0, .inr (0, [.ref tl, .ref tr, .null, .null, .int 0, .int 0, .long 0])), (he, .inr (2, [.int 0, .int 0, .int 0, .int 0, .int (-1), .int (-1), .int 0]))] H := hP
  have hD : va_D A [(h0, .inr (0, [.ref tl, .ref tr, .null, .null, .int 0, .int 0, .long 0])), (he, .inr (2, [.int 0, .int 0, .int 0, .int 0, .int (-1), .int (-1), .int 0]))] := hD
  refine va_putF (D := D) (ci := 0) (v := .ref he) (ty := .object "JoinDesk$Position") (C := RX0) (T := TX0) (N := 7) hx hb hts (by decide +kernel) tyX0 tyX0_ok nmX0 hown hK hP hD hS 0 rfl rfl 2 (by decide) (hts (.fieldLink RX0 21 "JoinDesk$Cursor" "here" "LJoinDesk$Position;") (by decide +kernel)) (fun _ h9 => h9) rfl hin rfl (by decide +kernel) rfl rfl (Nat.le_of_ble_eq_true rfl) dX0_init_22 (fun H locs hP hD hS => ?_)
  have hP : va_P D vwCl [(h0, .inr (0, [.ref tl, .ref tr, .ref he, .null, .int 0, .int 0, .long 0])), (he, .inr (2, [.int 0, .int 0, .int 0, .int 0, .int (-1), .int (-1), .int 0]))] H := hP
  have hD : va_D A [(h0, .inr (0, [.ref tl, .ref tr, .ref he, .null, .int 0, .int 0, .long 0])), (he, .inr (2, [.int 0, .int 0, .int 0, .int 0, .int (-1), .int (-1), .int 0]))] := hD
  refine lv_aload_n hx hb dX0_init_25 rfl (lv_at hl 0 rfl) ?_
  refine va_new (ci := 2) (fs := [.int 0, .int 0, .int 0, .int 0, .int 0, .int 0, .int 0]) (C := RX2) (T := TX2) (N := 7) hx hb hts (by decide +kernel) tyX2 tyX2_ok hown (hts (.classLink RX0 18 RX2) (by decide +kernel)) (hts (.instantiable RX2 7) (by decide +kernel)) (hts (.initialized RX2) (by decide +kernel)) hK hP hD hS hA rfl (fun j hj => by rcases (show j = 0 ∨ j = 1 ∨ j = 2 ∨ j = 3 ∨ j = 4 ∨ j = 5 ∨ j = 6 by omega) with rfl | rfl | rfl | rfl | rfl | rfl | rfl <;> rfl) (Nat.le_of_ble_eq_true rfl) (Nat.le_of_ble_eq_true rfl) dX0_init_26 (fun q_2 H hP hD hS => ?_)
  have hP : va_P D vwCl [(h0, .inr (0, [.ref tl, .ref tr, .ref he, .null, .int 0, .int 0, .long 0])), (he, .inr (2, [.int 0, .int 0, .int 0, .int 0, .int (-1), .int (-1), .int 0])), (q_2, .inr (2, [.int 0, .int 0, .int 0, .int 0, .int 0, .int 0, .int 0]))] H := hP
  have hD : va_D A [(h0, .inr (0, [.ref tl, .ref tr, .ref he, .null, .int 0, .int 0, .long 0])), (he, .inr (2, [.int 0, .int 0, .int 0, .int 0, .int (-1), .int (-1), .int 0])), (q_2, .inr (2, [.int 0, .int 0, .int 0, .int 0, .int 0, .int 0, .int 0]))] := hD
  refine W.widen (k := 2) (n := 14) (by omega) (by omega) ?_
  refine lv_dup hx hb dX0_init_29 rfl ?_
  refine jw_v (wr := [(h0, .inr (0, [.ref tl, .ref tr, .ref he, .null, .int 0, .int 0, .long 0])), (he, .inr (2, [.int 0, .int 0, .int 0, .int 0, .int (-1), .int (-1), .int 0]))]) (va_runI (As := []) (rest := [.ref q_2, .ref h0]) ⟨hx, hb, hml, hown, hts⟩ (cP_init l D cI cL cQ q_2 _) (cwI 0 hts gX0_init_X2_init rfl rfl rfl (hts (.initialized RX2) (by decide +kernel)) (hts (.methodLink RX0 20 yX2_init) (by decide +kernel)) (hts (.instanceMethod yX2_init) (by decide +kernel)) rfl (by decide +kernel) ⟨Nat.le_of_ble_eq_true rfl, Nat.le_of_ble_eq_true rfl⟩) (jw_S hK hN hP hD [2] (by decide) rfl) rfl rfl hl.1 rfl (lv_room (Nat.le_of_ble_eq_true rfl)) dX0_init_30 ⟨Nat.le_of_ble_eq_true rfl, Nat.le_of_ble_eq_true rfl⟩) hP hD hS hA [2] [0, 1] rfl rfl (by decide) (by decide) (fun u H locs f_3 hP hD hS => ?_)
  obtain rfl := f_3
  have hP : va_P D vwCl [(h0, .inr (0, [.ref tl, .ref tr, .ref he, .null, .int 0, .int 0, .long 0])), (he, .inr (2, [.int 0, .int 0, .int 0, .int 0, .int (-1), .int (-1), .int 0])), (q_2, .inr (2, [.int 0, .int 0, .int 0, .int 0, .int (-1), .int (-1), .int 0]))] H := hP
  have hD : va_D A [(h0, .inr (0, [.ref tl, .ref tr, .ref he, .null, .int 0, .int 0, .long 0])), (he, .inr (2, [.int 0, .int 0, .int 0, .int 0, .int (-1), .int (-1), .int 0])), (q_2, .inr (2, [.int 0, .int 0, .int 0, .int 0, .int (-1), .int (-1), .int 0]))] := hD
  refine va_putF (D := D) (ci := 0) (v := .ref q_2) (ty := .object "JoinDesk$Position") (C := RX0) (T := TX0) (N := 7) hx hb hts (by decide +kernel) tyX0 tyX0_ok nmX0 hown hK hP hD hS 0 rfl rfl 3 (by decide) (hts (.fieldLink RX0 25 "JoinDesk$Cursor" "marked" "LJoinDesk$Position;") (by decide +kernel)) (fun _ h9 => h9) rfl hin rfl (by decide +kernel) rfl rfl (Nat.le_of_ble_eq_true rfl) dX0_init_33 (fun H locs hP hD hS => ?_)
  have hP : va_P D vwCl [(h0, .inr (0, [.ref tl, .ref tr, .ref he, .ref q_2, .int 0, .int 0, .long 0])), (he, .inr (2, [.int 0, .int 0, .int 0, .int 0, .int (-1), .int (-1), .int 0])), (q_2, .inr (2, [.int 0, .int 0, .int 0, .int 0, .int (-1), .int (-1), .int 0]))] H := hP
  have hD : va_D A [(h0, .inr (0, [.ref tl, .ref tr, .ref he, .ref q_2, .int 0, .int 0, .long 0])), (he, .inr (2, [.int 0, .int 0, .int 0, .int 0, .int (-1), .int (-1), .int 0])), (q_2, .inr (2, [.int 0, .int 0, .int 0, .int 0, .int (-1), .int (-1), .int 0]))] := hD
  refine lv_aload_n hx hb dX0_init_36 rfl (lv_at hl 0 rfl) ?_
  refine lv_iconst (v := 0) hx hb dX0_init_37 (by decide) ?_
  refine va_put (D := D) (ci := 0) (v := .int 0) (ty := .boolean) (C := RX0) (T := TX0) (N := 7) hx hb hts (by decide +kernel) tyX0 tyX0_ok nmX0 hown hK hP hD hS 0 rfl rfl 4 (by decide) (hts (.fieldLink RX0 28 "JoinDesk$Cursor" "hasMark" "Z") (by decide +kernel)) (fun _ h9 => h9) rfl (by decide +kernel) rfl rfl (Nat.le_of_ble_eq_true rfl) dX0_init_38 (fun H locs hP hD hS => ?_)
  have hP : va_P D vwCl [(h0, .inr (0, [.ref tl, .ref tr, .ref he, .ref q_2, .int 0, .int 0, .long 0])), (he, .inr (2, [.int 0, .int 0, .int 0, .int 0, .int (-1), .int (-1), .int 0])), (q_2, .inr (2, [.int 0, .int 0, .int 0, .int 0, .int (-1), .int (-1), .int 0]))] H := hP
  have hD : va_D A [(h0, .inr (0, [.ref tl, .ref tr, .ref he, .ref q_2, .int 0, .int 0, .long 0])), (he, .inr (2, [.int 0, .int 0, .int 0, .int 0, .int (-1), .int (-1), .int 0])), (q_2, .inr (2, [.int 0, .int 0, .int 0, .int 0, .int (-1), .int (-1), .int 0]))] := hD
  refine lv_aload_n hx hb dX0_init_41 rfl (lv_at hl 0 rfl) ?_
  refine lv_iconst (v := 0) hx hb dX0_init_42 (by decide) ?_
  refine va_put (D := D) (ci := 0) (v := .int 0) (ty := .int) (C := RX0) (T := TX0) (N := 7) hx hb hts (by decide +kernel) tyX0 tyX0_ok nmX0 hown hK hP hD hS 0 rfl rfl 5 (by decide) (hts (.fieldLink RX0 32 "JoinDesk$Cursor" "kind" "I") (by decide +kernel)) (fun _ h9 => h9) rfl (by decide +kernel) rfl rfl (Nat.le_of_ble_eq_true rfl) dX0_init_43 (fun H locs hP hD hS => ?_)
  have hP : va_P D vwCl [(h0, .inr (0, [.ref tl, .ref tr, .ref he, .ref q_2, .int 0, .int 0, .long 0])), (he, .inr (2, [.int 0, .int 0, .int 0, .int 0, .int (-1), .int (-1), .int 0])), (q_2, .inr (2, [.int 0, .int 0, .int 0, .int 0, .int (-1), .int (-1), .int 0]))] H := hP
  have hD : va_D A [(h0, .inr (0, [.ref tl, .ref tr, .ref he, .ref q_2, .int 0, .int 0, .long 0])), (he, .inr (2, [.int 0, .int 0, .int 0, .int 0, .int (-1), .int (-1), .int 0])), (q_2, .inr (2, [.int 0, .int 0, .int 0, .int 0, .int (-1), .int (-1), .int 0]))] := hD
  refine lv_aload_n hx hb dX0_init_46 rfl (lv_at hl 0 rfl) ?_
  refine lv_lconst (v := 0) hx hb dX0_init_47 (by decide) ?_
  refine va_put (D := D) (ci := 0) (v := .long 0) (ty := .long) (C := RX0) (T := TX0) (N := 7) hx hb hts (by decide +kernel) tyX0 tyX0_ok nmX0 hown hK hP hD hS 0 rfl rfl 6 (by decide) (hts (.fieldLink RX0 36 "JoinDesk$Cursor" "cells" "J") (by decide +kernel)) (fun _ h9 => h9) rfl (by decide +kernel) rfl rfl (Nat.le_of_ble_eq_true rfl) dX0_init_48 (fun H locs hP hD hS => ?_)
  have hP : va_P D vwCl [(h0, .inr (0, [.ref tl, .ref tr, .ref he, .ref q_2, .int 0, .int 0, .long 0])), (he, .inr (2, [.int 0, .int 0, .int 0, .int 0, .int (-1), .int (-1), .int 0])), (q_2, .inr (2, [.int 0, .int 0, .int 0, .int 0, .int (-1), .int (-1), .int 0]))] H := hP
  have hD : va_D A [(h0, .inr (0, [.ref tl, .ref tr, .ref he, .ref q_2, .int 0, .int 0, .long 0])), (he, .inr (2, [.int 0, .int 0, .int 0, .int 0, .int (-1), .int (-1), .int 0])), (q_2, .inr (2, [.int 0, .int 0, .int 0, .int 0, .int (-1), .int (-1), .int 0]))] := hD
  refine W.widen (k := 2) (n := 14) (by omega) (by omega) ?_
  exact W.vret hx hb hr (fun t ht hW => ⟨⟨[(h0, .inr (0, [.ref tl, .ref tr, .ref he, .ref q_2, .int 0, .int 0, .long 0])), (he, .inr (2, [.int 0, .int 0, .int 0, .int 0, .int (-1), .int (-1), .int 0])), (q_2, .inr (2, [.int 0, .int 0, .int 0, .int 0, .int (-1), .int (-1), .int 0]))], rfl, (by exact ⟨_, _, rfl⟩), by rw [ht]; exact hP, hD⟩, hS.F ht⟩) hS.2.2 dX0_init_51
set_option maxHeartbeats 1000000 in
set_option maxRecDepth 100000 in
theorem cB_forget (l : Launch) (D : va_G) (cI cL cQ : ClassId) (h0 : Nat) (gr : Int32) (fa : Nat) (s1 : Nat) (s2 : Nat) (gn : Int32) (gt : Int32) (sz : Nat) : Met l yX1_forget wsX1_forget ({ frames := 0, cells := 0, slots := 0, locals := 0 }) (jw_P D vwCl (jT cI cL cQ) cL cQ [.ref h0] [(h0, .inr (1, [.int gr, .ref fa, .ref s1, .ref s2, .int gn, .int gt]))] sz) (va_Qv (fun u : va_W => u = [(h0, .inr (1, [.int gr, .ref fa, .ref s1, .ref s2, .int 0, .int 0]))]) (jw_B D vwCl (va_A [(h0, .inr (1, [.int gr, .ref fa, .ref s1, .ref s2, .int gn, .int gt]))] sz) (fun u : va_W => u)) (va_A [(h0, .inr (1, [.int gr, .ref fa, .ref s1, .ref s2, .int gn, .int gt]))] sz)) 0 0 (va_A [(h0, .inr (1, [.int gr, .ref fa, .ref s1, .ref s2, .int gn, .int gt]))] sz) := by
  refine Met.ofW (cc := cX1_forget) (maxL := 1) (ret := none) (by decide) rfl ?_
  intro p e s m args below meth c s₁ B hml hv
  obtain ⟨rfl, hsz, hP, hK, hN, hD0⟩ := hv
  have hx := B.exec
  have hb := B.bytes
  have hr := B.returns
  have hts := atoms_spec (ws := wsX1_forget) B.pre
  have hown : s.vm.findClass RX1 = some m.cls := findClass_of_methodNamed B.named
  have hlocks := B.notSynchronized
  subst hsz
  have hD := hD0.self (sz := s.heap.size)
  generalize hAe : va_A [(h0, .inr (1, [.int gr, .ref fa, .ref s1, .ref s2, .int gn, .int gt]))] s.heap.size = A at hD ⊢
  have hA : ∀ q : Nat, s.heap.size ≤ q → A q := fun q h => by rw [← hAe]; exact Or.inr h
  have hS : va_S A s.heap s.heap [] := va_S.rf
  have hl := lv_entry ([.ref h0]) (n := 1) (Nat.le_of_ble_eq_true rfl)
  rw [lg_entry_eq]
  generalize (lg_sl ([.ref h0]) ++ List.replicate (1 - (lg_sl ([.ref h0])).length) Slot.unset).toArray = ls at hl ⊢
  have hl : lv_has ls 1 [(0, .ref h0)] := hl
  refine lv_aload_n hx hb dX1_forget_0 rfl (lv_at hl 0 rfl) ?_
  refine lv_iconst (v := 0) hx hb dX1_forget_1 (by decide) ?_
  refine va_put (D := D) (ci := 1) (v := .int 0) (ty := .int) (C := RX1) (T := TX1) (N := 6) hx hb hts (by decide +kernel) tyX1 tyX1_ok nmX1 hown hK hP hD hS 0 rfl rfl 4 (by decide) (hts (.fieldLink RX1 30 "JoinDesk$GroupBook" "size" "I") (by decide +kernel)) (fun _ h9 => h9) rfl (by decide +kernel) rfl rfl (Nat.le_of_ble_eq_true rfl) dX1_forget_2 (fun H locs hP hD hS => ?_)
  have hP : va_P D vwCl [(h0, .inr (1, [.int gr, .ref fa, .ref s1, .ref s2, .int 0, .int gt]))] H := hP
  have hD : va_D A [(h0, .inr (1, [.int gr, .ref fa, .ref s1, .ref s2, .int 0, .int gt]))] := hD
  refine lv_aload_n hx hb dX1_forget_5 rfl (lv_at hl 0 rfl) ?_
  refine lv_iconst (v := 0) hx hb dX1_forget_6 (by decide) ?_
  refine va_put (D := D) (ci := 1) (v := .int 0) (ty := .boolean) (C := RX1) (T := TX1) (N := 6) hx hb hts (by decide +kernel) tyX1 tyX1_ok nmX1 hown hK hP hD hS 0 rfl rfl 5 (by decide) (hts (.fieldLink RX1 33 "JoinDesk$GroupBook" "told" "Z") (by decide +kernel)) (fun _ h9 => h9) rfl (by decide +kernel) rfl rfl (Nat.le_of_ble_eq_true rfl) dX1_forget_7 (fun H locs hP hD hS => ?_)
  have hP : va_P D vwCl [(h0, .inr (1, [.int gr, .ref fa, .ref s1, .ref s2, .int 0, .int 0]))] H := hP
  have hD : va_D A [(h0, .inr (1, [.int gr, .ref fa, .ref s1, .ref s2, .int 0, .int 0]))] := hD
  refine W.widen (k := 0) (n := 0) (by omega) (by omega) ?_
  exact W.vret hx hb hr (fun t ht hW => ⟨⟨[(h0, .inr (1, [.int gr, .ref fa, .ref s1, .ref s2, .int 0, .int 0]))], rfl, (by exact rfl), by rw [ht]; exact hP, hD⟩, hS.F ht⟩) hS.2.2 dX1_forget_10
set_option maxHeartbeats 1000000 in
set_option maxRecDepth 100000 in
theorem cB_init (l : Launch) (D : va_G) (cI cL cQ : ClassId) (h0 : Nat) (g : Nat) (sz : Nat) (hg : g ≤ 400) : Met l yX1_init wsX1_init ({ frames := 2, cells := 8, slots := 2013, locals := 32 }) (jw_P D vwCl (jT cI cL cQ) cL cQ [.ref h0, .int (nI g)] [(h0, .inr (1, [.int 0, .null, .null, .null, .int 0, .int 0]))] sz) (va_Qv (fun u : va_W => ∃ (fa : Nat) (s1 : Nat) (s2 : Nat), u = [(h0, .inr (1, [.int (nI g), .ref fa, .ref s1, .ref s2, .int 0, .int 0])), (fa, .inl (cQ, 5, .inr (.inr (.inr (.inr (fun j => if j < 5 then some (fa + 1 + j) else none)))))), (fa + 1, .inl (cL, g, .inr (.inl (fun _ => 0)))), (fa + 2, .inl (cL, g, .inr (.inl (fun _ => 0)))), (fa + 3, .inl (cL, g, .inr (.inl (fun _ => 0)))), (fa + 4, .inl (cL, g, .inr (.inl (fun _ => 0)))), (fa + 5, .inl (cL, g, .inr (.inl (fun _ => 0)))), (s1, .inr (3, [.int 0, .long 0, .long 0, .long 0])), (s2, .inr (3, [.int 0, .long 0, .long 0, .long 0]))]) (jw_B D vwCl (va_A [(h0, .inr (1, [.int 0, .null, .null, .null, .int 0, .int 0]))] sz) (fun u : va_W => u)) (va_A [(h0, .inr (1, [.int 0, .null, .null, .null, .int 0, .int 0]))] sz)) 8 2013 (va_A [(h0, .inr (1, [.int 0, .null, .null, .null, .int 0, .int 0]))] sz) := by
  refine Met.ofW (cc := cX1_init) (maxL := 2) (ret := none) (by decide) rfl ?_
  intro p e s m args below meth c s₁ B hml hv
  obtain ⟨rfl, hsz, hP, hK, hN, hD0⟩ := hv
  have hx := B.exec
  have hb := B.bytes
  have hr := B.returns
  have hts := atoms_spec (ws := wsX1_init) B.pre
  have hown : s.vm.findClass RX1 = some m.cls := findClass_of_methodNamed B.named
  have hlocks := B.notSynchronized
  have hin : meth.name = "<init>" := (name_of_methodNamed B.named B.method).1
  subst hsz
  have hD := hD0.self (sz := s.heap.size)
  generalize hAe : va_A [(h0, .inr (1, [.int 0, .null, .null, .null, .int 0, .int 0]))] s.heap.size = A at hD ⊢
  have hA : ∀ q : Nat, s.heap.size ≤ q → A q := fun q h => by rw [← hAe]; exact Or.inr h
  have hS : va_S A s.heap s.heap [] := va_S.rf
  have hl := lv_entry ([.ref h0, .int (nI g)]) (n := 2) (Nat.le_of_ble_eq_true rfl)
  rw [lg_entry_eq]
  generalize (lg_sl ([.ref h0, .int (nI g)]) ++ List.replicate (2 - (lg_sl ([.ref h0, .int (nI g)])).length) Slot.unset).toArray = ls at hl ⊢
  have hl : lv_has ls 2 [(0, .ref h0), (1, .int (nI g))] := hl
  refine lv_aload_n hx hb dX1_init_0 rfl (lv_at hl 0 rfl) ?_
  refine W.objInit hx hb hown (hts (.methodLink RX1 3 objectInit) (by decide +kernel)) (hts (.instanceMethod objectInit) (by decide +kernel)) (hts (.code objectInit ⟨#[0xb1]⟩ 1 none) (by decide +kernel)) rfl (by rw [hml]; exact hl.1) rfl dX1_init_1 (Nat.le_of_ble_eq_true rfl) (Nat.le_of_ble_eq_true rfl) ?_
  refine W.eq (g2 := F0 m 4 ls []) rfl ?_
  refine lv_aload_n hx hb dX1_init_4 rfl (lv_at hl 0 rfl) ?_
  refine lv_iload_n hx hb dX1_init_5 rfl (lv_at hl 1 rfl) ?_
  refine va_putF (D := D) (ci := 1) (v := .int (nI g)) (ty := .int) (C := RX1) (T := TX1) (N := 6) hx hb hts (by decide +kernel) tyX1 tyX1_ok nmX1 hown hK hP hD hS 0 rfl rfl 0 (by decide) (hts (.fieldLink RX1 9 "JoinDesk$GroupBook" "room" "I") (by decide +kernel)) (fun _ h9 => h9) rfl hin rfl (by decide +kernel) rfl rfl (Nat.le_of_ble_eq_true rfl) dX1_init_6 (fun H locs hP hD hS => ?_)
  have hP : va_P D vwCl [(h0, .inr (1, [.int (nI g), .null, .null, .null, .int 0, .int 0]))] H := hP
  have hD : va_D A [(h0, .inr (1, [.int (nI g), .null, .null, .null, .int 0, .int 0]))] := hD
  refine lv_aload_n hx hb dX1_init_9 rfl (lv_at hl 0 rfl) ?_
  refine lv_iconst (v := 5) hx hb dX1_init_10 (by decide) ?_
  refine lv_iload_n hx hb dX1_init_11 rfl (lv_at hl 1 rfl) ?_
  refine jm_new hx hb hown (hts (.classLink RX1 15 "[[J") (by decide +kernel)) hN.2.2 (hts (.arrayClass .long) (by decide +kernel)) hK 1 2 rfl rfl hP hD hS hA (K := g) (nI_pos (by omega)) (nI_clamp (by omega)) (by omega) (Nat.le_of_ble_eq_true rfl) (Nat.le_trans (Nat.add_le_add_left (show 5 + 5 * g ≤ 2005 by omega) _) (Nat.le_of_ble_eq_true rfl)) dX1_init_12 (fun fa H hP hD hS => ?_)
  have hP : va_P D vwCl [(h0, .inr (1, [.int (nI g), .null, .null, .null, .int 0, .int 0])), (fa, .inl (cQ, 5, .inr (.inr (.inr (.inr (fun j => if j < 5 then some (fa + 1 + j) else none)))))), (fa + 1, .inl (cL, g, .inr (.inl (fun _ => 0)))), (fa + 2, .inl (cL, g, .inr (.inl (fun _ => 0)))), (fa + 3, .inl (cL, g, .inr (.inl (fun _ => 0)))), (fa + 4, .inl (cL, g, .inr (.inl (fun _ => 0)))), (fa + 5, .inl (cL, g, .inr (.inl (fun _ => 0))))] H := hP
  have hD : va_D A [(h0, .inr (1, [.int (nI g), .null, .null, .null, .int 0, .int 0])), (fa, .inl (cQ, 5, .inr (.inr (.inr (.inr (fun j => if j < 5 then some (fa + 1 + j) else none)))))), (fa + 1, .inl (cL, g, .inr (.inl (fun _ => 0)))), (fa + 2, .inl (cL, g, .inr (.inl (fun _ => 0)))), (fa + 3, .inl (cL, g, .inr (.inl (fun _ => 0)))), (fa + 4, .inl (cL, g, .inr (.inl (fun _ => 0)))), (fa + 5, .inl (cL, g, .inr (.inl (fun _ => 0))))] := hD
  refine W.widen (k := 6) (n := 2005) (by omega) (by omega) ?_
  refine va_putF (D := D) (ci := 1) (v := .ref fa) (ty := .array (.array .long)) (C := RX1) (T := TX1) (N := 6) hx hb hts (by decide +kernel) tyX1 tyX1_ok nmX1 hown hK hP hD hS 0 rfl rfl 1 (by decide) (hts (.fieldLink RX1 17 "JoinDesk$GroupBook" "facts" "[[J") (by decide +kernel)) (fun _ h9 => h9) rfl hin rfl (by decide +kernel) rfl rfl (Nat.le_of_ble_eq_true rfl) dX1_init_16 (fun H locs hP hD hS => ?_)
  have hP : va_P D vwCl [(h0, .inr (1, [.int (nI g), .ref fa, .null, .null, .int 0, .int 0])), (fa, .inl (cQ, 5, .inr (.inr (.inr (.inr (fun j => if j < 5 then some (fa + 1 + j) else none)))))), (fa + 1, .inl (cL, g, .inr (.inl (fun _ => 0)))), (fa + 2, .inl (cL, g, .inr (.inl (fun _ => 0)))), (fa + 3, .inl (cL, g, .inr (.inl (fun _ => 0)))), (fa + 4, .inl (cL, g, .inr (.inl (fun _ => 0)))), (fa + 5, .inl (cL, g, .inr (.inl (fun _ => 0))))] H := hP
  have hD : va_D A [(h0, .inr (1, [.int (nI g), .ref fa, .null, .null, .int 0, .int 0])), (fa, .inl (cQ, 5, .inr (.inr (.inr (.inr (fun j => if j < 5 then some (fa + 1 + j) else none)))))), (fa + 1, .inl (cL, g, .inr (.inl (fun _ => 0)))), (fa + 2, .inl (cL, g, .inr (.inl (fun _ => 0)))), (fa + 3, .inl (cL, g, .inr (.inl (fun _ => 0)))), (fa + 4, .inl (cL, g, .inr (.inl (fun _ => 0)))), (fa + 5, .inl (cL, g, .inr (.inl (fun _ => 0))))] := hD
  refine lv_aload_n hx hb dX1_init_19 rfl (lv_at hl 0 rfl) ?_
  refine va_new (ci := 3) (fs := [.int 0, .long 0, .long 0, .long 0]) (C := RX3) (T := TX3) (N := 4) hx hb hts (by decide +kernel) tyX3 tyX3_ok hown (hts (.classLink RX1 20 RX3) (by decide +kernel)) (hts (.instantiable RX3 4) (by decide +kernel)) (hts (.initialized RX3) (by decide +kernel)) hK hP hD hS hA rfl (fun j hj => by rcases (show j = 0 ∨ j = 1 ∨ j = 2 ∨ j = 3 by omega) with rfl | rfl | rfl | rfl <;> rfl) (Nat.le_of_ble_eq_true rfl) (Nat.le_of_ble_eq_true rfl) dX1_init_20 (fun s1 H hP hD hS => ?_)
  have hP : va_P D vwCl [(h0, .inr (1, [.int (nI g), .ref fa, .null, .null, .int 0, .int 0])), (fa, .inl (cQ, 5, .inr (.inr (.inr (.inr (fun j => if j < 5 then some (fa + 1 + j) else none)))))), (fa + 1, .inl (cL, g, .inr (.inl (fun _ => 0)))), (fa + 2, .inl (cL, g, .inr (.inl (fun _ => 0)))), (fa + 3, .inl (cL, g, .inr (.inl (fun _ => 0)))), (fa + 4, .inl (cL, g, .inr (.inl (fun _ => 0)))), (fa + 5, .inl (cL, g, .inr (.inl (fun _ => 0)))), (s1, .inr (3, [.int 0, .long 0, .long 0, .long 0]))] H := hP
  have hD : va_D A [(h0, .inr (1, [.int (nI g), .ref fa, .null, .null, .int 0, .int 0])), (fa, .inl (cQ, 5, .inr (.inr (.inr (.inr (fun j => if j < 5 then some (fa + 1 + j) else none)))))), (fa + 1, .inl (cL, g, .inr (.inl (fun _ => 0)))), (fa + 2, .inl (cL, g, .inr (.inl (fun _ => 0)))), (fa + 3, .inl (cL, g, .inr (.inl (fun _ => 0)))), (fa + 4, .inl (cL, g, .inr (.inl (fun _ => 0)))), (fa + 5, .inl (cL, g, .inr (.inl (fun _ => 0)))), (s1, .inr (3, [.int 0, .long 0, .long 0, .long 0]))] := hD
  refine W.widen (k := 7) (n := 2009) (by omega) (by omega) ?_
  refine lv_dup hx hb dX1_init_23 rfl ?_
  refine jw_v (wr := [(h0, .inr (1, [.int (nI g), .ref fa, .null, .null, .int 0, .int 0])), (fa, .inl (cQ, 5, .inr (.inr (.inr (.inr (fun j => if j < 5 then some (fa + 1 + j) else none)))))), (fa + 1, .inl (cL, g, .inr (.inl (fun _ => 0)))), (fa + 2, .inl (cL, g, .inr (.inl (fun _ => 0)))), (fa + 3, .inl (cL, g, .inr (.inl (fun _ => 0)))), (fa + 4, .inl (cL, g, .inr (.inl (fun _ => 0)))), (fa + 5, .inl (cL, g, .inr (.inl (fun _ => 0))))]) (va_runIN (As := []) (rest := [.ref s1, .ref h0]) ⟨hx, hb, hml, hown, hts⟩ (cS_init l D cI cL cQ s1 _) ⟨(va_cnB 0 hts gX1_init_X3_init_n22 rfl rfl rfl (hN.2.1 (RX1, 22, yX3_init, "JoinDesk") (by decide +kernel)) (hts (.initialized RX3) (by decide +kernel)) (by decide +kernel) ⟨Nat.le_of_ble_eq_true rfl, Nat.le_of_ble_eq_true rfl⟩), rfl, hts (.instanceMethod yX3_init) (by decide +kernel)⟩ (jw_S hK hN hP hD [7] (by decide) rfl) rfl rfl hl.1 rfl (lv_room (Nat.le_of_ble_eq_true rfl)) dX1_init_24 ⟨Nat.le_of_ble_eq_true rfl, Nat.le_of_ble_eq_true rfl⟩) hP hD hS hA [7] [0, 1, 2, 3, 4, 5, 6] rfl rfl (by decide) (by decide) (fun u H locs f_1 hP hD hS => ?_)
  obtain rfl := f_1
  have hP : va_P D vwCl [(h0, .inr (1, [.int (nI g), .ref fa, .null, .null, .int 0, .int 0])), (fa, .inl (cQ, 5, .inr (.inr (.inr (.inr (fun j => if j < 5 then some (fa + 1 + j) else none)))))), (fa + 1, .inl (cL, g, .inr (.inl (fun _ => 0)))), (fa + 2, .inl (cL, g, .inr (.inl (fun _ => 0)))), (fa + 3, .inl (cL, g, .inr (.inl (fun _ => 0)))), (fa + 4, .inl (cL, g, .inr (.inl (fun _ => 0)))), (fa + 5, .inl (cL, g, .inr (.inl (fun _ => 0)))), (s1, .inr (3, [.int 0, .long 0, .long 0, .long 0]))] H := hP
  have hD : va_D A [(h0, .inr (1, [.int (nI g), .ref fa, .null, .null, .int 0, .int 0])), (fa, .inl (cQ, 5, .inr (.inr (.inr (.inr (fun j => if j < 5 then some (fa + 1 + j) else none)))))), (fa + 1, .inl (cL, g, .inr (.inl (fun _ => 0)))), (fa + 2, .inl (cL, g, .inr (.inl (fun _ => 0)))), (fa + 3, .inl (cL, g, .inr (.inl (fun _ => 0)))), (fa + 4, .inl (cL, g, .inr (.inl (fun _ => 0)))), (fa + 5, .inl (cL, g, .inr (.inl (fun _ => 0)))), (s1, .inr (3, [.int 0, .long 0, .long 0, .long 0]))] := hD
  refine va_putF (D := D) (ci := 1) (v := .ref s1) (ty := .object "JoinDesk$Span") (C := RX1) (T := TX1) (N := 6) hx hb hts (by decide +kernel) tyX1 tyX1_ok nmX1 hown hK hP hD hS 0 rfl rfl 2 (by decide) (hts (.fieldLink RX1 23 "JoinDesk$GroupBook" "leftSpan" "LJoinDesk$Span;") (by decide +kernel)) (fun _ h9 => h9) rfl hin rfl (by decide +kernel) rfl rfl (Nat.le_of_ble_eq_true rfl) dX1_init_27 (fun H locs hP hD hS => ?_)
  have hP : va_P D vwCl [(h0, .inr (1, [.int (nI g), .ref fa, .ref s1, .null, .int 0, .int 0])), (fa, .inl (cQ, 5, .inr (.inr (.inr (.inr (fun j => if j < 5 then some (fa + 1 + j) else none)))))), (fa + 1, .inl (cL, g, .inr (.inl (fun _ => 0)))), (fa + 2, .inl (cL, g, .inr (.inl (fun _ => 0)))), (fa + 3, .inl (cL, g, .inr (.inl (fun _ => 0)))), (fa + 4, .inl (cL, g, .inr (.inl (fun _ => 0)))), (fa + 5, .inl (cL, g, .inr (.inl (fun _ => 0)))), (s1, .inr (3, [.int 0, .long 0, .long 0, .long 0]))] H := hP
  have hD : va_D A [(h0, .inr (1, [.int (nI g), .ref fa, .ref s1, .null, .int 0, .int 0])), (fa, .inl (cQ, 5, .inr (.inr (.inr (.inr (fun j => if j < 5 then some (fa + 1 + j) else none)))))), (fa + 1, .inl (cL, g, .inr (.inl (fun _ => 0)))), (fa + 2, .inl (cL, g, .inr (.inl (fun _ => 0)))), (fa + 3, .inl (cL, g, .inr (.inl (fun _ => 0)))), (fa + 4, .inl (cL, g, .inr (.inl (fun _ => 0)))), (fa + 5, .inl (cL, g, .inr (.inl (fun _ => 0)))), (s1, .inr (3, [.int 0, .long 0, .long 0, .long 0]))] := hD
  refine lv_aload_n hx hb dX1_init_30 rfl (lv_at hl 0 rfl) ?_
  refine va_new (ci := 3) (fs := [.int 0, .long 0, .long 0, .long 0]) (C := RX3) (T := TX3) (N := 4) hx hb hts (by decide +kernel) tyX3 tyX3_ok hown (hts (.classLink RX1 20 RX3) (by decide +kernel)) (hts (.instantiable RX3 4) (by decide +kernel)) (hts (.initialized RX3) (by decide +kernel)) hK hP hD hS hA rfl (fun j hj => by rcases (show j = 0 ∨ j = 1 ∨ j = 2 ∨ j = 3 by omega) with rfl | rfl | rfl | rfl <;> rfl) (Nat.le_of_ble_eq_true rfl) (Nat.le_of_ble_eq_true rfl) dX1_init_31 (fun s2 H hP hD hS => ?_)
  have hP : va_P D vwCl [(h0, .inr (1, [.int (nI g), .ref fa, .ref s1, .null, .int 0, .int 0])), (fa, .inl (cQ, 5, .inr (.inr (.inr (.inr (fun j => if j < 5 then some (fa + 1 + j) else none)))))), (fa + 1, .inl (cL, g, .inr (.inl (fun _ => 0)))), (fa + 2, .inl (cL, g, .inr (.inl (fun _ => 0)))), (fa + 3, .inl (cL, g, .inr (.inl (fun _ => 0)))), (fa + 4, .inl (cL, g, .inr (.inl (fun _ => 0)))), (fa + 5, .inl (cL, g, .inr (.inl (fun _ => 0)))), (s1, .inr (3, [.int 0, .long 0, .long 0, .long 0])), (s2, .inr (3, [.int 0, .long 0, .long 0, .long 0]))] H := hP
  have hD : va_D A [(h0, .inr (1, [.int (nI g), .ref fa, .ref s1, .null, .int 0, .int 0])), (fa, .inl (cQ, 5, .inr (.inr (.inr (.inr (fun j => if j < 5 then some (fa + 1 + j) else none)))))), (fa + 1, .inl (cL, g, .inr (.inl (fun _ => 0)))), (fa + 2, .inl (cL, g, .inr (.inl (fun _ => 0)))), (fa + 3, .inl (cL, g, .inr (.inl (fun _ => 0)))), (fa + 4, .inl (cL, g, .inr (.inl (fun _ => 0)))), (fa + 5, .inl (cL, g, .inr (.inl (fun _ => 0)))), (s1, .inr (3, [.int 0, .long 0, .long 0, .long 0])), (s2, .inr (3, [.int 0, .long 0, .long 0, .long 0]))] := hD
  refine W.widen (k := 8) (n := 2013) (by omega) (by omega) ?_
  refine lv_dup hx hb dX1_init_34 rfl ?_
  refine jw_v (wr := [(h0, .inr (1, [.int (nI g), .ref fa, .ref s1, .null, .int 0, .int 0])), (fa, .inl (cQ, 5, .inr (.inr (.inr (.inr (fun j => if j < 5 then some (fa + 1 + j) else none)))))), (fa + 1, .inl (cL, g, .inr (.inl (fun _ => 0)))), (fa + 2, .inl (cL, g, .inr (.inl (fun _ => 0)))), (fa + 3, .inl (cL, g, .inr (.inl (fun _ => 0)))), (fa + 4, .inl (cL, g, .inr (.inl (fun _ => 0)))), (fa + 5, .inl (cL, g, .inr (.inl (fun _ => 0)))), (s1, .inr (3, [.int 0, .long 0, .long 0, .long 0]))]) (va_runIN (As := []) (rest := [.ref s2, .ref h0]) ⟨hx, hb, hml, hown, hts⟩ (cS_init l D cI cL cQ s2 _) ⟨(va_cnB 0 hts gX1_init_X3_init_n22 rfl rfl rfl (hN.2.1 (RX1, 22, yX3_init, "JoinDesk") (by decide +kernel)) (hts (.initialized RX3) (by decide +kernel)) (by decide +kernel) ⟨Nat.le_of_ble_eq_true rfl, Nat.le_of_ble_eq_true rfl⟩), rfl, hts (.instanceMethod yX3_init) (by decide +kernel)⟩ (jw_S hK hN hP hD [8] (by decide) rfl) rfl rfl hl.1 rfl (lv_room (Nat.le_of_ble_eq_true rfl)) dX1_init_35 ⟨Nat.le_of_ble_eq_true rfl, Nat.le_of_ble_eq_true rfl⟩) hP hD hS hA [8] [0, 1, 2, 3, 4, 5, 6, 7] rfl rfl (by decide) (by decide) (fun u H locs f_2 hP hD hS => ?_)
  obtain rfl := f_2
  have hP : va_P D vwCl [(h0, .inr (1, [.int (nI g), .ref fa, .ref s1, .null, .int 0, .int 0])), (fa, .inl (cQ, 5, .inr (.inr (.inr (.inr (fun j => if j < 5 then some (fa + 1 + j) else none)))))), (fa + 1, .inl (cL, g, .inr (.inl (fun _ => 0)))), (fa + 2, .inl (cL, g, .inr (.inl (fun _ => 0)))), (fa + 3, .inl (cL, g, .inr (.inl (fun _ => 0)))), (fa + 4, .inl (cL, g, .inr (.inl (fun _ => 0)))), (fa + 5, .inl (cL, g, .inr (.inl (fun _ => 0)))), (s1, .inr (3, [.int 0, .long 0, .long 0, .long 0])), (s2, .inr (3, [.int 0, .long 0, .long 0, .long 0]))] H := hP
  have hD : va_D A [(h0, .inr (1, [.int (nI g), .ref fa, .ref s1, .null, .int 0, .int 0])), (fa, .inl (cQ, 5, .inr (.inr (.inr (.inr (fun j => if j < 5 then some (fa + 1 + j) else none)))))), (fa + 1, .inl (cL, g, .inr (.inl (fun _ => 0)))), (fa + 2, .inl (cL, g, .inr (.inl (fun _ => 0)))), (fa + 3, .inl (cL, g, .inr (.inl (fun _ => 0)))), (fa + 4, .inl (cL, g, .inr (.inl (fun _ => 0)))), (fa + 5, .inl (cL, g, .inr (.inl (fun _ => 0)))), (s1, .inr (3, [.int 0, .long 0, .long 0, .long 0])), (s2, .inr (3, [.int 0, .long 0, .long 0, .long 0]))] := hD
  refine va_putF (D := D) (ci := 1) (v := .ref s2) (ty := .object "JoinDesk$Span") (C := RX1) (T := TX1) (N := 6) hx hb hts (by decide +kernel) tyX1 tyX1_ok nmX1 hown hK hP hD hS 0 rfl rfl 3 (by decide) (hts (.fieldLink RX1 27 "JoinDesk$GroupBook" "rightSpan" "LJoinDesk$Span;") (by decide +kernel)) (fun _ h9 => h9) rfl hin rfl (by decide +kernel) rfl rfl (Nat.le_of_ble_eq_true rfl) dX1_init_38 (fun H locs hP hD hS => ?_)
  have hP : va_P D vwCl [(h0, .inr (1, [.int (nI g), .ref fa, .ref s1, .ref s2, .int 0, .int 0])), (fa, .inl (cQ, 5, .inr (.inr (.inr (.inr (fun j => if j < 5 then some (fa + 1 + j) else none)))))), (fa + 1, .inl (cL, g, .inr (.inl (fun _ => 0)))), (fa + 2, .inl (cL, g, .inr (.inl (fun _ => 0)))), (fa + 3, .inl (cL, g, .inr (.inl (fun _ => 0)))), (fa + 4, .inl (cL, g, .inr (.inl (fun _ => 0)))), (fa + 5, .inl (cL, g, .inr (.inl (fun _ => 0)))), (s1, .inr (3, [.int 0, .long 0, .long 0, .long 0])), (s2, .inr (3, [.int 0, .long 0, .long 0, .long 0]))] H := hP
  have hD : va_D A [(h0, .inr (1, [.int (nI g), .ref fa, .ref s1, .ref s2, .int 0, .int 0])), (fa, .inl (cQ, 5, .inr (.inr (.inr (.inr (fun j => if j < 5 then some (fa + 1 + j) else none)))))), (fa + 1, .inl (cL, g, .inr (.inl (fun _ => 0)))), (fa + 2, .inl (cL, g, .inr (.inl (fun _ => 0)))), (fa + 3, .inl (cL, g, .inr (.inl (fun _ => 0)))), (fa + 4, .inl (cL, g, .inr (.inl (fun _ => 0)))), (fa + 5, .inl (cL, g, .inr (.inl (fun _ => 0)))), (s1, .inr (3, [.int 0, .long 0, .long 0, .long 0])), (s2, .inr (3, [.int 0, .long 0, .long 0, .long 0]))] := hD
  refine lv_aload_n hx hb dX1_init_41 rfl (lv_at hl 0 rfl) ?_
  refine lv_iconst (v := 0) hx hb dX1_init_42 (by decide) ?_
  refine va_put (D := D) (ci := 1) (v := .int 0) (ty := .int) (C := RX1) (T := TX1) (N := 6) hx hb hts (by decide +kernel) tyX1 tyX1_ok nmX1 hown hK hP hD hS 0 rfl rfl 4 (by decide) (hts (.fieldLink RX1 30 "JoinDesk$GroupBook" "size" "I") (by decide +kernel)) (fun _ h9 => h9) rfl (by decide +kernel) rfl rfl (Nat.le_of_ble_eq_true rfl) dX1_init_43 (fun H locs hP hD hS => ?_)
  have hP : va_P D vwCl [(h0, .inr (1, [.int (nI g), .ref fa, .ref s1, .ref s2, .int 0, .int 0])), (fa, .inl (cQ, 5, .inr (.inr (.inr (.inr (fun j => if j < 5 then some (fa + 1 + j) else none)))))), (fa + 1, .inl (cL, g, .inr (.inl (fun _ => 0)))), (fa + 2, .inl (cL, g, .inr (.inl (fun _ => 0)))), (fa + 3, .inl (cL, g, .inr (.inl (fun _ => 0)))), (fa + 4, .inl (cL, g, .inr (.inl (fun _ => 0)))), (fa + 5, .inl (cL, g, .inr (.inl (fun _ => 0)))), (s1, .inr (3, [.int 0, .long 0, .long 0, .long 0])), (s2, .inr (3, [.int 0, .long 0, .long 0, .long 0]))] H := hP
  have hD : va_D A [(h0, .inr (1, [.int (nI g), .ref fa, .ref s1, .ref s2, .int 0, .int 0])), (fa, .inl (cQ, 5, .inr (.inr (.inr (.inr (fun j => if j < 5 then some (fa + 1 + j) else none)))))), (fa + 1, .inl (cL, g, .inr (.inl (fun _ => 0)))), (fa + 2, .inl (cL, g, .inr (.inl (fun _ => 0)))), (fa + 3, .inl (cL, g, .inr (.inl (fun _ => 0)))), (fa + 4, .inl (cL, g, .inr (.inl (fun _ => 0)))), (fa + 5, .inl (cL, g, .inr (.inl (fun _ => 0)))), (s1, .inr (3, [.int 0, .long 0, .long 0, .long 0])), (s2, .inr (3, [.int 0, .long 0, .long 0, .long 0]))] := hD
  refine lv_aload_n hx hb dX1_init_46 rfl (lv_at hl 0 rfl) ?_
  refine lv_iconst (v := 0) hx hb dX1_init_47 (by decide) ?_
  refine va_put (D := D) (ci := 1) (v := .int 0) (ty := .boolean) (C := RX1) (T := TX1) (N := 6) hx hb hts (by decide +kernel) tyX1 tyX1_ok nmX1 hown hK hP hD hS 0 rfl rfl 5 (by decide) (hts (.fieldLink RX1 33 "JoinDesk$GroupBook" "told" "Z") (by decide +kernel)) (fun _ h9 => h9) rfl (by decide +kernel) rfl rfl (Nat.le_of_ble_eq_true rfl) dX1_init_48 (fun H locs hP hD hS => ?_)
  have hP : va_P D vwCl [(h0, .inr (1, [.int (nI g), .ref fa, .ref s1, .ref s2, .int 0, .int 0])), (fa, .inl (cQ, 5, .inr (.inr (.inr (.inr (fun j => if j < 5 then some (fa + 1 + j) else none)))))), (fa + 1, .inl (cL, g, .inr (.inl (fun _ => 0)))), (fa + 2, .inl (cL, g, .inr (.inl (fun _ => 0)))), (fa + 3, .inl (cL, g, .inr (.inl (fun _ => 0)))), (fa + 4, .inl (cL, g, .inr (.inl (fun _ => 0)))), (fa + 5, .inl (cL, g, .inr (.inl (fun _ => 0)))), (s1, .inr (3, [.int 0, .long 0, .long 0, .long 0])), (s2, .inr (3, [.int 0, .long 0, .long 0, .long 0]))] H := hP
  have hD : va_D A [(h0, .inr (1, [.int (nI g), .ref fa, .ref s1, .ref s2, .int 0, .int 0])), (fa, .inl (cQ, 5, .inr (.inr (.inr (.inr (fun j => if j < 5 then some (fa + 1 + j) else none)))))), (fa + 1, .inl (cL, g, .inr (.inl (fun _ => 0)))), (fa + 2, .inl (cL, g, .inr (.inl (fun _ => 0)))), (fa + 3, .inl (cL, g, .inr (.inl (fun _ => 0)))), (fa + 4, .inl (cL, g, .inr (.inl (fun _ => 0)))), (fa + 5, .inl (cL, g, .inr (.inl (fun _ => 0)))), (s1, .inr (3, [.int 0, .long 0, .long 0, .long 0])), (s2, .inr (3, [.int 0, .long 0, .long 0, .long 0]))] := hD
  refine W.widen (k := 8) (n := 2013) (by omega) (by omega) ?_
  exact W.vret hx hb hr (fun t ht hW => ⟨⟨[(h0, .inr (1, [.int (nI g), .ref fa, .ref s1, .ref s2, .int 0, .int 0])), (fa, .inl (cQ, 5, .inr (.inr (.inr (.inr (fun j => if j < 5 then some (fa + 1 + j) else none)))))), (fa + 1, .inl (cL, g, .inr (.inl (fun _ => 0)))), (fa + 2, .inl (cL, g, .inr (.inl (fun _ => 0)))), (fa + 3, .inl (cL, g, .inr (.inl (fun _ => 0)))), (fa + 4, .inl (cL, g, .inr (.inl (fun _ => 0)))), (fa + 5, .inl (cL, g, .inr (.inl (fun _ => 0)))), (s1, .inr (3, [.int 0, .long 0, .long 0, .long 0])), (s2, .inr (3, [.int 0, .long 0, .long 0, .long 0]))], rfl, (by exact ⟨_, _, _, rfl⟩), by rw [ht]; exact hP, hD⟩, hS.F ht⟩) hS.2.2 dX1_init_51
end
