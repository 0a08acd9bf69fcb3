section
-- ===== PART A: goes FIRST, ahead of the names: the tables' words, and 'selects' of the private methods out of them =====
/-- a private method of a class that the tables say can be made, by its rows of tables_1 -/
def lw_okq (q : MethodName × Nat) : Prop := (q.1.cls ≠ "java/lang/invoke/MethodHandle" ∧ q.1.cls ≠ "java/lang/invoke/VarHandle") ∧ Cond.instantiable q.1.cls q.2 ∈ tables_1 ∧ Cond.privateMethod q.1 ∈ tables_1 ∧ Cond.instanceMethod q.1 ∈ tables_1
theorem lw_p0 : lw_okq (⟨"java/lang/Throwable", "fillInStackTrace", "(I)Ljava/lang/Throwable;"⟩, 6) := ⟨⟨by decide +kernel, by decide +kernel⟩, List.mem_of_getElem? (i := 89) (by decide +kernel), List.mem_of_getElem? (i := 87) (by decide +kernel), List.mem_of_getElem? (i := 88) (by decide +kernel)⟩
theorem lw_p1 : lw_okq (⟨"PagedBytes", "memoryOf", "(I)LPagedBytes$Memory;"⟩, 4) := ⟨⟨by decide +kernel, by decide +kernel⟩, List.mem_of_getElem? (i := 15) (by decide +kernel), List.mem_of_getElem? (i := 183) (by decide +kernel), List.mem_of_getElem? (i := 184) (by decide +kernel)⟩
theorem lw_p2 : lw_okq (⟨"PagedBytes$Memory", "byteAt", "(I)I"⟩, 3) := ⟨⟨by decide +kernel, by decide +kernel⟩, List.mem_of_getElem? (i := 150) (by decide +kernel), List.mem_of_getElem? (i := 257) (by decide +kernel), List.mem_of_getElem? (i := 258) (by decide +kernel)⟩
theorem lw_p3 : lw_okq (⟨"PagedBytes$Memory", "rowOrNull", "(I)LPagedBytes$Row;"⟩, 3) := ⟨⟨by decide +kernel, by decide +kernel⟩, List.mem_of_getElem? (i := 150) (by decide +kernel), List.mem_of_getElem? (i := 261) (by decide +kernel), List.mem_of_getElem? (i := 262) (by decide +kernel)⟩
theorem lw_p4 : lw_okq (⟨"PagedBytes$Memory", "putByte", "(IB)V"⟩, 3) := ⟨⟨by decide +kernel, by decide +kernel⟩, List.mem_of_getElem? (i := 150) (by decide +kernel), List.mem_of_getElem? (i := 285) (by decide +kernel), List.mem_of_getElem? (i := 286) (by decide +kernel)⟩
theorem lw_p5 : lw_okq (⟨"PagedBytes$Memory", "rowToWrite", "(I)LPagedBytes$Row;"⟩, 3) := ⟨⟨by decide +kernel, by decide +kernel⟩, List.mem_of_getElem? (i := 150) (by decide +kernel), List.mem_of_getElem? (i := 289) (by decide +kernel), List.mem_of_getElem? (i := 290) (by decide +kernel)⟩
theorem lw_p6 : lw_okq (⟨"PagedBytesModel", "add", "(II)V"⟩, 8) := ⟨⟨by decide +kernel, by decide +kernel⟩, List.mem_of_getElem? (i := 345) (by decide +kernel), List.mem_of_getElem? (i := 388) (by decide +kernel), List.mem_of_getElem? (i := 389) (by decide +kernel)⟩
theorem lw_p7 : lw_okq (⟨"PagedBytesModel", "isMemory", "(I)Z"⟩, 8) := ⟨⟨by decide +kernel, by decide +kernel⟩, List.mem_of_getElem? (i := 345) (by decide +kernel), List.mem_of_getElem? (i := 396) (by decide +kernel), List.mem_of_getElem? (i := 397) (by decide +kernel)⟩
theorem lw_p8 : lw_okq (⟨"PagedBytesModel", "count", "(I)I"⟩, 8) := ⟨⟨by decide +kernel, by decide +kernel⟩, List.mem_of_getElem? (i := 345) (by decide +kernel), List.mem_of_getElem? (i := 400) (by decide +kernel), List.mem_of_getElem? (i := 401) (by decide +kernel)⟩
theorem lw_p9 : lw_okq (⟨"PagedBytesModel", "isThere", "(IJI)Z"⟩, 8) := ⟨⟨by decide +kernel, by decide +kernel⟩, List.mem_of_getElem? (i := 345) (by decide +kernel), List.mem_of_getElem? (i := 428) (by decide +kernel), List.mem_of_getElem? (i := 429) (by decide +kernel)⟩
theorem lw_p10 : lw_okq (⟨"PagedBytesModel", "get", "(IJ)I"⟩, 8) := ⟨⟨by decide +kernel, by decide +kernel⟩, List.mem_of_getElem? (i := 345) (by decide +kernel), List.mem_of_getElem? (i := 433) (by decide +kernel), List.mem_of_getElem? (i := 434) (by decide +kernel)⟩
theorem lw_p11 : lw_okq (⟨"PagedBytesModel", "rowOf", "(IJ)I"⟩, 8) := ⟨⟨by decide +kernel, by decide +kernel⟩, List.mem_of_getElem? (i := 345) (by decide +kernel), List.mem_of_getElem? (i := 437) (by decide +kernel), List.mem_of_getElem? (i := 438) (by decide +kernel)⟩
theorem lw_p12 : lw_okq (⟨"PagedBytesModel", "put", "(IJI)V"⟩, 8) := ⟨⟨by decide +kernel, by decide +kernel⟩, List.mem_of_getElem? (i := 345) (by decide +kernel), List.mem_of_getElem? (i := 447) (by decide +kernel), List.mem_of_getElem? (i := 448) (by decide +kernel)⟩
def lw_privs_1 : List (MethodName × Nat) := [(⟨"java/lang/Throwable", "fillInStackTrace", "(I)Ljava/lang/Throwable;"⟩, 6), (⟨"PagedBytes", "memoryOf", "(I)LPagedBytes$Memory;"⟩, 4), (⟨"PagedBytes$Memory", "byteAt", "(I)I"⟩, 3), (⟨"PagedBytes$Memory", "rowOrNull", "(I)LPagedBytes$Row;"⟩, 3), (⟨"PagedBytes$Memory", "putByte", "(IB)V"⟩, 3), (⟨"PagedBytes$Memory", "rowToWrite", "(I)LPagedBytes$Row;"⟩, 3), (⟨"PagedBytesModel", "add", "(II)V"⟩, 8), (⟨"PagedBytesModel", "isMemory", "(I)Z"⟩, 8), (⟨"PagedBytesModel", "count", "(I)I"⟩, 8), (⟨"PagedBytesModel", "isThere", "(IJI)Z"⟩, 8), (⟨"PagedBytesModel", "get", "(IJ)I"⟩, 8), (⟨"PagedBytesModel", "rowOf", "(IJ)I"⟩, 8), (⟨"PagedBytesModel", "put", "(IJI)V"⟩, 8)]
theorem lw_r1 : ∀ q ∈ lw_privs_1, lw_okq q := List.forall_mem_cons.mpr ⟨lw_p0, List.forall_mem_cons.mpr ⟨lw_p1, List.forall_mem_cons.mpr ⟨lw_p2, List.forall_mem_cons.mpr ⟨lw_p3, List.forall_mem_cons.mpr ⟨lw_p4, List.forall_mem_cons.mpr ⟨lw_p5, List.forall_mem_cons.mpr ⟨lw_p6, List.forall_mem_cons.mpr ⟨lw_p7, List.forall_mem_cons.mpr ⟨lw_p8, List.forall_mem_cons.mpr ⟨lw_p9, List.forall_mem_cons.mpr ⟨lw_p10, List.forall_mem_cons.mpr ⟨lw_p11, List.forall_mem_cons.mpr ⟨lw_p12, fun _ h => absurd h List.not_mem_nil⟩⟩⟩⟩⟩⟩⟩⟩⟩⟩⟩⟩⟩
def lw_privs : List (MethodName × Nat) := lw_privs_1
def lw_tbl : List Cond := k2_sels lw_privs ++ tables_1
theorem lw_privs_ok : ∀ q ∈ lw_privs, lw_okq q := lw_r1
/-! ===== BEGIN words of one list among another's, by their places ===== -/
theorem goodIn_r {big : List Cond} (ws : List Cond) (ps : List Nat) (hp : ws = ps.filterMap (fun i => big[i]?)) (h : ws.all goodWord = true) : GoodIn big ws := by
  intro w hw
  have h1 := List.all_eq_true.mp h w hw
  rw [hp] at hw
  obtain ⟨i, -, hi⟩ := List.mem_filterMap.mp hw
  have hm : w ∈ big := by first | exact List.mem_of_getElem? hi | exact List.getElem?_mem hi
  exact ⟨hm, good_of_word h1⟩
theorem goodIn_app {big a b : List Cond} (ha : GoodIn big a) (hb : GoodIn big b) : GoodIn big (a ++ b) := fun w h => (List.mem_append.mp h).elim (ha w) (hb w)
theorem goodIn_ca {big a b : List Cond} {c : Cond} (ha : GoodIn big (c :: a)) (hb : GoodIn big b) : GoodIn big (c :: (a ++ b)) := fun w h => (List.mem_cons.mp h).elim (fun e => ha w (List.mem_cons.mpr (Or.inl e))) (fun h => (List.mem_append.mp h).elim (fun h => ha w (List.mem_cons.mpr (Or.inr h))) (hb w))
theorem goodIn_sub {big ws : List Cond} (hm : ∀ w ∈ ws, w ∈ big) (h : ws.all goodWord = true) : GoodIn big ws := fun w hw => ⟨hm w hw, good_of_word (List.all_eq_true.mp h w hw)⟩
/-! ===== END ===== -/

/-! ===== BEGIN exceptions that leave a method, and their catching by the caller (launches without stack traces) ===== -/
section VXA
/-! The laws vx_back, vx_callV, vx_callS, vx_callSW, vx_throw0, vx_throwS follow proofs of the library, with one case more: JvmDerived/Free/Laws.lean (Back.of_free), Shelf42/LK1.lean (callV, callS), Shelf/KitTraced.lean (throwNew0V, throwNewS). -/
/-- where a method has thrown q: the class by its name, the cell, what was written, the world -/
def vx_T (XC : String → State → State → Prop) (st : State) (q : Addr) (t : State) (mc ms : Nat) (free : Addr → Prop) : Prop :=
  ∃ (E : String) (ce : Cell) (L : List Loc), XC E st t ∧ t.heap[q]? = some ce ∧ ce.vm = .none ∧ st.vm.findClass E = some ce.cls ∧ st.WarmedH t.vm ∧ st.sameButNew ({ t with vm := st.vm } : State) L mc ms ∧ ∀ z ∈ L, free z.base
def vx_Q (Qc : Array Value → State → Outcome → State → Prop) (XC : String → State → State → Prop) (mc ms : Nat) (free : Addr → Prop) : Array Value → State → Outcome → State → Prop := fun a st o t =>
  (Qc a st o t ∧ ∃ L, FrameEnd st o t L mc ms ∧ ∀ q ∈ L, free q.base) ∨ ∃ q, o = .threw q ∧ vx_T XC st q t mc ms free
/-- a callee that returns or throws -/
def vx_Met (l : Launch) (y : MethodName) (ws : List Cond) (rm : Room) (Pc : Array Value → State → Prop) (Qc : Array Value → State → Outcome → State → Prop) (XC : String → State → State → Prop) (mc ms : Nat) (free : Addr → Prop) : Prop :=
  MetFree l y (headSpec ws rm) Pc (fun _ _ _ _ _ => True) (vx_Q Qc XC mc ms free)
def vx_Post (XC : String → State → State → Prop) (mc ms : Nat) (free : Addr → Prop) : Pt → Array Value → Addr → Pt → Prop := fun A a q B =>
  ∃ (g : JFrame) (mk : MethodId) (t : State) (L : List Loc) (E : String) (ce : Cell), B.U.heap = t.heap ∧ B.U.vm = t.vm ∧ XC E (A.U.calling g mk a) t ∧ t.heap[q]? = some ce ∧ ce.vm = .none ∧ A.U.vm.findClass E = some ce.cls ∧ B.locs = A.locs ++ L ∧ (∀ z ∈ L, free z.base) ∧ B.cells = A.cells + mc ∧ B.slots = A.slots + ms
def vx_Back (l : Launch) (R : Room) (p : Program) (e : Env) (below : List Frame) (s : State) (sargs : Array Value) (y : MethodName) (len W9 : Nat)
    (Pre : Pt → Array Value → Prop) (Post : Pt → Array Value → Option Value → Pt → Prop) (PostX : Pt → Array Value → Addr → Pt → Prop) : Prop :=
  ∀ (m : MethodId) (meth : Method) (c : Code) (A : Pt) (g : JFrame) (ig : Instr) (mk : MethodId) (a : Array Value),
    Stand p l e R s m sargs below meth c A.U A.locs A.cells A.slots → g.method = m → g.locals.size = c.maxLocals → decode c.code g.pc = .ok (ig, len) →
    2 * g.monitorRoom + (g.stack.map fun v => v.category).sum ≤ W9 → A.U.methodNamed? y = some mk → Pre A a →
    (∃ (v : Option Value) (B : Pt), Stand p l e R s m sargs below meth c B.U B.locs B.cells B.slots ∧ Post A a v B ∧
      Steps p.tables e below (doInvoke e (A.U.setTop g) [] mk a).1 (B.U.setTop { g with pc := g.pc + len, stack := v.toList ++ g.stack })) ∨
    (∃ (q : Addr) (B : Pt), Stand p l e R s m sargs below meth c B.U B.locs B.cells B.slots ∧ PostX A a q B ∧
      Steps p.tables e below (doInvoke e (A.U.setTop g) [] mk a).1 ((B.U.setTop g).pushFrame (.throwing q)))
section Payer
variable {l : Launch} {R : Room} {p : Program} {e : Env} {below : List Frame} {s : State} {sargs : Array Value} {y : MethodName} {len W9 : Nat}
theorem vx_back {ws : List Cond} {rm : Room} {Pc : Array Value → State → Prop} {Qc : Array Value → State → Outcome → State → Prop} {XC : String → State → State → Prop} {mc ms : Nat} {free : Addr → Prop} {bytes : ByteArray} {maxL : Nat} {ret : Option FieldType}
    (hM : vx_Met l y ws rm Pc Qc XC mc ms free) (hblind : FrameBlind Pc) (hrc : rm.cells = mc) (hrs : rm.slots = ms)
    (hframes : rm.frames + 1 ≤ R.frames) (hlocals : W9 + (maxL + 11) + rm.locals ≤ R.locals)
    (hws : ∀ w ∈ ws, ∀ a' U, s.WarmedH U.vm → w.before a' U = true) (hcode : Cond.code y bytes maxL ret ∈ ws) (hinit : ∀ a' U, s.WarmedH U.vm → (Cond.initialized y.cls).before a' U = true) :
    vx_Back l R p e below s sargs y len W9 (PreOf R mc ms Pc) (PostOf Qc mc ms free) (vx_Post XC mc ms free) := by
  intro m meth c A g ig mk a X hg hsize hdg hW hn hp
  have h1 : (headSpec ws rm).pre.before a A.U = true := atoms_intro fun w hw => hws w hw _ _ X.warmed
  have h2 : (Cond.code y bytes maxL ret).before a A.U = true := hws _ hcode _ _ X.warmed
  have h3 : (Cond.initialized y.cls).before a A.U = true := hinit _ _ X.warmed
  have h4 : A.cells + (headSpec ws rm).room.cells ≤ R.cells := by rw [show (headSpec ws rm).room.cells = mc from hrc]; exact hp.1
  have h5 : A.slots + (headSpec ws rm).room.slots ≤ R.slots := by rw [show (headSpec ws rm).room.slots = ms from hrs]; exact hp.2.1
  have hPc : Pc a (A.U.calling g mk a) := hblind _ _ _ _ hp.2.2
  obtain ⟨U, Ls, c0, s0⟩ := A
  dsimp only [Pt.U, Pt.locs, Pt.cells, Pt.slots] at h1 h2 h3 h4 h5 X hn hPc ⊢
  obtain ⟨methY, cY, hmY, hcY, -, hlY, -, -, -, -⟩ := Cond.code_spec hn h2
  obtain ⟨kY, hkY, -⟩ := className_of_methodNamed hn
  have hinitY : kY.init = .initialized := Cond.initialized_spec (findClass_of_methodNamed hn) hkY h3
  have h : At U g.method c below := by rw [hg]; exact X.here
  have hlocals9 : W9 + (maxL + 11) + (headSpec ws rm).room.locals ≤ R.locals := hlocals
  have happ : (headSpec ws rm).appliesLoose y e.platform (U.calling g mk a) = true :=
    Spec.appliesLoose_calling (g := g) h hdg hn hkY hinitY
      (X.room_calling (g := g) (R' := (headSpec ws rm).room) hsize hmY hcY hframes (by rw [hlY]; omega) h4 h5) h1
  obtain ⟨mid, hmid⟩ := h.above
  have hfr : (U.setTop g).frames = (.java g :: mid) ++ below := by rw [State.frames_setTop' g h.top, hmid]; rfl
  obtain ⟨o, s₂, hsteps, -, hend, hq⟩ := Steps.callFree hM p X.admits X.cas X.clock (acts := []) hfr happ hPc trivial
  have hq' : vx_Q Qc XC mc ms free a (U.calling g mk a) o s₂ := hq
  rw [State.frames_setTop' g h.top] at hend
  obtain ⟨g₀, hg0⟩ := Option.isSome_iff_exists.mp h.top
  obtain ⟨r, hr⟩ := State.topJava?_eq_some.mp hg0
  have hr' : (({ U with heap := s₂.heap, slotsUsed := s₂.slotsUsed } : State).setVm s₂.vm).frames = .java g₀ :: r := hr
  rcases hq' with ⟨hqc, L, hfe, hL⟩ | ⟨q, rfl, E, ce, L, hx, hce, hcv, hcl, hW₂, hsm, hL⟩
  · obtain ⟨⟨v, rfl⟩, hW₂, e2, q2, q3, q4, q5, q6⟩ := id hfe
    have e3 : s₂ = ({ (U.calling g mk a).setFrames s₂.frames with heap := s₂.heap, slotsUsed := s₂.slotsUsed } : State).setVm s₂.vm := by
      have : s₂ = ({ s₂ with vm := (U.calling g mk a).vm } : State).setVm s₂.vm := rfl
      rw [e2] at this
      exact this
    obtain ⟨c₂, i₂, len₂, hc₂, hd₂, hf₂⟩ := hend
    have hW' : U.WarmedH s₂.vm := hW₂
    have hcc : c₂ = c := by
      have h1 : s₂.code? g.method = U.code? g.method := by
        rw [State.code?_eq, State.code?_eq, hW'.alike.method?]
      exact Option.some.inj (hc₂.symm.trans (h1.trans h.code))
    subst hcc
    have hlen : len₂ = len := by rw [hdg] at hd₂; cases hd₂; rfl
    subst hlen
    have hs₂ : s₂ = (({ U with heap := s₂.heap, slotsUsed := s₂.slotsUsed } : State).setVm s₂.vm).setTop { g with pc := g.pc + len₂, stack := v.toList ++ g.stack } := by
      refine e3.trans ?_
      rw [hf₂, State.calling_eq h.top, State.setFrames_setFrames, State.setTop_of_frames _ hr', hr]
      rfl
    have hsame : U.sameButNew ({ U with heap := s₂.heap, slotsUsed := s₂.slotsUsed } : State) L mc ms := by
      refine ⟨?_, q2, q3, q4, q5, q6⟩
      obtain ⟨t, ht, -⟩ := State.frames_cons hr
      show ({ U with heap := s₂.heap, slotsUsed := s₂.slotsUsed } : State) = { U.setFrames U.frames with heap := s₂.heap, slotsUsed := s₂.slotsUsed }
      rw [State.setFrames_self ht]
    subst hg
    refine Or.inl ⟨v, ⟨(({ U with heap := s₂.heap, slotsUsed := s₂.slotsUsed } : State).setVm s₂.vm), Ls ++ L, c0 + mc, s0 + ms⟩,
      ⟨X.admits, X.cas, X.clock, X.frames, X.room, X.hears, X.method, X.code, (X.here.setHeapUsed s₂.heap s₂.slotsUsed).setVm hW'.alike, X.tail, State.WarmedH.trans X.warmed hW', X.limits, X.bytes, X.same.trans (hsame.setVm s.vm)⟩,
      ⟨g, mk, s₂, L, rfl, rfl, hqc, rfl, hL, rfl, rfl⟩, ?_⟩
    show Steps p.tables e below _ ((({ U with heap := s₂.heap, slotsUsed := s₂.slotsUsed } : State).setVm s₂.vm).setTop { g with pc := g.pc + len₂, stack := v.toList ++ g.stack })
    rw [← hs₂]
    exact hsteps
  · obtain ⟨e2, q2, q3, q4, q5, q6⟩ := id hsm
    have e3 : s₂ = ({ (U.calling g mk a).setFrames s₂.frames with heap := s₂.heap, slotsUsed := s₂.slotsUsed } : State).setVm s₂.vm := by
      have : s₂ = ({ s₂ with vm := (U.calling g mk a).vm } : State).setVm s₂.vm := rfl
      rw [e2] at this
      exact this
    have hf₂ : s₂.frames = .throwing q :: .java g :: U.frames.tail := hend
    have hW' : U.WarmedH s₂.vm := hW₂
    have hs₂ : s₂ = ((({ U with heap := s₂.heap, slotsUsed := s₂.slotsUsed } : State).setVm s₂.vm).setTop g).pushFrame (.throwing q) := by
      refine e3.trans ?_
      rw [hf₂, State.calling_eq h.top, State.setFrames_setFrames, State.pushFrame, State.frames_setTop _ hr', State.setTop_of_frames _ hr', State.setFrames_setFrames, hr]
      rfl
    have hsame : U.sameButNew ({ U with heap := s₂.heap, slotsUsed := s₂.slotsUsed } : State) L mc ms := by
      refine ⟨?_, q2, q3, q4, q5, q6⟩
      obtain ⟨t, ht, -⟩ := State.frames_cons hr
      show ({ U with heap := s₂.heap, slotsUsed := s₂.slotsUsed } : State) = { U.setFrames U.frames with heap := s₂.heap, slotsUsed := s₂.slotsUsed }
      rw [State.setFrames_self ht]
    subst hg
    refine Or.inr ⟨q, ⟨(({ U with heap := s₂.heap, slotsUsed := s₂.slotsUsed } : State).setVm s₂.vm), Ls ++ L, c0 + mc, s0 + ms⟩,
      ⟨X.admits, X.cas, X.clock, X.frames, X.room, X.hears, X.method, X.code, (X.here.setHeapUsed s₂.heap s₂.slotsUsed).setVm hW'.alike, X.tail, State.WarmedH.trans X.warmed hW', X.limits, X.bytes, X.same.trans (hsame.setVm s.vm)⟩,
      ⟨g, mk, s₂, L, E, ce, rfl, rfl, hx, hce, hcv, hcl, rfl, hL, rfl, rfl⟩, ?_⟩
    show Steps p.tables e below _ (((({ U with heap := s₂.heap, slotsUsed := s₂.slotsUsed } : State).setVm s₂.vm).setTop g).pushFrame (.throwing q))
    rw [← hs₂]
    exact hsteps
end Payer
section Calls
variable {p : Program} {l : Launch} {e : Env} {R : Room} {s : State} {m : MethodId} {args : Array Value} {below : List Frame} {meth : Method} {c : Code} {T : State} {locs : List Loc} {cells slots : Nat}
theorem vx_callV (X : Stand p l e R s m args below meth c T locs cells slots) (hexec : p.tables.exec = Jvm.exec) {own C : String} {index : Nat} {y : MethodName} {bytes : ByteArray} {maxL : Nat} {ret : Option FieldType}
    (hown : s.vm.findClass own = some m.cls) (hlink : (Cond.methodLink own index y).before args s = true) (hinst : (Cond.instanceMethod y).before args s = true) (hsel : (Cond.selects C y y).before args s = true)
    (hcode : (Cond.code y bytes maxL ret).before args s = true) (hy : y.cls ≠ "java/lang/invoke/MethodHandle" ∧ y.cls ≠ "java/lang/invoke/VarHandle")
    {W9 : Nat} {Pre : Pt → Array Value → Prop} {Post : Pt → Array Value → Option Value → Pt → Prop} {PostX : Pt → Array Value → Addr → Pt → Prop} (hK : vx_Back l R p e below s args y 3 W9 Pre Post PostX)
    {b : Addr} {cellB : Cell} (hcell : T.heap[b]? = some cellB) (hobj : cellB.vm.isStatics = false) (hcls : s.vm.findClass C = some cellB.cls)
    {g : JFrame} (hg : g.method = m) (hsize : g.locals.size = c.maxLocals) {argsL rest : List Value} (hlen : ∀ sig, parseMethodDescriptor y.desc = some sig → argsL.length = sig.parameters.length)
    (hstack : g.stack = argsL.reverse ++ .ref b :: rest) (hW : 2 * g.monitorRoom + (rest.map fun v => v.category).sum ≤ W9) (hdg : decode c.code g.pc = .ok (.invokevirtual index, 3))
    (hpre : ∀ vm₁, s.WarmedH vm₁ → Pre ⟨T.setVm vm₁, locs, cells, slots⟩ (Value.ref b :: argsL).toArray) :
    (∃ (v : Option Value) (vm₁ : Vm) (B : Pt), s.WarmedH vm₁ ∧ Stand p l e R s m args below meth c B.U B.locs B.cells B.slots ∧ Post ⟨T.setVm vm₁, locs, cells, slots⟩ (Value.ref b :: argsL).toArray v B ∧
      ∀ target, Steps p.tables e below (B.U.setTop { g with pc := g.pc + 3, stack := v.toList ++ rest }) target → Steps p.tables e below (T.setTop g) target) ∨
    (∃ (q : Addr) (vm₁ : Vm) (B : Pt), s.WarmedH vm₁ ∧ Stand p l e R s m args below meth c B.U B.locs B.cells B.slots ∧ PostX ⟨T.setVm vm₁, locs, cells, slots⟩ (Value.ref b :: argsL).toArray q B ∧
      Steps p.tables e below (T.setTop g) ((B.U.setTop { g with stack := rest }).pushFrame (.throwing q))) := by
  obtain ⟨mk, methM, hnamed, hmethM, hstM, habM⟩ := Cond.instanceMethod_spec hinst
  obtain ⟨methM', cM, hmethM', -, -, -, -, -, -, hsigM⟩ := Cond.code_spec hnamed hcode
  cases hmethM.symm.trans hmethM'
  obtain ⟨c2, r2, m2, q1, q2, q3, q4, kP, hkP, hkPi⟩ := Cond.selects_spec hsel
  cases hcls.symm.trans q1
  cases (State.methodFound?_of_named hnamed hy).symm.trans q2
  cases hnamed.symm.trans q3
  have hselP : selectMethod e.platform s.vm cellB.cls mk = .method mk := by rw [Launch.admits_selectMethod X.admits]; exact q4
  obtain ⟨vm₁, X₁, hstep₁⟩ := X.invokevirtual hexec hown hlink hnamed hmethM hstM hkP hkPi hy (a := b) (cell := cellB) hcell
    (fun z h => by rw [h] at hobj; cases hobj) hselP hmethM habM hkP hkPi (g := g) hg (argsL := argsL) (rest := rest) (hlen _ hsigM) hstack hdg
  rcases hK m meth c ⟨T.setVm vm₁, locs, cells, slots⟩ { g with stack := rest } (.invokevirtual index) mk (Value.ref b :: argsL).toArray X₁ hg hsize hdg hW (X₁.named hnamed) (hpre vm₁ X₁.warmed) with ⟨v, B, X', hpost, hsteps⟩ | ⟨q, B, X', hpost, hsteps⟩
  · exact Or.inl ⟨v, vm₁, B, X₁.warmed, X', hpost, fun target h => hstep₁ _ fun acts => by rw [doInvoke_state]; exact hsteps.trans h⟩
  · exact Or.inr ⟨q, vm₁, B, X₁.warmed, X', hpost, hstep₁ _ fun acts => by rw [doInvoke_state]; exact hsteps⟩
theorem vx_callS (X : Stand p l e R s m args below meth c T locs cells slots) (hexec : p.tables.exec = Jvm.exec) {own : String} {index : Nat} {y : MethodName} {bytes : ByteArray} {maxL : Nat} {ret : Option FieldType}
    (hown : s.vm.findClass own = some m.cls) (hlink : (Cond.methodLink own index y).before args s = true) (hstat : (Cond.static y).before args s = true) (hinit : (Cond.initialized y.cls).before args s = true)
    (hcode : (Cond.code y bytes maxL ret).before args s = true) (hy : y.cls ≠ "java/lang/invoke/MethodHandle" ∧ y.cls ≠ "java/lang/invoke/VarHandle")
    {W9 : Nat} {Pre : Pt → Array Value → Prop} {Post : Pt → Array Value → Option Value → Pt → Prop} {PostX : Pt → Array Value → Addr → Pt → Prop} (hK : vx_Back l R p e below s args y 3 W9 Pre Post PostX)
    {g : JFrame} (hg : g.method = m) (hsize : g.locals.size = c.maxLocals) {argsL rest : List Value} (hlen : ∀ sig, parseMethodDescriptor y.desc = some sig → argsL.length = sig.parameters.length)
    (hstack : g.stack = argsL.reverse ++ rest) (hW : 2 * g.monitorRoom + (rest.map fun v => v.category).sum ≤ W9) (hdg : decode c.code g.pc = .ok (.invokestatic index, 3))
    (hpre : ∀ vm₁, s.WarmedH vm₁ → Pre ⟨T.setVm vm₁, locs, cells, slots⟩ argsL.toArray) :
    (∃ (v : Option Value) (vm₁ : Vm) (B : Pt), s.WarmedH vm₁ ∧ Stand p l e R s m args below meth c B.U B.locs B.cells B.slots ∧ Post ⟨T.setVm vm₁, locs, cells, slots⟩ argsL.toArray v B ∧
      ∀ target, Steps p.tables e below (B.U.setTop { g with pc := g.pc + 3, stack := v.toList ++ rest }) target → Steps p.tables e below (T.setTop g) target) ∨
    (∃ (q : Addr) (vm₁ : Vm) (B : Pt), s.WarmedH vm₁ ∧ Stand p l e R s m args below meth c B.U B.locs B.cells B.slots ∧ PostX ⟨T.setVm vm₁, locs, cells, slots⟩ argsL.toArray q B ∧
      Steps p.tables e below (T.setTop g) ((B.U.setTop { g with stack := rest }).pushFrame (.throwing q))) := by
  obtain ⟨mk, hnamed⟩ := Cond.code_named hcode
  obtain ⟨methM, cM, hmethM, -, -, -, -, -, -, hsigM⟩ := Cond.code_spec hnamed hcode
  have hstatic : methM.isStatic = true := Cond.static_spec hnamed hmethM hstat
  obtain ⟨kP, hkP, -⟩ := className_of_methodNamed hnamed
  have hinitP : kP.init = .initialized := Cond.initialized_spec (findClass_of_methodNamed hnamed) hkP hinit
  obtain ⟨vm₁, X₁, hstep₁⟩ := X.invokestatic hexec hown hlink hnamed hmethM hstatic hkP hinitP hy (g := g) hg (argsL := argsL) (rest := rest) (hlen _ hsigM) hstack hdg
  rcases hK m meth c ⟨T.setVm vm₁, locs, cells, slots⟩ { g with stack := rest } (.invokestatic index) mk argsL.toArray X₁ hg hsize hdg hW (X₁.named hnamed) (hpre vm₁ X₁.warmed) with ⟨v, B, X', hpost, hsteps⟩ | ⟨q, B, X', hpost, hsteps⟩
  · exact Or.inl ⟨v, vm₁, B, X₁.warmed, X', hpost, fun target h => hstep₁ _ fun acts => by rw [doInvoke_state]; exact hsteps.trans h⟩
  · exact Or.inr ⟨q, vm₁, B, X₁.warmed, X', hpost, hstep₁ _ fun acts => by rw [doInvoke_state]; exact hsteps⟩
end Calls
theorem vx_cls {s : State} {T : State} {vm₁ : Vm} {E : String} {k : ClassId} (hW : s.WarmedH vm₁) (h : (T.setVm vm₁).vm.findClass E = some k) : s.vm.findClass E = some k := by
  have h1 : vm₁.findClass E = some k := h
  rw [hW.alike.findClass] at h1
  exact h1
/-- the method's frame g, with q thrown over it -/
def vx_W (p : Program) (l : Launch) (e : Env) (R : Room) (s : State) (m : MethodId) (args : Array Value) (below : List Frame) (meth : Method) (c : Code) (H : Heap) (locs : List Loc) (cells slots : Nat) (Q : State → Prop) (g : JFrame) (q : Addr) : Prop :=
  ∀ T : State, T.heap = H → Stand p l e R s m args below meth c T locs cells slots → ∃ t, Steps p.tables e below ((T.setTop g).pushFrame (.throwing q)) t ∧ Q t
def vx_Run (p : Program) (l : Launch) (e : Env) (R : Room) (s : State) (m : MethodId) (args : Array Value) (below : List Frame) (meth : Method) (c : Code) (H : Heap) (locs : List Loc) (cells slots mc ms : Nat) (g : JFrame) (rest : List Value) (Qa : State → Outcome → State → Prop) (XC : String → State → State → Prop) (free : Addr → Prop) : Prop :=
  ∀ T : State, T.heap = H → Stand p l e R s m args below meth c T locs cells slots →
    (∃ (v : Option Value) (st₀ t T' : State) (L : List Loc), st₀.heap = H ∧ Stand p l e R s m args below meth c T' (locs ++ L) (cells + mc) (slots + ms) ∧ (∀ q ∈ L, free q.base) ∧ T'.heap = t.heap ∧ T'.vm = t.vm ∧ Qa st₀ (.returned v) t ∧
      Goes p e below T g T' { g with pc := g.pc + 3, stack := v.toList ++ rest }) ∨
    (∃ (q : Addr) (st₀ t T' : State) (L : List Loc) (E : String) (ce : Cell), st₀.heap = H ∧ Stand p l e R s m args below meth c T' (locs ++ L) (cells + mc) (slots + ms) ∧ (∀ z ∈ L, free z.base) ∧ T'.heap = t.heap ∧ T'.vm = t.vm ∧ XC E st₀ t ∧ t.heap[q]? = some ce ∧ ce.vm = .none ∧ s.vm.findClass E = some ce.cls ∧
      Steps p.tables e below (T.setTop g) ((T'.setTop { g with stack := rest }).pushFrame (.throwing q)))
def vx_X {S : Type} (px : S → Prop) (B : String → S → State → Prop) (A : Nat → Prop) : String → State → State → Prop := fun E st t => ∃ u : S, px u ∧ B E u t ∧ va_F A st t
section Runs
variable {p : Program} {l : Launch} {e : Env} {R : Room} {s : State} {m : MethodId} {args : Array Value} {below : List Frame} {meth : Method} {c : Code} {H : Heap} {locs : List Loc} {cells slots : Nat}
variable {y : MethodName} {bytes cc : ByteArray} {maxL nL mc ms n index : Nat} {ret : Option FieldType} {ws : List Cond} {rm : Room} {Pc : Array Value → State → Prop} {Qc : Array Value → State → Outcome → State → Prop} {XC : String → State → State → Prop} {free : Addr → Prop} {Ts : List Cond} {own C : String} {b : Addr} {As rest : List Value} {g : JFrame}
theorem vx_callBack (cb : CallB R s args own index y bytes maxL ret ws rm mc ms n) (hM : vx_Met l y ws rm Pc Qc XC mc ms free) (hbl : FrameBlind Pc) : vx_Back l R p e below s args y 3 8 (PreOf R mc ms Pc) (PostOf Qc mc ms free) (vx_Post XC mc ms free) := by
  obtain ⟨hrc, hrs, hfr, hlo, hws, hcw, -, hini, -⟩ := cb
  exact vx_back (bytes := bytes) (maxL := maxL) (ret := ret) hM hbl hrc hrs hfr hlo hws hcw (fun a' U hW => word_at hW (Or.inl (by first | rfl | simp [Cond.onTables, Cond.keeps, Cond.steady])) hini)
theorem vx_runV (S : CallFix p m c cc nL s args Ts own) (hM : vx_Met l y ws rm Pc Qc XC mc ms free) (cw : CallW R s args own C index y bytes maxL ret ws rm mc ms n) (hp : PreV s H C b Pc As)
    (hg : g.method = m) (hn : As.length = n) (hsize : g.locals.size = nL) (hstack : g.stack = As.reverse ++ .ref b :: rest) (hW : 2 * g.monitorRoom + (rest.map fun v => v.category).sum ≤ 8) (hdg : decode cc g.pc = .ok (.invokevirtual index, 3)) (hf : cells + mc ≤ R.cells ∧ slots + ms ≤ R.slots) :
    vx_Run p l e R s m args below meth c H locs cells slots mc ms g rest (Qc (Value.ref b :: As).toArray) XC free := by
  have hK : vx_Back l R p e below s args y 3 8 (PreOf R mc ms Pc) (PostOf Qc mc ms free) (vx_Post XC mc ms free) := vx_callBack cw.1 hM hp.1
  obtain ⟨⟨-, -, -, -, -, -, hcode, -, hy, hlen, hl⟩, hin, hse⟩ := cw
  obtain ⟨hx, hb, hml, ho, -⟩ := S
  obtain ⟨-, ⟨cellB, hcB, hoB, hclB⟩, hPc⟩ := hp
  intro T hT X
  rcases vx_callV X hx (C := C) (bytes := bytes) (maxL := maxL) (ret := ret) ho hl hin hse hcode hy hK (by rw [hT]; exact hcB) hoB hclB hg (hsize.trans hml.symm) (argsL := As) (rest := rest) (fun sig h => hn.trans (hlen sig h)) hstack hW (by rw [hb]; exact hdg)
    (fun vm₁ hW₁ => ⟨hf.1, hf.2, hPc (T.setVm vm₁) hT hW₁⟩) with ⟨v, vm₁, ⟨U', l2, c2, s2⟩, hW₁, X', ⟨g', mk, t, L, e1, e2, hq, h1, hL, h2, h3⟩, st⟩ | ⟨q, vm₁, ⟨U', l2, c2, s2⟩, hW₁, X', ⟨g', mk, t, L, E, ce, e1, e2, hq, hce, hcv, hcl, h1, hL, h2, h3⟩, st⟩
  · dsimp only [Pt.U, Pt.locs, Pt.cells, Pt.slots] at X' e1 e2 h1 h2 h3 st
    subst h1; subst h2; subst h3
    exact Or.inl ⟨v, (T.setVm vm₁).calling g' mk (Value.ref b :: As).toArray, t, U', L, hT, X', hL, e1, e2, hq, st⟩
  · dsimp only [Pt.U, Pt.locs, Pt.cells, Pt.slots] at X' e1 e2 h1 h2 h3 st hcl
    subst h1; subst h2; subst h3
    exact Or.inr ⟨q, (T.setVm vm₁).calling g' mk (Value.ref b :: As).toArray, t, U', L, E, ce, hT, X', hL, e1, e2, hq, hce, hcv, vx_cls hW₁ hcl, st⟩
theorem vx_runS (S : CallFix p m c cc nL s args Ts own) (hM : vx_Met l y ws rm Pc Qc XC mc ms free) (cw : CallB R s args own index y bytes maxL ret ws rm mc ms n ∧ (Cond.static y).before args s = true) (hp : PreS s H Pc As)
    (hg : g.method = m) (hn : As.length = n) (hsize : g.locals.size = nL) (hstack : g.stack = As.reverse ++ rest) (hW : 2 * g.monitorRoom + (rest.map fun v => v.category).sum ≤ 8) (hdg : decode cc g.pc = .ok (.invokestatic index, 3)) (hf : cells + mc ≤ R.cells ∧ slots + ms ≤ R.slots) :
    vx_Run p l e R s m args below meth c H locs cells slots mc ms g rest (Qc As.toArray) XC free := by
  have hK : vx_Back l R p e below s args y 3 8 (PreOf R mc ms Pc) (PostOf Qc mc ms free) (vx_Post XC mc ms free) := vx_callBack cw.1 hM hp.1
  obtain ⟨⟨-, -, -, -, -, -, hcode, hini, hy, hlen, hl⟩, hstt⟩ := cw
  obtain ⟨hx, hb, hml, ho, -⟩ := S
  intro T hT X
  rcases vx_callS X hx (bytes := bytes) (maxL := maxL) (ret := ret) ho hl hstt hini hcode hy hK hg (hsize.trans hml.symm) (argsL := As) (rest := rest) (fun sig h => hn.trans (hlen sig h)) hstack hW (by rw [hb]; exact hdg)
    (fun vm₁ hW₁ => ⟨hf.1, hf.2, hp.2 (T.setVm vm₁) hT hW₁⟩) with ⟨v, vm₁, ⟨U', l2, c2, s2⟩, hW₁, X', ⟨g', mk, t, L, e1, e2, hq, h1, hL, h2, h3⟩, st⟩ | ⟨q, vm₁, ⟨U', l2, c2, s2⟩, hW₁, X', ⟨g', mk, t, L, E, ce, e1, e2, hq, hce, hcv, hcl, h1, hL, h2, h3⟩, st⟩
  · dsimp only [Pt.U, Pt.locs, Pt.cells, Pt.slots] at X' e1 e2 h1 h2 h3 st
    subst h1; subst h2; subst h3
    exact Or.inl ⟨v, (T.setVm vm₁).calling g' mk As.toArray, t, U', L, hT, X', hL, e1, e2, hq, st⟩
  · dsimp only [Pt.U, Pt.locs, Pt.cells, Pt.slots] at X' e1 e2 h1 h2 h3 st hcl
    subst h1; subst h2; subst h3
    exact Or.inr ⟨q, (T.setVm vm₁).calling g' mk As.toArray, t, U', L, E, ce, hT, X', hL, e1, e2, hq, hce, hcv, vx_cls hW₁ hcl, st⟩
end Runs
section Rows
variable {p : Program} {l : Launch} {e : Env} {R : Room} {s : State} {m : MethodId} {args : Array Value} {below : List Frame} {meth : Method} {c : Code} {H : Heap} {locs : List Loc} {cells slots : Nat} {Q : State → Prop}
variable {mc ms : Nat} {free : Addr → Prop} {A0 A1 : Nat → Prop} {H0 : Heap} {a : Array Value} {pc : Nat} {ls : Array Slot} {st0 rest : List Value}
theorem vx_keep {st₀ t T' : State} {L : List Loc} (h0 : st₀.heap = H) (e1 : T'.heap = t.heap) (hS : va_S A0 H0 H locs) (hA : ∀ q, q < H.size → A1 q → A0 q) (hf : ∀ q, free q → A0 q) (hL : ∀ q ∈ L, free q.base) (hF : va_F A1 st₀ t) :
    H.size ≤ T'.heap.size ∧ (∀ q : Nat, q < H.size → ¬ A1 q → T'.heap[q]? = H[q]?) ∧ va_S A0 H0 T'.heap (locs ++ L) := by
  obtain ⟨hz, hk⟩ := hF
  rw [h0] at hz hk
  exact ⟨by rw [e1]; exact hz, fun q h1 h2 => by rw [e1]; exact hk q h1 h2,
    ⟨Nat.le_trans hS.1 (by rw [e1]; exact hz), fun q h1 h2 => by rw [e1, hk q (Nat.lt_of_lt_of_le h1 hS.1) (fun z => h2 (hA q (Nat.lt_of_lt_of_le h1 hS.1) z))]; exact hS.2.1 q h1 h2, fun q hq => by
      rcases List.mem_append.mp hq with h | h
      · exact hS.2.2 q h
      · exact hf _ (hL q h)⟩⟩
theorem vx_calli {S SX : Type} {post : Int32 → S → Prop} {px : SX → Prop} {B : S → State → Prop} {BX : String → SX → State → Prop} {AX : Nat → Prop} (hr : vx_Run p l e R s m args below meth c H locs cells slots mc ms (F0 m pc ls st0) rest (va_Qi post B A1 a) (vx_X px BX AX) free) (hS : va_S A0 H0 H locs) (hA : ∀ q, q < H.size → A1 q → A0 q) (hf : ∀ q, free q → A0 q) (hAX : ∀ q, q < H.size → AX q → A0 q)
    (kx : ∀ (E : String) (ce : Cell) (q9 : Addr) (u : SX) (t : State) (H1 : Heap) (locs1 : List Loc), t.heap = H1 → s.vm.Alike t.vm → px u → BX E u t → H.size ≤ H1.size → (∀ q : Nat, q < H.size → ¬ AX q → H1[q]? = H[q]?) → va_S A0 H0 H1 locs1 → H1[q9]? = some ce → ce.vm = .none → s.vm.findClass E = some ce.cls → vx_W p l e R s m args below meth c H1 locs1 (cells + mc) (slots + ms) Q (F0 m pc ls rest) q9)
    (kk : ∀ (r : Int32) (u : S) (t : State) (H1 : Heap) (locs1 : List Loc), t.heap = H1 → s.vm.Alike t.vm → post r u → B u t → H.size ≤ H1.size → (∀ q : Nat, q < H.size → ¬ A1 q → H1[q]? = H[q]?) → va_S A0 H0 H1 locs1 → W p l e R s m args below meth c H1 locs1 (cells + mc) (slots + ms) Q (F0 m (pc + 3) ls (.int r :: rest))) : W p l e R s m args below meth c H locs cells slots Q (F0 m pc ls st0) := by
  intro T hT X
  rcases hr T hT X with ⟨v, st₀, t, T', L, h0, X', hL, e1, e2, ⟨⟨r, u, hv, hp, hb⟩, hF⟩, st⟩ | ⟨q, st₀, t, T', L, E, ce, h0, X', hL, e1, e2, ⟨u, hp, hb, hF⟩, hce, hcv, hcl, st⟩
  · cases hv
    obtain ⟨k1, k2, k3⟩ := vx_keep h0 e1 hS hA hf hL hF
    obtain ⟨t2, a1, b1⟩ := kk r u t T'.heap (locs ++ L) e1.symm (by rw [← e2]; exact X'.warmed.alike) hp hb k1 k2 k3 T' rfl X'
    exact ⟨t2, st t2 a1, b1⟩
  · obtain ⟨k1, k2, k3⟩ := vx_keep h0 e1 hS hAX hf hL hF
    obtain ⟨t2, a1, b1⟩ := kx E ce q u t T'.heap (locs ++ L) e1.symm (by rw [← e2]; exact X'.warmed.alike) hp hb k1 k2 k3 (by rw [e1]; exact hce) hcv hcl T' rfl X'
    exact ⟨t2, st.trans a1, b1⟩
theorem vx_calll {S SX : Type} {post : Int64 → S → Prop} {px : SX → Prop} {B : S → State → Prop} {BX : String → SX → State → Prop} {AX : Nat → Prop} (hr : vx_Run p l e R s m args below meth c H locs cells slots mc ms (F0 m pc ls st0) rest (va_Ql post B A1 a) (vx_X px BX AX) free) (hS : va_S A0 H0 H locs) (hA : ∀ q, q < H.size → A1 q → A0 q) (hf : ∀ q, free q → A0 q) (hAX : ∀ q, q < H.size → AX q → A0 q)
    (kx : ∀ (E : String) (ce : Cell) (q9 : Addr) (u : SX) (t : State) (H1 : Heap) (locs1 : List Loc), t.heap = H1 → s.vm.Alike t.vm → px u → BX E u t → H.size ≤ H1.size → (∀ q : Nat, q < H.size → ¬ AX q → H1[q]? = H[q]?) → va_S A0 H0 H1 locs1 → H1[q9]? = some ce → ce.vm = .none → s.vm.findClass E = some ce.cls → vx_W p l e R s m args below meth c H1 locs1 (cells + mc) (slots + ms) Q (F0 m pc ls rest) q9)
    (kk : ∀ (r : Int64) (u : S) (t : State) (H1 : Heap) (locs1 : List Loc), t.heap = H1 → s.vm.Alike t.vm → post r u → B u t → H.size ≤ H1.size → (∀ q : Nat, q < H.size → ¬ A1 q → H1[q]? = H[q]?) → va_S A0 H0 H1 locs1 → W p l e R s m args below meth c H1 locs1 (cells + mc) (slots + ms) Q (F0 m (pc + 3) ls (.long r :: rest))) : W p l e R s m args below meth c H locs cells slots Q (F0 m pc ls st0) := by
  intro T hT X
  rcases hr T hT X with ⟨v, st₀, t, T', L, h0, X', hL, e1, e2, ⟨⟨r, u, hv, hp, hb⟩, hF⟩, st⟩ | ⟨q, st₀, t, T', L, E, ce, h0, X', hL, e1, e2, ⟨u, hp, hb, hF⟩, hce, hcv, hcl, st⟩
  · cases hv
    obtain ⟨k1, k2, k3⟩ := vx_keep h0 e1 hS hA hf hL hF
    obtain ⟨t2, a1, b1⟩ := kk r u t T'.heap (locs ++ L) e1.symm (by rw [← e2]; exact X'.warmed.alike) hp hb k1 k2 k3 T' rfl X'
    exact ⟨t2, st t2 a1, b1⟩
  · obtain ⟨k1, k2, k3⟩ := vx_keep h0 e1 hS hAX hf hL hF
    obtain ⟨t2, a1, b1⟩ := kx E ce q u t T'.heap (locs ++ L) e1.symm (by rw [← e2]; exact X'.warmed.alike) hp hb k1 k2 k3 (by rw [e1]; exact hce) hcv hcl T' rfl X'
    exact ⟨t2, st.trans a1, b1⟩
theorem vx_callf {S SX : Type} {post : UInt32 → S → Prop} {px : SX → Prop} {B : S → State → Prop} {BX : String → SX → State → Prop} {AX : Nat → Prop} (hr : vx_Run p l e R s m args below meth c H locs cells slots mc ms (F0 m pc ls st0) rest (va_Qf post B A1 a) (vx_X px BX AX) free) (hS : va_S A0 H0 H locs) (hA : ∀ q, q < H.size → A1 q → A0 q) (hf : ∀ q, free q → A0 q) (hAX : ∀ q, q < H.size → AX q → A0 q)
    (kx : ∀ (E : String) (ce : Cell) (q9 : Addr) (u : SX) (t : State) (H1 : Heap) (locs1 : List Loc), t.heap = H1 → s.vm.Alike t.vm → px u → BX E u t → H.size ≤ H1.size → (∀ q : Nat, q < H.size → ¬ AX q → H1[q]? = H[q]?) → va_S A0 H0 H1 locs1 → H1[q9]? = some ce → ce.vm = .none → s.vm.findClass E = some ce.cls → vx_W p l e R s m args below meth c H1 locs1 (cells + mc) (slots + ms) Q (F0 m pc ls rest) q9)
    (kk : ∀ (r : UInt32) (u : S) (t : State) (H1 : Heap) (locs1 : List Loc), t.heap = H1 → s.vm.Alike t.vm → post r u → B u t → H.size ≤ H1.size → (∀ q : Nat, q < H.size → ¬ A1 q → H1[q]? = H[q]?) → va_S A0 H0 H1 locs1 → W p l e R s m args below meth c H1 locs1 (cells + mc) (slots + ms) Q (F0 m (pc + 3) ls (.float r :: rest))) : W p l e R s m args below meth c H locs cells slots Q (F0 m pc ls st0) := by
  intro T hT X
  rcases hr T hT X with ⟨v, st₀, t, T', L, h0, X', hL, e1, e2, ⟨⟨r, u, hv, hp, hb⟩, hF⟩, st⟩ | ⟨q, st₀, t, T', L, E, ce, h0, X', hL, e1, e2, ⟨u, hp, hb, hF⟩, hce, hcv, hcl, st⟩
  · cases hv
    obtain ⟨k1, k2, k3⟩ := vx_keep h0 e1 hS hA hf hL hF
    obtain ⟨t2, a1, b1⟩ := kk r u t T'.heap (locs ++ L) e1.symm (by rw [← e2]; exact X'.warmed.alike) hp hb k1 k2 k3 T' rfl X'
    exact ⟨t2, st t2 a1, b1⟩
  · obtain ⟨k1, k2, k3⟩ := vx_keep h0 e1 hS hAX hf hL hF
    obtain ⟨t2, a1, b1⟩ := kx E ce q u t T'.heap (locs ++ L) e1.symm (by rw [← e2]; exact X'.warmed.alike) hp hb k1 k2 k3 (by rw [e1]; exact hce) hcv hcl T' rfl X'
    exact ⟨t2, st.trans a1, b1⟩
theorem vx_calld {S SX : Type} {post : UInt64 → S → Prop} {px : SX → Prop} {B : S → State → Prop} {BX : String → SX → State → Prop} {AX : Nat → Prop} (hr : vx_Run p l e R s m args below meth c H locs cells slots mc ms (F0 m pc ls st0) rest (va_Qd post B A1 a) (vx_X px BX AX) free) (hS : va_S A0 H0 H locs) (hA : ∀ q, q < H.size → A1 q → A0 q) (hf : ∀ q, free q → A0 q) (hAX : ∀ q, q < H.size → AX q → A0 q)
    (kx : ∀ (E : String) (ce : Cell) (q9 : Addr) (u : SX) (t : State) (H1 : Heap) (locs1 : List Loc), t.heap = H1 → s.vm.Alike t.vm → px u → BX E u t → H.size ≤ H1.size → (∀ q : Nat, q < H.size → ¬ AX q → H1[q]? = H[q]?) → va_S A0 H0 H1 locs1 → H1[q9]? = some ce → ce.vm = .none → s.vm.findClass E = some ce.cls → vx_W p l e R s m args below meth c H1 locs1 (cells + mc) (slots + ms) Q (F0 m pc ls rest) q9)
    (kk : ∀ (r : UInt64) (u : S) (t : State) (H1 : Heap) (locs1 : List Loc), t.heap = H1 → s.vm.Alike t.vm → post r u → B u t → H.size ≤ H1.size → (∀ q : Nat, q < H.size → ¬ A1 q → H1[q]? = H[q]?) → va_S A0 H0 H1 locs1 → W p l e R s m args below meth c H1 locs1 (cells + mc) (slots + ms) Q (F0 m (pc + 3) ls (.double r :: rest))) : W p l e R s m args below meth c H locs cells slots Q (F0 m pc ls st0) := by
  intro T hT X
  rcases hr T hT X with ⟨v, st₀, t, T', L, h0, X', hL, e1, e2, ⟨⟨r, u, hv, hp, hb⟩, hF⟩, st⟩ | ⟨q, st₀, t, T', L, E, ce, h0, X', hL, e1, e2, ⟨u, hp, hb, hF⟩, hce, hcv, hcl, st⟩
  · cases hv
    obtain ⟨k1, k2, k3⟩ := vx_keep h0 e1 hS hA hf hL hF
    obtain ⟨t2, a1, b1⟩ := kk r u t T'.heap (locs ++ L) e1.symm (by rw [← e2]; exact X'.warmed.alike) hp hb k1 k2 k3 T' rfl X'
    exact ⟨t2, st t2 a1, b1⟩
  · obtain ⟨k1, k2, k3⟩ := vx_keep h0 e1 hS hAX hf hL hF
    obtain ⟨t2, a1, b1⟩ := kx E ce q u t T'.heap (locs ++ L) e1.symm (by rw [← e2]; exact X'.warmed.alike) hp hb k1 k2 k3 (by rw [e1]; exact hce) hcv hcl T' rfl X'
    exact ⟨t2, st.trans a1, b1⟩
theorem vx_callv {S SX : Type} {post : S → Prop} {px : SX → Prop} {B : S → State → Prop} {BX : String → SX → State → Prop} {AX : Nat → Prop} (hr : vx_Run p l e R s m args below meth c H locs cells slots mc ms (F0 m pc ls st0) rest (va_Qv post B A1 a) (vx_X px BX AX) free) (hS : va_S A0 H0 H locs) (hA : ∀ q, q < H.size → A1 q → A0 q) (hf : ∀ q, free q → A0 q) (hAX : ∀ q, q < H.size → AX q → A0 q)
    (kx : ∀ (E : String) (ce : Cell) (q9 : Addr) (u : SX) (t : State) (H1 : Heap) (locs1 : List Loc), t.heap = H1 → s.vm.Alike t.vm → px u → BX E u t → H.size ≤ H1.size → (∀ q : Nat, q < H.size → ¬ AX q → H1[q]? = H[q]?) → va_S A0 H0 H1 locs1 → H1[q9]? = some ce → ce.vm = .none → s.vm.findClass E = some ce.cls → vx_W p l e R s m args below meth c H1 locs1 (cells + mc) (slots + ms) Q (F0 m pc ls rest) q9)
    (kk : ∀ (u : S) (t : State) (H1 : Heap) (locs1 : List Loc), t.heap = H1 → s.vm.Alike t.vm → post u → B u t → H.size ≤ H1.size → (∀ q : Nat, q < H.size → ¬ A1 q → H1[q]? = H[q]?) → va_S A0 H0 H1 locs1 → W p l e R s m args below meth c H1 locs1 (cells + mc) (slots + ms) Q (F0 m (pc + 3) ls (rest))) : W p l e R s m args below meth c H locs cells slots Q (F0 m pc ls st0) := by
  intro T hT X
  rcases hr T hT X with ⟨v, st₀, t, T', L, h0, X', hL, e1, e2, ⟨⟨u, hv, hp, hb⟩, hF⟩, st⟩ | ⟨q, st₀, t, T', L, E, ce, h0, X', hL, e1, e2, ⟨u, hp, hb, hF⟩, hce, hcv, hcl, st⟩
  · cases hv
    obtain ⟨k1, k2, k3⟩ := vx_keep h0 e1 hS hA hf hL hF
    obtain ⟨t2, a1, b1⟩ := kk u t T'.heap (locs ++ L) e1.symm (by rw [← e2]; exact X'.warmed.alike) hp hb k1 k2 k3 T' rfl X'
    exact ⟨t2, st t2 a1, b1⟩
  · obtain ⟨k1, k2, k3⟩ := vx_keep h0 e1 hS hAX hf hL hF
    obtain ⟨t2, a1, b1⟩ := kx E ce q u t T'.heap (locs ++ L) e1.symm (by rw [← e2]; exact X'.warmed.alike) hp hb k1 k2 k3 (by rw [e1]; exact hce) hcv hcl T' rfl X'
    exact ⟨t2, st.trans a1, b1⟩
/-- caught by the row x of this method's table; the rows ahead don't take it -/
theorem vx_catch {own name : String} {E : String} {ce : Cell} {q : Addr} (hown : s.vm.findClass own = some m.cls) (pre : List ExceptionTableEntry) (x : ExceptionTableEntry) (suf : List ExceptionTableEntry) (hsplit : c.exceptionTable.toList = pre ++ x :: suf)
    (hpass : ∀ z ∈ pre, covers z pc = false ∨ (z.catchType ≠ 0 ∧ ∃ nm : String, (Cond.classLink own z.catchType nm).before args s = true ∧ va_Nc E nm s)) (hx : covers x pc = true) (h0 : x.catchType ≠ 0)
    (hlink : (Cond.classLink own x.catchType name).before args s = true) (hcast : (Cond.castable E name).before args s = true) (hcell : H[q]? = some ce) (hv : ce.vm = .none) (hcl : s.vm.findClass E = some ce.cls)
    (kk : W p l e R s m args below meth c H locs cells slots Q (F0 m x.handlerPc ls [.ref q])) : vx_W p l e R s m args below meth c H locs cells slots Q (F0 m pc ls rest) q := by
  intro T hT X
  have hpl : e.platform.magicAccessors = ({} : Platform).magicAccessors := by rw [X.admits.platform]
  obtain ⟨c3, c4, hc3, hc4, hasg⟩ := Cond.castable_spec hcast
  cases Option.some.inj (hc3.symm.trans hcl)
  obtain ⟨c5, hc5, hcl5⟩ := Cond.classLink_spec hown hlink e.platform hpl
  cases Option.some.inj (hc4.symm.trans hc5)
  obtain ⟨vm', X', st⟩ := X.thenCaughtThrough q (g := F0 m pc ls rest) rfl (Steps.refl _) (by rw [hT]; exact hcell) (by rw [hv]; rfl) (by obtain ⟨k9, h9, -⟩ := Vm.findClass_spec hcl; exact ⟨k9, h9⟩) pre x suf hsplit
    (fun z hz => by
      rcases hpass z hz with h | ⟨hz0, nm, hl1, hn1⟩
      · exact Or.inl h
      · obtain ⟨c6, hc6, hcl6⟩ := Cond.classLink_spec hown hl1 e.platform hpl
        obtain ⟨a8, b8, h1, h2, h3⟩ := hn1
        cases Option.some.inj (h1.symm.trans hcl)
        cases Option.some.inj (h2.symm.trans hc6)
        exact Or.inr ⟨hz0, _, hcl6, h3⟩) hx (Or.inr ⟨h0, c4, hcl5, hasg⟩)
  obtain ⟨t, a1, b1⟩ := kk (T.setVm vm') hT X'
  exact ⟨t, st.trans a1, b1⟩
end Rows
section Ends
variable {p : Program} {l : Launch} {e : Env} {R : Room} {s : State} {m : MethodId} {args : Array Value} {below : List Frame} {meth : Method} {c : Code} {H : Heap} {locs : List Loc} {cells slots : Nat} {Q : State → Prop}
variable {mc ms : Nat} {free : Addr → Prop} {A0 A1 : Nat → Prop} {H0 : Heap} {a : Array Value} {ls : Array Slot} {st0 rest : List Value}
variable {Qc : Array Value → State → Outcome → State → Prop} {XC : String → State → State → Prop}
/-- what a body that may throw owes at its end -/
def vx_MQ (below : List Frame) (Qc : Array Value → State → Outcome → State → Prop) (XC : String → State → State → Prop) (a : Array Value) (s : State) (mc ms : Nat) (free : Addr → Prop) : State → Prop := fun t =>
  ∃ o, t.status = .running ∧ Ended t below o ∧ vx_Q Qc XC mc ms free a s o t
theorem vx_ret {g : JFrame} {mc ms : Nat} (k : W p l e R s m args below meth c H locs cells slots (MQ below Qc args s mc ms free) g) : W p l e R s m args below meth c H locs cells slots (vx_MQ below Qc XC args s mc ms free) g := by
  intro T hT X
  obtain ⟨t, a1, o, b1, b2, b3, b4⟩ := k T hT X
  exact ⟨t, a1, o, b1, b2, Or.inl ⟨b3, b4⟩⟩
/-- not caught here: it goes on to the caller -/
theorem vx_widen {g : JFrame} {q : Addr} {k n : Nat} (h1 : cells ≤ k) (h2 : slots ≤ n) (kk : vx_W p l e R s m args below meth c H locs k n Q g q) : vx_W p l e R s m args below meth c H locs cells slots Q g q := fun T hT X => kk T hT (stand_widen X h1 h2)
theorem vx_out {pc : Nat} {E : String} {ce : Cell} {q : Addr} {mc ms : Nat} (hout : ∀ x ∈ c.exceptionTable.toList, covers x pc = false) (hlocks : meth.locks = false) (hcell : H[q]? = some ce) (hv : ce.vm = .none) (hcl : s.vm.findClass E = some ce.cls)
    (hx : ∀ t : State, t.heap = H → s.vm.Alike t.vm → XC E s t) (hf : ∀ z ∈ locs, free z.base) (hc : cells ≤ mc) (hs : slots ≤ ms) :
    vx_W p l e R s m args below meth c H locs cells slots (vx_MQ below Qc XC args s mc ms free) (F0 m pc ls rest) q := by
  intro T hT X
  obtain ⟨st1, hrun, hend, hW, hsm⟩ := X.leaveThrown q (g := F0 m pc ls rest) rfl rfl rfl hout hlocks
  have hcell9 : (T.setFrames (.throwing q :: below)).heap[q]? = some ce := by
    show T.heap[q]? = some ce
    rw [hT]; exact hcell
  exact ⟨_, st1, .threw q, hrun, hend, Or.inr ⟨q, rfl, E, ce, locs, hx _ hT hW.alike, hcell9, hv, hcl, hW, hsm.mono hc hs, hf⟩⟩
theorem vx_frame {U : State} {k n : Nat} (h : s.sameButNew ({ U with vm := s.vm } : State) locs k n) : s.heap.size ≤ U.heap.size ∧ ∀ q : Nat, q < s.heap.size → (∀ z ∈ locs, z.base ≠ q) → U.heap[q]? = s.heap[q]? := by
  obtain ⟨-, h2, -, -, -, h6⟩ := h
  refine ⟨h2, fun q hq hz => ?_⟩
  obtain ⟨c9, e1, e2, e3, e4⟩ := h6 q _ (Array.getElem?_eq_getElem hq)
  have hs : c9.slots = (s.heap[q]).slots := Array.ext_getElem? fun i => e4 i fun hm => hz _ hm rfl
  have h9 : c9 = s.heap[q] := by
    rw [hs] at e2
    exact e2
  have e5 : U.heap[q]? = some c9 := e1
  rw [e5, h9, Array.getElem?_eq_getElem hq]
/-- the words of a throw but the four that speak of the heap -/
def vx_no (w : Cond) : Bool := decide (w ≠ .isRef (.static Bundle.tN "UNASSIGNED_STACK" Bundle.steD)) && decide (w ≠ .isRef (.static Bundle.tN "SUPPRESSED_SENTINEL" Bundle.listD)) && decide (w ≠ .laysStatic Bundle.tN "UNASSIGNED_STACK" Bundle.steD) && decide (w ≠ .laysStatic Bundle.tN "SUPPRESSED_SENTINEL" Bundle.listD)
def vx_at0 (own : String) (ic : Nat) (X : String) (names : List String) : List Cond := (Bundle.ownAtoms0 own ic X names).filter vx_no
def vx_atS (own : String) (ic : Nat) (X : String) (names : List String) : List Cond := (Bundle.ownAtoms own ic X names).filter vx_no
/-- a word that the tables alone decide, or a good one -/
def vx_ot (w : Cond) : Bool := w.onTables || goodWord w
theorem vx_ot_at {args a' : Array Value} {s U : State} {w : Cond} (hW : s.WarmedH U.vm) (hvm : s.vm = U.vm) (hg : vx_ot w = true) (h : w.before args s = true) : w.before a' U = true := by
  simp only [vx_ot, Bool.or_eq_true] at hg
  rcases hg with hg | hg
  · exact va_tabs hg hvm h
  · exact word_at hW (good_of_word hg) h
/-- a list's words: the good ones out of the method's own list, the others by premises of their own -/
theorem vx_hat {args : Array Value} {s : State} {L B : List Cond} (h1 : ∀ w ∈ L.filter goodWord, w.before args s = true) (h2 : ∀ w ∈ L.filter (fun w => !goodWord w), w ∈ B) (h3 : ∀ w ∈ B, w.before args s = true) : ∀ w ∈ L, w.before args s = true := by
  intro w hw
  by_cases g : goodWord w = true
  · exact h1 w (List.mem_filter.mpr ⟨hw, g⟩)
  · refine h3 w (h2 w (List.mem_filter.mpr ⟨hw, ?_⟩))
    show (!goodWord w) = true
    cases hgw : goodWord w
    · rfl
    · exact absurd hgw g
theorem vx_c {args : Array Value} {s : State} {w : Cond} {B : List Cond} (h : w.before args s = true) (t : ∀ w ∈ B, w.before args s = true) : ∀ w' ∈ w :: B, w'.before args s = true := fun w' h' => (List.mem_cons.mp h').elim (fun e => by rw [e]; exact h) (t w')
theorem vx_n {args : Array Value} {s : State} : ∀ w ∈ ([] : List Cond), w.before args s = true := fun _ h => nomatch h
theorem vx_own {args : Array Value} {s : State} {L : List Cond} (h1 : ∀ w ∈ L.filter vx_no, w.before args s = true)
    (hU : (Cond.isRef (.static Bundle.tN "UNASSIGNED_STACK" Bundle.steD)).before args s = true) (hN : (Cond.isRef (.static Bundle.tN "SUPPRESSED_SENTINEL" Bundle.listD)).before args s = true)
    (lU : (Cond.laysStatic Bundle.tN "UNASSIGNED_STACK" Bundle.steD).before args s = true) (lN : (Cond.laysStatic Bundle.tN "SUPPRESSED_SENTINEL" Bundle.listD).before args s = true) : ∀ w ∈ L, w.before args s = true := by
  intro w hw
  by_cases e1 : w = .isRef (.static Bundle.tN "UNASSIGNED_STACK" Bundle.steD)
  · rw [e1]; exact hU
  · by_cases e2 : w = .isRef (.static Bundle.tN "SUPPRESSED_SENTINEL" Bundle.listD)
    · rw [e2]; exact hN
    · by_cases e3 : w = .laysStatic Bundle.tN "UNASSIGNED_STACK" Bundle.steD
      · rw [e3]; exact lU
      · by_cases e4 : w = .laysStatic Bundle.tN "SUPPRESSED_SENTINEL" Bundle.listD
        · rw [e4]; exact lN
        · exact h1 w (List.mem_filter.mpr ⟨hw, by unfold vx_no; rw [decide_eq_true e1, decide_eq_true e2, decide_eq_true e3, decide_eq_true e4]; rfl⟩)
/-- where a static field lies, its class's statics cell in H -/
def vx_L (C n d : String) (A : Nat → Prop) (U : State) (H : Heap) : Prop := ∃ (c : ClassId) (k : Class) (i : Nat) (f : Field) (a : Nat) (cell : Cell), U.vm.findClass C = some c ∧ U.fieldFound? C n d = some (c, k, i, f) ∧ f.isStatic = true ∧ k.statics = some a ∧ H[a]? = some cell ∧ cell.vm.isStatics = true ∧ cell.cls = c ∧ f.slot < cell.slots.size ∧ k.staticTypes[f.slot]? = some f.type ∧ ¬ A a
theorem vx_L.moved {C n d : String} {A : Nat → Prop} {u U : State} {H : Heap} (hvm : u.vm.Alike U.vm) (h : vx_L C n d A u H) : vx_L C n d A U H := by
  obtain ⟨c, k, i, f, a, cell, h1, h2, h3, h4, h5, h6, h7, h8, h9, h10⟩ := h
  obtain ⟨k', hi', he⟩ := State.fieldFound?_setVm hvm h2
  exact ⟨c, k', i, f, a, cell, by rw [hvm.findClass]; exact h1, hi', h3, by rw [he]; exact h4, h5, h6, h7, h8, by rw [he]; exact h9, h10⟩
theorem vx_L.kept {C n d : String} {A : Nat → Prop} {U : State} {H H1 : Heap} (h : vx_L C n d A U H) (hq : ∀ a : Nat, a < H.size → ¬ A a → H1[a]? = H[a]?) : vx_L C n d A U H1 := by
  obtain ⟨c, k, i, f, a, cell, h1, h2, h3, h4, h5, h6, h7, h8, h9, h10⟩ := h
  exact ⟨c, k, i, f, a, cell, h1, h2, h3, h4, by rw [hq a (Array.getElem?_eq_some_iff.mp h5).1 h10]; exact h5, h6, h7, h8, h9, h10⟩
theorem vx_L.narrow {C n d : String} {A B : Nat → Prop} {U : State} {H : Heap} (h : vx_L C n d A U H) (hAB : ∀ q, B q → A q) : vx_L C n d B U H := by
  obtain ⟨c, k, i, f, a, cell, h1, h2, h3, h4, h5, h6, h7, h8, h9, h10⟩ := h
  exact ⟨c, k, i, f, a, cell, h1, h2, h3, h4, h5, h6, h7, h8, h9, fun z => h10 (hAB _ z)⟩
theorem vx_L.word {C n d : String} {A : Nat → Prop} {s : State} {args : Array Value} (h : vx_L C n d A s s.heap) : (Cond.laysStatic C n d).before args s = true := by
  obtain ⟨c, k, i, f, a, cell, h1, h2, h3, h4, h5, h6, h7, h8, h9, -⟩ := h
  show (Cond.laysStatic C n d).holds args s none s [] = true
  exact Cond.laysStatic_of h1 h2 h3 h4 h5 h6 h7 h8 h9
/-- .. and what it holds: null or some reference -/
def vx_Zq (C n d : String) (A : Nat → Prop) (U : State) (H : Heap) : Prop := va_Zq C n d A U H ∧ vx_L C n d A U H
theorem vx_Zq.moved {C n d : String} {A : Nat → Prop} {u U : State} {H : Heap} (hvm : u.vm.Alike U.vm) (h : vx_Zq C n d A u H) : vx_Zq C n d A U H := ⟨va_Zq.moved hvm h.1, vx_L.moved hvm h.2⟩
theorem vx_Zq.kept {C n d : String} {A : Nat → Prop} {U : State} {H H1 : Heap} (h : vx_Zq C n d A U H) (hq : ∀ a : Nat, a < H.size → ¬ A a → H1[a]? = H[a]?) : vx_Zq C n d A U H1 := ⟨va_Zq.kept h.1 hq, vx_L.kept h.2 hq⟩
theorem vx_Zq.narrow {C n d : String} {A B : Nat → Prop} {U : State} {H : Heap} (h : vx_Zq C n d A U H) (hAB : ∀ q, B q → A q) : vx_Zq C n d B U H := ⟨va_Zq.narrow h.1 hAB, vx_L.narrow h.2 hAB⟩
theorem vx_Zqof {args : Array Value} {s : State} {C n d : String} {A : Nat → Prop} (hl : (Cond.laysStatic C n d).before args s = true) (hini : (Cond.initialized C).before args s = true) (h : (Cond.isRef (.static C n d)).before args s = true) (hA : ∀ a : Nat, a < s.heap.size → ¬ A a) : vx_Zq C n d A s s.heap := by
  refine ⟨va_Zqof hl hini h hA, ?_⟩
  obtain ⟨c, k, i, f, a, cell, h1, h2, h3, h4, h5, h6, h7, h8, h9⟩ := Cond.laysStatic_spec hl
  exact ⟨c, k, i, f, a, cell, h1, h2, h3, h4, h5, h6, h7, h8, h9, hA a (Array.getElem?_eq_some_iff.mp h5).1⟩
theorem vx_isRef {C n d : String} {v : Value} {A : Nat → Prop} {s : State} {args : Array Value} (h : va_Z C n d v A s s.heap) (hv : v.isRef = true) : (Cond.isRef (.static C n d)).before args s = true := by
  obtain ⟨cf, kf, fi, f, a, cell, h1, h2, h3, h4, h5, h6, h7, -⟩ := h
  have he : (Term.static C n d).eval args s none [] s = some v := by
    simp [Term.eval, State.fieldNamed?, h1, h2, h4, h5, h6, h7]
  simp only [Cond.before, Cond.holds, Cond.value, he]
  cases v <;> simp_all [Value.isRef]
theorem vx_isRefq {C n d : String} {A : Nat → Prop} {s : State} {args : Array Value} (h : va_Zq C n d A s s.heap) : (Cond.isRef (.static C n d)).before args s = true := by
  rcases h with h | ⟨t, h⟩
  · exact vx_isRef h rfl
  · exact vx_isRef h rfl
/-- the same frame, seen from here: as if the method were called anew in this heap -/
theorem vx_rebase {T : State} (X : Stand p l e R s m args below meth c T locs cells slots) {R' : Room} (hf : R'.frames ≤ R.frames) (hl : R'.locals ≤ R.locals) (hc : cells + R'.cells ≤ R.cells) (hs : slots + R'.slots ≤ R.slots) :
    Stand p l e R' ((T.setVm s.vm).setFrames (.invoking m args :: below)) m args below meth c T [] 0 0 := by
  have htop : (T.setVm s.vm).topJava?.isSome := X.here.top
  have hF : ((T.setVm s.vm).setFrames (.invoking m args :: below)).frames = .invoking m args :: below := State.frames_setFrames _ (State.cur_lt_of_top htop)
  obtain ⟨g₀, hg0⟩ := Option.isSome_iff_exists.mp htop
  obtain ⟨r, hr⟩ := State.topJava?_eq_some.mp hg0
  have hl9 : e.platform.stackLimits (T.setVm s.vm).me = e.platform.stackLimits s.me := X.limits
  have hb9 : (T.setVm s.vm).me.stackBytes = s.me.stackBytes := X.bytes
  refine ⟨X.admits, X.cas, X.clock, hF, ?_, X.hears, X.method, X.code, X.here, X.tail, X.warmed, ?_, ?_, ?_⟩
  · have h := X.room
    have hU : ((T.setVm s.vm).setFrames (.invoking m args :: below)).localsInUse = s.localsInUse := by
      rw [State.localsInUse_invoking hF (meth := meth) (c := c) X.method X.code, State.localsInUse_invoking X.frames X.method X.code]
    simp only [State.hasRoom, Bool.and_eq_true, decide_eq_true_eq] at h ⊢
    obtain ⟨⟨⟨⟨h1, h2, h3, h4, h5, h6⟩, h7⟩, h8⟩, h9⟩ := h
    rw [X.frames, List.length_cons] at h2 h3
    have q1 := X.heapSize
    have q2 := X.used
    simp only [hF, hU, List.length_cons, State.stackLimits_setFrames, State.stackBytes_setFrames, hl9, hb9]
    refine ⟨⟨⟨⟨by omega, by omega, by omega, by omega, by omega, h6⟩, ?_⟩, ?_⟩, X.book⟩
    · show T.heap.size + R'.cells ≤ e.platform.maxCells
      omega
    · show T.slotsUsed + R'.slots ≤ e.platform.maxSlots
      omega
  · rw [State.stackLimits_setFrames]; rfl
  · rw [State.stackBytes_setFrames]; rfl
  · refine ⟨?_, Nat.le_refl _, Nat.le_refl _, ?_, ?_, fun a c9 h9 => ⟨c9, h9, rfl, rfl, fun _ _ => rfl⟩⟩
    · obtain ⟨t, ht, -⟩ := State.frames_cons hr
      show T.setVm s.vm = { ((T.setVm s.vm).setFrames (.invoking m args :: below)).setFrames (T.setVm s.vm).frames with heap := T.heap, slotsUsed := T.slotsUsed }
      rw [State.setFrames_setFrames, State.setFrames_self ht]
      rfl
    · show T.slotsUsed = T.slotsUsed + ((T.heap.toList.drop T.heap.size).map (·.slots.size)).sum
      rw [List.drop_eq_nil_of_le (Nat.le_of_eq Array.length_toList)]
      rfl
    · show ((T.heap.toList.drop T.heap.size).map (·.slots.size)).sum ≤ 0
      rw [List.drop_eq_nil_of_le (Nat.le_of_eq Array.length_toList)]
      exact Nat.le_refl _
/-- 'throw new E()': new; dup; invokespecial; athrow -/
theorem vx_throw0 {cc : ByteArray} {pc : Nat} (hexec : p.tables.exec = Jvm.exec) (hb : c.code = cc) (hl : l.stackTraces = false) {own cls : String} {names : List String} {ik ic mc ms : Nat} {A : Nat → Prop}
    (hown : s.vm.findClass own = some m.cls) (hcls : Bundle.fit cls = true) (hnames : ∀ n ∈ names, Bundle.fit n = true)
    (hk : (Cond.classLink own ik cls).before args s = true) (hini : (Cond.initialized cls).before args s = true) (hat : ∀ w ∈ vx_at0 own ic cls names, w.before args s = true)
    (hgood : ∀ w ∈ Cond.classLink own ik cls :: Cond.initialized cls :: vx_at0 own ic cls names, vx_ot w = true)
    (hU : vx_Zq Bundle.tN "UNASSIGNED_STACK" Bundle.steD A s s.heap) (hN : vx_Zq Bundle.tN "SUPPRESSED_SENTINEL" Bundle.listD A s s.heap) (hS : va_S A s.heap H locs) (hsize : ls.size = c.maxLocals)
    (d0 : decode cc pc = .ok (.new ik, 3)) (d3 : decode cc (pc + 3) = .ok (.dup, 1)) (d4 : decode cc (pc + 4) = .ok (.invokespecial ic, 3)) (d7 : decode cc (pc + 7) = .ok (.athrow, 1))
    (hout : ∀ x ∈ c.exceptionTable.toList, covers x (pc + 7) = false)
    (hRframes : names.length + 3 < R.frames) (hRlocals : (rest.map fun v => v.category).sum + (13 * (names.length + 1) + 42) ≤ R.locals) (hRcells : cells + 1 ≤ R.cells) (hRslots : slots + 6 ≤ R.slots) (hlocks : meth.locks = false)
    (hx : ∀ t : State, s.vm.Alike t.vm → H.size ≤ t.heap.size → (∀ q : Nat, q < H.size → t.heap[q]? = H[q]?) → XC cls s t)
    (hf : ∀ z ∈ locs, free z.base) (hc : cells + 1 ≤ mc) (hs : slots + 6 ≤ ms) :
    W p l e R s m args below meth c H locs cells slots (vx_MQ below Qc XC args s mc ms free) (F0 m pc ls rest) := by
  intro T hT X
  have htr : e.platform.stackTraces = false := (show e.platform.stackTraces = l.stackTraces by rw [X.admits.platform]).trans hl
  have Y := vx_rebase X (R' := { frames := R.frames, locals := R.locals, cells := 1, slots := 6 }) (Nat.le_refl _) (Nat.le_refl _) hRcells hRslots
  obtain ⟨s', hA⟩ : ∃ z, z = (T.setVm s.vm).setFrames (.invoking m args :: below) := ⟨_, rfl⟩
  rw [← hA] at Y
  have hvm : s'.vm = s.vm := by rw [hA]; rfl
  have hhp : s'.heap = H := by rw [hA]; exact hT
  have hW0 : s.WarmedH s'.vm := by rw [hvm]; exact State.WarmedH.refl s
  have hat' : ∀ w ∈ vx_at0 own ic cls names, w.before args s' = true := fun w hw => vx_ot_at hW0 hvm.symm (hgood w (List.mem_cons_of_mem _ (List.mem_cons_of_mem _ hw))) (hat w hw)
  have hk' : (Cond.classLink own ik cls).before args s' = true := vx_ot_at hW0 hvm.symm (hgood _ List.mem_cons_self) hk
  have hini' : (Cond.initialized cls).before args s' = true := vx_ot_at hW0 hvm.symm (hgood _ (List.mem_cons_of_mem _ List.mem_cons_self)) hini
  have hU' : vx_Zq Bundle.tN "UNASSIGNED_STACK" Bundle.steD A s' s'.heap := by rw [hhp]; exact vx_Zq.moved hW0.alike (hU.kept hS.2.1)
  have hN' : vx_Zq Bundle.tN "SUPPRESSED_SENTINEL" Bundle.listD A s' s'.heap := by rw [hhp]; exact vx_Zq.moved hW0.alike (hN.kept hS.2.1)
  have h : ∀ w ∈ Bundle.ownAtoms0 own ic cls names, w.before args s' = true := vx_own hat' (vx_isRefq hU'.1) (vx_isRefq hN'.1) hU'.2.word hN'.2.word
  have hown' : s'.vm.findClass own = some m.cls := by rw [hvm]; exact hown
  have hins : (Cond.instantiable cls 6).before args s' = true := h _ (by simp [Bundle.ownAtoms0])
  obtain ⟨vm₁, cX, kX, hfX, hkX, -, -, X₁, st1⟩ := Y.newCold hexec (own := own) (C := cls) (index := ik) (n := 6) hown' hk' hins hini'
    (g := F0 m pc ls rest) rfl (by rw [hb]; exact d0) (Nat.le_refl _) (Nat.le_refl _)
  generalize hT1 : (T.setVm vm₁).pushCell { cls := cX, slots := kX.instanceTypes.map defaultValue, vm := .none } = T1 at X₁ st1
  have hcat : (Value.ref T.heap.size).category = 1 := rfl
  have hcellA : T1.heap[T.heap.size]? = some (freshCell cX kX) := by rw [← hT1]; exact State.heap_pushCell_size _ _
  have d3' : decode c.code (pc + 3) = .ok (.dup, 1) := by rw [hb]; exact d3
  obtain ⟨U, hsteps, hrun, hend, hW, hsame, ce, hce, hO⟩ := X₁.ctorThrow0 hexec htr (own := own) (cls := cls) (names := names) (ic := ic) hown' hcls hnames h (fun x hx => nomatch hx) hfX hkX hcellA (by rw [hhp, hT]; exact Nat.le_refl _)
    (g := { method := m, pc := pc + 4, locals := ls, stack := .ref T.heap.size :: .ref T.heap.size :: rest, locked := none }) rfl hsize rfl rfl (rest := rest) rfl
    (by rw [hb]; exact d4) (by rw [hb]; exact d7) hout hRframes (by simp only [List.map_cons, List.sum_cons, hcat]; omega) hlocks
  obtain ⟨f1, f2⟩ := vx_frame hsame
  rw [hhp] at f1 f2
  have hWs : s.WarmedH U.vm := State.WarmedH.trans hW0 hW
  have hcl : s.vm.findClass cls = some ce.cls := by
    have h9 := hO.cls
    rw [hvm] at h9
    exact h9
  have hall : s.sameButNew ({ U with vm := s.vm } : State) locs mc ms := by
    subst hA
    obtain ⟨e1, e2⟩ := hsame
    rw [State.setFrames_setFrames] at e1
    have h2 : (T.setVm s.vm).sameButNew ({ U with vm := s.vm } : State) [] (0 + 1) (0 + 6) := ⟨e1, e2⟩
    have h3 := X.same.trans h2
    rw [List.append_nil] at h3
    exact h3.mono hc hs
  refine ⟨U, ?_, .threw T.heap.size, hrun, hend, Or.inr ⟨T.heap.size, rfl, cls, ce, locs, hx U hWs.alike f1 (fun q hq => f2 q hq (fun z hz => nomatch hz)), hce, hO.vm, hcl, hWs, hall, hf⟩⟩
  refine st1 _ ?_
  show Steps p.tables e below (T1.setTop { method := m, pc := pc + 3, locals := ls, stack := .ref T.heap.size :: rest, locked := none }) _
  jvm_step X₁.here [X₁.here.top, hexec, d3', Value.category]
  exact hsteps
/-- 'throw new E("text")': new; dup; ldc; invokespecial; athrow -/
theorem vx_throwS {cc : ByteArray} {pc : Nat} (hexec : p.tables.exec = Jvm.exec) (hb : c.code = cc) (hl : l.stackTraces = false) {own cls text : String} {names : List String} {ik is ic mc ms sa : Nat} {A : Nat → Prop}
    (hown : s.vm.findClass own = some m.cls) (hcls : Bundle.fit cls = true) (hnames : ∀ n ∈ names, Bundle.fit n = true)
    (hk : (Cond.classLink own ik cls).before args s = true) (hini : (Cond.initialized cls).before args s = true) (hstr : vk_R own is text sa s) (hat : ∀ w ∈ vx_atS own ic cls names, w.before args s = true)
    (hgood : ∀ w ∈ Cond.classLink own ik cls :: Cond.initialized cls :: vx_atS own ic cls names, vx_ot w = true)
    (hU : vx_Zq Bundle.tN "UNASSIGNED_STACK" Bundle.steD A s s.heap) (hN : vx_Zq Bundle.tN "SUPPRESSED_SENTINEL" Bundle.listD A s s.heap) (hS : va_S A s.heap H locs) (hsize : ls.size = c.maxLocals)
    (d0 : decode cc pc = .ok (.new ik, 3)) (d3 : decode cc (pc + 3) = .ok (.dup, 1)) (d4 : decode cc (pc + 4) = .ok (.ldc is, 2)) (d6 : decode cc (pc + 6) = .ok (.invokespecial ic, 3)) (d9 : decode cc (pc + 9) = .ok (.athrow, 1))
    (hout : ∀ x ∈ c.exceptionTable.toList, covers x (pc + 9) = false)
    (hRframes : names.length + 3 < R.frames) (hRlocals : (rest.map fun v => v.category).sum + (13 * (names.length + 1) + 43) ≤ R.locals) (hRcells : cells + 1 ≤ R.cells) (hRslots : slots + 6 ≤ R.slots) (hlocks : meth.locks = false)
    (hx : ∀ t : State, s.vm.Alike t.vm → H.size ≤ t.heap.size → (∀ q : Nat, q < H.size → t.heap[q]? = H[q]?) → XC cls s t)
    (hf : ∀ z ∈ locs, free z.base) (hc : cells + 1 ≤ mc) (hs : slots + 6 ≤ ms) :
    W p l e R s m args below meth c H locs cells slots (vx_MQ below Qc XC args s mc ms free) (F0 m pc ls rest) := by
  intro T hT X
  have htr : e.platform.stackTraces = false := (show e.platform.stackTraces = l.stackTraces by rw [X.admits.platform]).trans hl
  have Y := vx_rebase X (R' := { frames := R.frames, locals := R.locals, cells := 1, slots := 6 }) (Nat.le_refl _) (Nat.le_refl _) hRcells hRslots
  obtain ⟨s', hA⟩ : ∃ z, z = (T.setVm s.vm).setFrames (.invoking m args :: below) := ⟨_, rfl⟩
  rw [← hA] at Y
  have hvm : s'.vm = s.vm := by rw [hA]; rfl
  have hhp : s'.heap = H := by rw [hA]; exact hT
  have hW0 : s.WarmedH s'.vm := by rw [hvm]; exact State.WarmedH.refl s
  have hat' : ∀ w ∈ vx_atS own ic cls names, w.before args s' = true := fun w hw => vx_ot_at hW0 hvm.symm (hgood w (List.mem_cons_of_mem _ (List.mem_cons_of_mem _ hw))) (hat w hw)
  have hk' : (Cond.classLink own ik cls).before args s' = true := vx_ot_at hW0 hvm.symm (hgood _ List.mem_cons_self) hk
  have hini' : (Cond.initialized cls).before args s' = true := vx_ot_at hW0 hvm.symm (hgood _ (List.mem_cons_of_mem _ List.mem_cons_self)) hini
  have hU' : vx_Zq Bundle.tN "UNASSIGNED_STACK" Bundle.steD A s' s'.heap := by rw [hhp]; exact vx_Zq.moved hW0.alike (hU.kept hS.2.1)
  have hN' : vx_Zq Bundle.tN "SUPPRESSED_SENTINEL" Bundle.listD A s' s'.heap := by rw [hhp]; exact vx_Zq.moved hW0.alike (hN.kept hS.2.1)
  have h : ∀ w ∈ Bundle.ownAtoms own ic cls names, w.before args s' = true := vx_own hat' (vx_isRefq hU'.1) (vx_isRefq hN'.1) hU'.2.word hN'.2.word
  have hown' : s'.vm.findClass own = some m.cls := by rw [hvm]; exact hown
  have hins : (Cond.instantiable cls 6).before args s' = true := h _ (by simp [Bundle.ownAtoms])
  obtain ⟨vm₁, cX, kX, hfX, hkX, -, -, X₁, st1⟩ := Y.newCold hexec (own := own) (C := cls) (index := ik) (n := 6) hown' hk' hins hini'
    (g := F0 m pc ls rest) rfl (by rw [hb]; exact d0) (Nat.le_refl _) (Nat.le_refl _)
  generalize hT1 : (T.setVm vm₁).pushCell { cls := cX, slots := kX.instanceTypes.map defaultValue, vm := .none } = T1 at X₁ st1
  have hcat : (Value.ref T.heap.size).category = 1 := rfl
  have hcellA : T1.heap[T.heap.size]? = some (freshCell cX kX) := by rw [← hT1]; exact State.heap_pushCell_size _ _
  have d3' : decode c.code (pc + 3) = .ok (.dup, 1) := by rw [hb]; exact d3
  have d4' : decode c.code (pc + 4) = .ok (.ldc is, 2) := by rw [hb]; exact d4
  have hstr' : vk_R own is text sa s' := vk_R.warm hW0 hstr
  obtain ⟨U, hsteps, hrun, hend, hW, hsame, ce, hce, hO⟩ := X₁.ctorThrowS hexec htr (own := own) (cls := cls) (names := names) (ic := ic) hown' hcls hnames h (fun x hx => nomatch hx) hfX hkX hcellA (by rw [hhp, hT]; exact Nat.le_refl _) (msg := .ref sa) rfl
    (g := { method := m, pc := pc + 6, locals := ls, stack := .ref sa :: .ref T.heap.size :: .ref T.heap.size :: rest, locked := none }) rfl hsize rfl rfl (rest := rest) rfl
    (by rw [hb]; exact d6) (by rw [hb]; exact d9) hout hRframes (by simp only [List.map_cons, List.sum_cons, hcat]; omega) hlocks
  obtain ⟨f1, f2⟩ := vx_frame hsame
  rw [hhp] at f1 f2
  have hWs : s.WarmedH U.vm := State.WarmedH.trans hW0 hW
  have hcl : s.vm.findClass cls = some ce.cls := by
    have h9 := hO.cls
    rw [hvm] at h9
    exact h9
  have hall : s.sameButNew ({ U with vm := s.vm } : State) locs mc ms := by
    subst hA
    obtain ⟨e1, e2⟩ := hsame
    rw [State.setFrames_setFrames] at e1
    have h2 : (T.setVm s.vm).sameButNew ({ U with vm := s.vm } : State) [] (0 + 1) (0 + 6) := ⟨e1, e2⟩
    have h3 := X.same.trans h2
    rw [List.append_nil] at h3
    exact h3.mono hc hs
  refine ⟨U, ?_, .threw T.heap.size, hrun, hend, Or.inr ⟨T.heap.size, rfl, cls, ce, locs, hx U hWs.alike f1 (fun q hq => f2 q hq (fun z hz => nomatch hz)), hce, hO.vm, hcl, hWs, hall, hf⟩⟩
  refine st1 _ ?_
  show Steps p.tables e below (T1.setTop { method := m, pc := pc + 3, locals := ls, stack := .ref T.heap.size :: rest, locked := none }) _
  jvm_step X₁.here [X₁.here.top, hexec, d3', Value.category]
  exact X₁.ldcString hexec (own := own) (text := text) (index := is) (a := sa) hown' hstr'.1 hstr'.2
    (g := { method := m, pc := pc + 4, locals := ls, stack := .ref T.heap.size :: .ref T.heap.size :: rest, locked := none }) rfl d4' _ hsteps
/-- 'throw new E("text")', the text by a wide index -/
theorem vx_throwSW {cc : ByteArray} {pc : Nat} (hexec : p.tables.exec = Jvm.exec) (hb : c.code = cc) (hl : l.stackTraces = false) {own cls text : String} {names : List String} {ik is ic mc ms sa : Nat} {A : Nat → Prop}
    (hown : s.vm.findClass own = some m.cls) (hcls : Bundle.fit cls = true) (hnames : ∀ n ∈ names, Bundle.fit n = true)
    (hk : (Cond.classLink own ik cls).before args s = true) (hini : (Cond.initialized cls).before args s = true) (hstr : vk_R own is text sa s) (hat : ∀ w ∈ vx_atS own ic cls names, w.before args s = true)
    (hgood : ∀ w ∈ Cond.classLink own ik cls :: Cond.initialized cls :: vx_atS own ic cls names, vx_ot w = true)
    (hU : vx_Zq Bundle.tN "UNASSIGNED_STACK" Bundle.steD A s s.heap) (hN : vx_Zq Bundle.tN "SUPPRESSED_SENTINEL" Bundle.listD A s s.heap) (hS : va_S A s.heap H locs) (hsize : ls.size = c.maxLocals)
    (d0 : decode cc pc = .ok (.new ik, 3)) (d3 : decode cc (pc + 3) = .ok (.dup, 1)) (d4 : decode cc (pc + 4) = .ok (.ldc_w is, 3)) (d7 : decode cc (pc + 7) = .ok (.invokespecial ic, 3)) (d10 : decode cc (pc + 10) = .ok (.athrow, 1))
    (hout : ∀ x ∈ c.exceptionTable.toList, covers x (pc + 10) = false)
    (hRframes : names.length + 3 < R.frames) (hRlocals : (rest.map fun v => v.category).sum + (13 * (names.length + 1) + 43) ≤ R.locals) (hRcells : cells + 1 ≤ R.cells) (hRslots : slots + 6 ≤ R.slots) (hlocks : meth.locks = false)
    (hx : ∀ t : State, s.vm.Alike t.vm → H.size ≤ t.heap.size → (∀ q : Nat, q < H.size → t.heap[q]? = H[q]?) → XC cls s t)
    (hf : ∀ z ∈ locs, free z.base) (hc : cells + 1 ≤ mc) (hs : slots + 6 ≤ ms) :
    W p l e R s m args below meth c H locs cells slots (vx_MQ below Qc XC args s mc ms free) (F0 m pc ls rest) := by
  intro T hT X
  have htr : e.platform.stackTraces = false := (show e.platform.stackTraces = l.stackTraces by rw [X.admits.platform]).trans hl
  have Y := vx_rebase X (R' := { frames := R.frames, locals := R.locals, cells := 1, slots := 6 }) (Nat.le_refl _) (Nat.le_refl _) hRcells hRslots
  obtain ⟨s', hA⟩ : ∃ z, z = (T.setVm s.vm).setFrames (.invoking m args :: below) := ⟨_, rfl⟩
  rw [← hA] at Y
  have hvm : s'.vm = s.vm := by rw [hA]; rfl
  have hhp : s'.heap = H := by rw [hA]; exact hT
  have hW0 : s.WarmedH s'.vm := by rw [hvm]; exact State.WarmedH.refl s
  have hat' : ∀ w ∈ vx_atS own ic cls names, w.before args s' = true := fun w hw => vx_ot_at hW0 hvm.symm (hgood w (List.mem_cons_of_mem _ (List.mem_cons_of_mem _ hw))) (hat w hw)
  have hk' : (Cond.classLink own ik cls).before args s' = true := vx_ot_at hW0 hvm.symm (hgood _ List.mem_cons_self) hk
  have hini' : (Cond.initialized cls).before args s' = true := vx_ot_at hW0 hvm.symm (hgood _ (List.mem_cons_of_mem _ List.mem_cons_self)) hini
  have hU' : vx_Zq Bundle.tN "UNASSIGNED_STACK" Bundle.steD A s' s'.heap := by rw [hhp]; exact vx_Zq.moved hW0.alike (hU.kept hS.2.1)
  have hN' : vx_Zq Bundle.tN "SUPPRESSED_SENTINEL" Bundle.listD A s' s'.heap := by rw [hhp]; exact vx_Zq.moved hW0.alike (hN.kept hS.2.1)
  have h : ∀ w ∈ Bundle.ownAtoms own ic cls names, w.before args s' = true := vx_own hat' (vx_isRefq hU'.1) (vx_isRefq hN'.1) hU'.2.word hN'.2.word
  have hown' : s'.vm.findClass own = some m.cls := by rw [hvm]; exact hown
  have hins : (Cond.instantiable cls 6).before args s' = true := h _ (by simp [Bundle.ownAtoms])
  obtain ⟨vm₁, cX, kX, hfX, hkX, -, -, X₁, st1⟩ := Y.newCold hexec (own := own) (C := cls) (index := ik) (n := 6) hown' hk' hins hini'
    (g := F0 m pc ls rest) rfl (by rw [hb]; exact d0) (Nat.le_refl _) (Nat.le_refl _)
  generalize hT1 : (T.setVm vm₁).pushCell { cls := cX, slots := kX.instanceTypes.map defaultValue, vm := .none } = T1 at X₁ st1
  have hcat : (Value.ref T.heap.size).category = 1 := rfl
  have hcellA : T1.heap[T.heap.size]? = some (freshCell cX kX) := by rw [← hT1]; exact State.heap_pushCell_size _ _
  have d3' : decode c.code (pc + 3) = .ok (.dup, 1) := by rw [hb]; exact d3
  have d4' : decode c.code (pc + 4) = .ok (.ldc_w is, 3) := by rw [hb]; exact d4
  have hstr' : vk_R own is text sa s' := vk_R.warm hW0 hstr
  obtain ⟨U, hsteps, hrun, hend, hW, hsame, ce, hce, hO⟩ := X₁.ctorThrowS hexec htr (own := own) (cls := cls) (names := names) (ic := ic) hown' hcls hnames h (fun x hx => nomatch hx) hfX hkX hcellA (by rw [hhp, hT]; exact Nat.le_refl _) (msg := .ref sa) rfl
    (g := { method := m, pc := pc + 7, locals := ls, stack := .ref sa :: .ref T.heap.size :: .ref T.heap.size :: rest, locked := none }) rfl hsize rfl rfl (rest := rest) rfl
    (by rw [hb]; exact d7) (by rw [hb]; exact d10) hout hRframes (by simp only [List.map_cons, List.sum_cons, hcat]; omega) hlocks
  obtain ⟨f1, f2⟩ := vx_frame hsame
  rw [hhp] at f1 f2
  have hWs : s.WarmedH U.vm := State.WarmedH.trans hW0 hW
  have hcl : s.vm.findClass cls = some ce.cls := by
    have h9 := hO.cls
    rw [hvm] at h9
    exact h9
  have hall : s.sameButNew ({ U with vm := s.vm } : State) locs mc ms := by
    subst hA
    obtain ⟨e1, e2⟩ := hsame
    rw [State.setFrames_setFrames] at e1
    have h2 : (T.setVm s.vm).sameButNew ({ U with vm := s.vm } : State) [] (0 + 1) (0 + 6) := ⟨e1, e2⟩
    have h3 := X.same.trans h2
    rw [List.append_nil] at h3
    exact h3.mono hc hs
  refine ⟨U, ?_, .threw T.heap.size, hrun, hend, Or.inr ⟨T.heap.size, rfl, cls, ce, locs, hx U hWs.alike f1 (fun q hq => f2 q hq (fun z hz => nomatch hz)), hce, hO.vm, hcl, hWs, hall, hf⟩⟩
  refine st1 _ ?_
  show Steps p.tables e below (T1.setTop { method := m, pc := pc + 3, locals := ls, stack := .ref T.heap.size :: rest, locked := none }) _
  jvm_step X₁.here [X₁.here.top, hexec, d3', Value.category]
  exact X₁.ldcStringW hexec (own := own) (text := text) (index := is) (a := sa) hown' hstr'.1 hstr'.2
    (g := { method := m, pc := pc + 4, locals := ls, stack := .ref T.heap.size :: .ref T.heap.size :: rest, locked := none }) rfl d4' _ hsteps
end Ends
section Bodies
variable {l : Launch}
theorem vx_ofW {y : MethodName} {ws ws' : List Cond} {rm : Room} {Pc : Array Value → State → Prop} {Qc : Array Value → State → Outcome → State → Prop} {XC : String → State → State → Prop} {mc ms : Nat} {free : Addr → Prop} {cc : ByteArray} {maxL : Nat} {ret : Option FieldType}
    (hy : plainName y.cls = true) (hw : ws = Cond.code y cc maxL ret :: ws')
    (body : ∀ p e s m args below meth c s₁, BodyLoose p l y (headSpec ws rm) cc maxL ret e s m args below meth c s₁ → c.maxLocals = maxL → (∀ x ∈ c.exceptionTable.toList, False) → Pc args s →
      W p l e (headSpec ws rm).room s m args below meth c s.heap [] 0 0 (vx_MQ below Qc XC args s mc ms free) (entryFrame m args maxL)) : vx_Met l y ws rm Pc Qc XC mc ms free := by
  refine MetFree.of_bodyS (code := cc) (maxLocals := maxL) (ret := ret) hy ?_ ?_
  · intro args s m h hn
    obtain ⟨meth, c, h1, h2, h3, h4, h5, h6, -, -⟩ := Cond.code_spec hn (atoms_spec (ws := ws) h _ (by rw [hw]; exact List.mem_cons_self))
    exact ⟨meth, c, h1, h2, h3, h4, h5, h6⟩
  · intro p e s m args below meth c s₁ B hml hP _
    have hh0 : s₁.heap = s.heap := by rw [B.state]; rfl
    have ht : ∀ x ∈ c.exceptionTable.toList, False := by
      obtain ⟨meth9, c9, h1, h2, -, -, -, -, h7, -⟩ := Cond.code_spec B.named (atoms_spec (ws := ws) B.pre _ (by rw [hw]; exact List.mem_cons_self))
      cases Option.some.inj (h1.symm.trans B.method)
      cases Option.some.inj (h2.symm.trans (Stand.of_body B).code)
      intro x hx
      rw [Array.isEmpty_iff.mp h7] at hx
      cases hx
    obtain ⟨t, a1, o, b1, b2, b3⟩ := body p e s m args below meth c s₁ B hml ht hP s₁ hh0 (Stand.of_body B)
    exact ⟨t, o, a1, b1, b2, b3⟩
/-- the table of a body with handlers -/
theorem vx_table {p : Program} {x y : MethodName} {S : Spec} {cc bytes : ByteArray} {maxL maxL' : Nat} {ret ret' : Option FieldType} {e : Env} {s s₁ : State} {m : MethodId} {args : Array Value} {below : List Frame} {meth : Method} {c : Code} {hh : List (Nat × Nat × Nat × Nat)}
    (B : BodyLoose p l y S cc maxL ret e s m args below meth c s₁) (h : (Cond.codeWith y bytes maxL' ret' hh).before args s = true) : c.exceptionTable.toList = tableOf hh := by
  obtain ⟨m9, meth9, c9, hn9, h1, h2, -, -, h6, -⟩ := Cond.codeWith_spec h
  cases Option.some.inj (hn9.symm.trans B.named)
  cases Option.some.inj (h1.symm.trans B.method)
  cases Option.some.inj (h2.symm.trans (Stand.of_body B).code)
  rw [← h6, table_eq]
end Bodies
end VXA
/-! ===== END ===== -/
/-! ===== BEGIN a static call of a method with an exception table ===== -/
section VXS
variable {p : Program} {l : Launch} {e : Env} {R : Room} {s : State} {m : MethodId} {args : Array Value} {below : List Frame} {meth : Method} {c : Code} {T : State} {H : Heap} {locs : List Loc} {cells slots : Nat}
abbrev vx_CSW (R : Room) (s : State) (args : Array Value) (own : String) (index : Nat) (y : MethodName) (bytes : ByteArray) (maxL : Nat) (ret : Option FieldType) (hh : List (Nat × Nat × Nat × Nat)) (ws : List Cond) (rm : Room) (mc ms n : Nat) : Prop :=
  (rm.cells = mc ∧ rm.slots = ms ∧ rm.frames + 1 ≤ R.frames ∧ 8 + (maxL + 11) + rm.locals ≤ R.locals ∧ (∀ w ∈ ws, ∀ (a' : Array Value) (U : State), s.WarmedH U.vm → w.before a' U = true) ∧ Cond.codeWith y bytes maxL ret hh ∈ ws) ∧
  (Cond.codeWith y bytes maxL ret hh).before args s = true ∧ (Cond.initialized y.cls).before args s = true ∧ (y.cls ≠ "java/lang/invoke/MethodHandle" ∧ y.cls ≠ "java/lang/invoke/VarHandle") ∧
  (∀ sig, parseMethodDescriptor y.desc = some sig → n = sig.parameters.length) ∧ (Cond.methodLink own index y).before args s = true ∧ (Cond.static y).before args s = true
theorem vx_cwSW {own : String} {index maxL mc ms : Nat} {y : MethodName} {bytes : ByteArray} {ret : Option FieldType} {hh : List (Nat × Nat × Nat × Nat)} {Ts ws ws' : List Cond} {rm : Room} (n : Nat) (ht : ∀ w ∈ Ts, w.before args s = true) (hT : GoodIn Ts (va_wsS own index y ws)) (hw : ws = Cond.codeWith y bytes maxL ret hh :: ws') (hrc : rm.cells = mc) (hrs : rm.slots = ms)
    (hd : y.cls ≠ "java/lang/invoke/MethodHandle" ∧ y.cls ≠ "java/lang/invoke/VarHandle" ∧ (parseMethodDescriptor y.desc).map (fun d => d.parameters.length) = some n) (hR : rm.frames + 1 ≤ R.frames ∧ 8 + (maxL + 11) + rm.locals ≤ R.locals) :
    vx_CSW R s args own index y bytes maxL ret hh ws rm mc ms n := by
  have ok : ∀ w ∈ va_wsS own index y ws, w.before args s = true := fun w h => ht w (hT w h).1
  have hG : GoodIn Ts ws := fun w h => hT w (by unfold va_wsS; exact List.mem_append_right _ h)
  have hc : Cond.codeWith y bytes maxL ret hh ∈ ws := by rw [hw]; exact List.mem_cons_self
  refine ⟨⟨hrc, hrs, hR.1, hR.2, pay_in ht hG, hc⟩, ht _ (hG _ hc).1, ok _ (by simp [va_wsS]), ⟨hd.1, hd.2.1⟩, fun sig h => ?_, ok _ (by simp [va_wsS]), ok _ (by simp [va_wsS])⟩
  have h2 := hd.2.2
  rw [h] at h2
  exact (Option.some.inj h2).symm
theorem vx_callSW (X : Stand p l e R s m args below meth c T locs cells slots) (hexec : p.tables.exec = Jvm.exec) {own : String} {index : Nat} {y : MethodName} {bytes : ByteArray} {maxL : Nat} {ret : Option FieldType} {hh : List (Nat × Nat × Nat × Nat)}
    (hown : s.vm.findClass own = some m.cls) (hlink : (Cond.methodLink own index y).before args s = true) (hstat : (Cond.static y).before args s = true) (hinit : (Cond.initialized y.cls).before args s = true)
    (hcode : (Cond.codeWith y bytes maxL ret hh).before args s = true) (hy : y.cls ≠ "java/lang/invoke/MethodHandle" ∧ y.cls ≠ "java/lang/invoke/VarHandle")
    {W9 : Nat} {Pre : Pt → Array Value → Prop} {Post : Pt → Array Value → Option Value → Pt → Prop} (hK : Back l R p e below s args y 3 W9 Pre Post)
    {g : JFrame} (hg : g.method = m) (hsize : g.locals.size = c.maxLocals) {argsL rest : List Value} (hlen : ∀ sig, parseMethodDescriptor y.desc = some sig → argsL.length = sig.parameters.length)
    (hstack : g.stack = argsL.reverse ++ rest) (hW : 2 * g.monitorRoom + (rest.map fun v => v.category).sum ≤ W9) (hdg : decode c.code g.pc = .ok (.invokestatic index, 3))
    (hpre : ∀ vm₁, s.WarmedH vm₁ → Pre ⟨T.setVm vm₁, locs, cells, slots⟩ argsL.toArray) :
    ∃ (v : Option Value) (vm₁ : Vm) (B : Pt), s.WarmedH vm₁ ∧ Stand p l e R s m args below meth c B.U B.locs B.cells B.slots ∧ Post ⟨T.setVm vm₁, locs, cells, slots⟩ argsL.toArray v B ∧
      ∀ target, Steps p.tables e below (B.U.setTop { g with pc := g.pc + 3, stack := v.toList ++ rest }) target → Steps p.tables e below (T.setTop g) target := by
  obtain ⟨mk, methM, cM, hnamed, hmethM, -, -, -, -, -, -, hsigM⟩ := Cond.codeWith_spec hcode
  have hstatic : methM.isStatic = true := Cond.static_spec hnamed hmethM hstat
  obtain ⟨kP, hkP, -⟩ := className_of_methodNamed hnamed
  have hinitP : kP.init = .initialized := Cond.initialized_spec (findClass_of_methodNamed hnamed) hkP hinit
  obtain ⟨vm₁, X₁, hstep₁⟩ := X.invokestatic hexec hown hlink hnamed hmethM hstatic hkP hinitP hy (g := g) hg (argsL := argsL) (rest := rest) (hlen _ hsigM) hstack hdg
  obtain ⟨v, B, X', hpost, hsteps⟩ := hK m meth c ⟨T.setVm vm₁, locs, cells, slots⟩ { g with stack := rest } (.invokestatic index) mk argsL.toArray X₁ hg hsize hdg hW (X₁.named hnamed) (hpre vm₁ X₁.warmed)
  exact ⟨v, vm₁, B, X₁.warmed, X', hpost, fun target h => hstep₁ _ fun acts => by rw [doInvoke_state]; exact hsteps.trans h⟩
theorem vx_runSW {y : MethodName} {bytes cc : ByteArray} {maxL nL mc ms n index : Nat} {ret : Option FieldType} {hh : List (Nat × Nat × Nat × Nat)} {ws : List Cond} {rm : Room} {Pc : Array Value → State → Prop} {Qc : Array Value → State → Outcome → State → Prop} {free : Addr → Prop} {Ts : List Cond} {own : String} {As rest : List Value} {g : JFrame}
    (S : CallFix p m c cc nL s args Ts own) (hM : Met l y ws rm Pc Qc mc ms free) (cw : vx_CSW R s args own index y bytes maxL ret hh ws rm mc ms n) (hp : PreS s H Pc As)
    (hg : g.method = m) (hn : As.length = n) (hsize : g.locals.size = nL) (hstack : g.stack = As.reverse ++ rest) (hW : 2 * g.monitorRoom + (rest.map fun v => v.category).sum ≤ 8) (hdg : decode cc g.pc = .ok (.invokestatic index, 3)) (hf : cells + mc ≤ R.cells ∧ slots + ms ≤ R.slots) :
    va_Run p l e R s m args below meth c H locs cells slots mc ms g rest (Qc As.toArray) (free) := by
  obtain ⟨⟨hrc, hrs, hfr, hlo, hws, hcw⟩, hcode, hini, hy, hlen, hl, hstt⟩ := cw
  have hK : Back l R p e below s args y 3 8 (PreOf R mc ms Pc) (PostOf Qc mc ms free) := va_backW (hh := hh) (bytes := bytes) (maxL := maxL) (ret := ret) hM hp.1 hrc hrs hfr hlo hws hcw (fun a' U hW => word_at hW (Or.inl (by first | rfl | simp [Cond.onTables, Cond.keeps, Cond.steady])) hini)
  obtain ⟨hx, hb, hml, ho, -⟩ := S
  intro T hT X
  obtain ⟨v, vm₁, ⟨U', l2, c2, s2⟩, hW₁, X', ⟨g', mk, t, L, e1, e2, hq, h1, hL, h2, h3⟩, st⟩ := vx_callSW X hx (hh := hh) (bytes := bytes) (maxL := maxL) (ret := ret) ho hl hstt hini hcode hy hK hg (hsize.trans hml.symm) (argsL := As) (rest := rest) (fun sig h => hn.trans (hlen sig h)) hstack hW (by rw [hb]; exact hdg)
    (fun vm₁ hW₁ => ⟨hf.1, hf.2, hp.2 (T.setVm vm₁) hT hW₁⟩)
  dsimp only [Pt.U, Pt.locs, Pt.cells, Pt.slots] at X' e1 e2 h1 h2 h3 st
  subst h1; subst h2; subst h3
  exact ⟨v, (T.setVm vm₁).calling g' mk As.toArray, t, U', L, hT, X', hL, e1, e2, hq, st⟩
/-- not caught here, past rows that name other classes: it goes on to the caller -/
theorem vx_outP {p : Program} {l : Launch} {e : Env} {R : Room} {s : State} {m : MethodId} {args : Array Value} {below : List Frame} {meth : Method} {c : Code} {H : Heap} {locs : List Loc} {cells slots : Nat} {free : Addr → Prop} {ls : Array Slot} {rest : List Value} {Qc : Array Value → State → Outcome → State → Prop} {XC : String → State → State → Prop}
    {pc : Nat} {own E : String} {ce : Cell} {q : Addr} {mc ms : Nat} (hown : s.vm.findClass own = some m.cls) (hlocks : meth.locks = false)
    (hpass : ∀ z ∈ c.exceptionTable.toList, covers z pc = false ∨ (z.catchType ≠ 0 ∧ ∃ nm : String, (Cond.classLink own z.catchType nm).before args s = true ∧ va_Nc E nm s)) (hcell : H[q]? = some ce) (hv : ce.vm = .none) (hcl : s.vm.findClass E = some ce.cls)
    (hx : ∀ t : State, t.heap = H → s.vm.Alike t.vm → XC E s t) (hf : ∀ z ∈ locs, free z.base) (hc : cells ≤ mc) (hs : slots ≤ ms) :
    vx_W p l e R s m args below meth c H locs cells slots (vx_MQ below Qc XC args s mc ms free) (F0 m pc ls rest) q := by
  intro T hT X
  have hpl : e.platform.magicAccessors = ({} : Platform).magicAccessors := by rw [X.admits.platform]
  obtain ⟨vm', hW', X', st⟩ := X.outThrough hlocks q (g := F0 m pc ls rest) rfl rfl rfl (cell := ce) (by rw [hT]; exact hcell) (by rw [hv]; rfl)
    (by obtain ⟨k9, h9, -⟩ := Vm.findClass_spec hcl; exact ⟨k9, h9⟩) (fun z hz => by
      rcases hpass z hz with h | ⟨hz0, nm, hl1, hn1⟩
      · exact Or.inl h
      · obtain ⟨c6, hc6, hcl6⟩ := Cond.classLink_spec hown hl1 e.platform hpl
        obtain ⟨a8, b8, h1, h2, h3⟩ := hn1
        cases Option.some.inj (h1.symm.trans hcl)
        cases Option.some.inj (h2.symm.trans hc6)
        exact Or.inr ⟨hz0, _, hcl6, h3⟩)
  obtain ⟨g₀, hfr⟩ := X'.frames_eq
  have hcell9 : ((T.setVm vm').setFrames (.throwing q :: below)).heap[q]? = some ce := by
    show T.heap[q]? = some ce
    rw [hT]; exact hcell
  have hend : Ended ((T.setVm vm').setFrames (.throwing q :: below)) below (.threw q) := State.frames_setFrames _ (State.cur_lt_of_frames hfr)
  refine ⟨(T.setVm vm').setFrames (.throwing q :: below), ?_, .threw q, X'.here.running, hend, Or.inr ⟨q, rfl, E, ce, locs, hx _ hT (X'.ends _).1.alike, hcell9, hv, hcl, (X'.ends _).1, (X'.ends _).2.mono hc hs, hf⟩⟩
  rw [X.pushThrowing_eq]
  exact st
/-- a thing of a world lies in the heap -/
theorem vx_lt {D : va_G} {cl : List vw_C} {ws : va_W} {H1 : Heap} (h : va_P D cl ws H1) {k : Nat} {q : Nat × va_E} (hk : ws[k]? = some q) : q.1 < H1.size := (h k q hk).lt
end VXS
/-! ===== END ===== -/
/-! ===== BEGIN methods with a table of their own: called by a name, returning or throwing ===== -/
section VXH
/-! vx_backW, vx_callVX, vx_callSX, vx_callVW, vx_runVW, vx_runVX, vx_runSX, vx_ofWH follow the same proofs as their sisters above (Free/Laws.lean, Shelf42/LK1.lean); vx_outP calls Shelf42/NT130.lean (outThrough). -/
section
variable {l : Launch} {R : Room} {p : Program} {e : Env} {below : List Frame} {s : State} {sargs : Array Value} {y : MethodName} {len W9 : Nat}
theorem vx_backW {ws : List Cond} {rm : Room} {Pc : Array Value → State → Prop} {Qc : Array Value → State → Outcome → State → Prop} {XC : String → State → State → Prop} {mc ms : Nat} {free : Addr → Prop} {bytes : ByteArray} {maxL : Nat} {ret : Option FieldType} {hh : List (Nat × Nat × Nat × Nat)}
    (hM : vx_Met l y ws rm Pc Qc XC mc ms free) (hblind : FrameBlind Pc) (hrc : rm.cells = mc) (hrs : rm.slots = ms)
    (hframes : rm.frames + 1 ≤ R.frames) (hlocals : W9 + (maxL + 11) + rm.locals ≤ R.locals)
    (hws : ∀ w ∈ ws, ∀ a' U, s.WarmedH U.vm → w.before a' U = true) (hcode : Cond.codeWith y bytes maxL ret hh ∈ ws) (hinit : ∀ a' U, s.WarmedH U.vm → (Cond.initialized y.cls).before a' U = true) :
    vx_Back l R p e below s sargs y len W9 (PreOf R mc ms Pc) (PostOf Qc mc ms free) (vx_Post XC mc ms free) := by
  intro m meth c A g ig mk a X hg hsize hdg hW hn hp
  have h1 : (headSpec ws rm).pre.before a A.U = true := atoms_intro fun w hw => hws w hw _ _ X.warmed
  have h2 : (Cond.codeWith y bytes maxL ret hh).before a A.U = true := hws _ hcode _ _ X.warmed
  have h3 : (Cond.initialized y.cls).before a A.U = true := hinit _ _ X.warmed
  have h4 : A.cells + (headSpec ws rm).room.cells ≤ R.cells := by rw [show (headSpec ws rm).room.cells = mc from hrc]; exact hp.1
  have h5 : A.slots + (headSpec ws rm).room.slots ≤ R.slots := by rw [show (headSpec ws rm).room.slots = ms from hrs]; exact hp.2.1
  have hPc : Pc a (A.U.calling g mk a) := hblind _ _ _ _ hp.2.2
  obtain ⟨U, Ls, c0, s0⟩ := A
  dsimp only [Pt.U, Pt.locs, Pt.cells, Pt.slots] at h1 h2 h3 h4 h5 X hn hPc ⊢
  obtain ⟨m9, methY, cY, hn9, hmY, hcY, -, hlY, -⟩ := Cond.codeWith_spec h2
  cases Option.some.inj (hn9.symm.trans hn)
  obtain ⟨kY, hkY, -⟩ := className_of_methodNamed hn
  have hinitY : kY.init = .initialized := Cond.initialized_spec (findClass_of_methodNamed hn) hkY h3
  have h : At U g.method c below := by rw [hg]; exact X.here
  have hlocals9 : W9 + (maxL + 11) + (headSpec ws rm).room.locals ≤ R.locals := hlocals
  have happ : (headSpec ws rm).appliesLoose y e.platform (U.calling g mk a) = true :=
    Spec.appliesLoose_calling (g := g) h hdg hn hkY hinitY
      (X.room_calling (g := g) (R' := (headSpec ws rm).room) hsize hmY hcY hframes (by rw [hlY]; omega) h4 h5) h1
  obtain ⟨mid, hmid⟩ := h.above
  have hfr : (U.setTop g).frames = (.java g :: mid) ++ below := by rw [State.frames_setTop' g h.top, hmid]; rfl
  obtain ⟨o, s₂, hsteps, -, hend, hq⟩ := Steps.callFree hM p X.admits X.cas X.clock (acts := []) hfr happ hPc trivial
  have hq' : vx_Q Qc XC mc ms free a (U.calling g mk a) o s₂ := hq
  rw [State.frames_setTop' g h.top] at hend
  obtain ⟨g₀, hg0⟩ := Option.isSome_iff_exists.mp h.top
  obtain ⟨r, hr⟩ := State.topJava?_eq_some.mp hg0
  have hr' : (({ U with heap := s₂.heap, slotsUsed := s₂.slotsUsed } : State).setVm s₂.vm).frames = .java g₀ :: r := hr
  rcases hq' with ⟨hqc, L, hfe, hL⟩ | ⟨q, rfl, E, ce, L, hx, hce, hcv, hcl, hW₂, hsm, hL⟩
  · obtain ⟨⟨v, rfl⟩, hW₂, e2, q2, q3, q4, q5, q6⟩ := id hfe
    have e3 : s₂ = ({ (U.calling g mk a).setFrames s₂.frames with heap := s₂.heap, slotsUsed := s₂.slotsUsed } : State).setVm s₂.vm := by
      have : s₂ = ({ s₂ with vm := (U.calling g mk a).vm } : State).setVm s₂.vm := rfl
      rw [e2] at this
      exact this
    obtain ⟨c₂, i₂, len₂, hc₂, hd₂, hf₂⟩ := hend
    have hW' : U.WarmedH s₂.vm := hW₂
    have hcc : c₂ = c := by
      have h1 : s₂.code? g.method = U.code? g.method := by
        rw [State.code?_eq, State.code?_eq, hW'.alike.method?]
      exact Option.some.inj (hc₂.symm.trans (h1.trans h.code))
    subst hcc
    have hlen : len₂ = len := by rw [hdg] at hd₂; cases hd₂; rfl
    subst hlen
    have hs₂ : s₂ = (({ U with heap := s₂.heap, slotsUsed := s₂.slotsUsed } : State).setVm s₂.vm).setTop { g with pc := g.pc + len₂, stack := v.toList ++ g.stack } := by
      refine e3.trans ?_
      rw [hf₂, State.calling_eq h.top, State.setFrames_setFrames, State.setTop_of_frames _ hr', hr]
      rfl
    have hsame : U.sameButNew ({ U with heap := s₂.heap, slotsUsed := s₂.slotsUsed } : State) L mc ms := by
      refine ⟨?_, q2, q3, q4, q5, q6⟩
      obtain ⟨t, ht, -⟩ := State.frames_cons hr
      show ({ U with heap := s₂.heap, slotsUsed := s₂.slotsUsed } : State) = { U.setFrames U.frames with heap := s₂.heap, slotsUsed := s₂.slotsUsed }
      rw [State.setFrames_self ht]
    subst hg
    refine Or.inl ⟨v, ⟨(({ U with heap := s₂.heap, slotsUsed := s₂.slotsUsed } : State).setVm s₂.vm), Ls ++ L, c0 + mc, s0 + ms⟩,
      ⟨X.admits, X.cas, X.clock, X.frames, X.room, X.hears, X.method, X.code, (X.here.setHeapUsed s₂.heap s₂.slotsUsed).setVm hW'.alike, X.tail, State.WarmedH.trans X.warmed hW', X.limits, X.bytes, X.same.trans (hsame.setVm s.vm)⟩,
      ⟨g, mk, s₂, L, rfl, rfl, hqc, rfl, hL, rfl, rfl⟩, ?_⟩
    show Steps p.tables e below _ ((({ U with heap := s₂.heap, slotsUsed := s₂.slotsUsed } : State).setVm s₂.vm).setTop { g with pc := g.pc + len₂, stack := v.toList ++ g.stack })
    rw [← hs₂]
    exact hsteps
  · obtain ⟨e2, q2, q3, q4, q5, q6⟩ := id hsm
    have e3 : s₂ = ({ (U.calling g mk a).setFrames s₂.frames with heap := s₂.heap, slotsUsed := s₂.slotsUsed } : State).setVm s₂.vm := by
      have : s₂ = ({ s₂ with vm := (U.calling g mk a).vm } : State).setVm s₂.vm := rfl
      rw [e2] at this
      exact this
    have hf₂ : s₂.frames = .throwing q :: .java g :: U.frames.tail := hend
    have hW' : U.WarmedH s₂.vm := hW₂
    have hs₂ : s₂ = ((({ U with heap := s₂.heap, slotsUsed := s₂.slotsUsed } : State).setVm s₂.vm).setTop g).pushFrame (.throwing q) := by
      refine e3.trans ?_
      rw [hf₂, State.calling_eq h.top, State.setFrames_setFrames, State.pushFrame, State.frames_setTop _ hr', State.setTop_of_frames _ hr', State.setFrames_setFrames, hr]
      rfl
    have hsame : U.sameButNew ({ U with heap := s₂.heap, slotsUsed := s₂.slotsUsed } : State) L mc ms := by
      refine ⟨?_, q2, q3, q4, q5, q6⟩
      obtain ⟨t, ht, -⟩ := State.frames_cons hr
      show ({ U with heap := s₂.heap, slotsUsed := s₂.slotsUsed } : State) = { U.setFrames U.frames with heap := s₂.heap, slotsUsed := s₂.slotsUsed }
      rw [State.setFrames_self ht]
    subst hg
    refine Or.inr ⟨q, ⟨(({ U with heap := s₂.heap, slotsUsed := s₂.slotsUsed } : State).setVm s₂.vm), Ls ++ L, c0 + mc, s0 + ms⟩,
      ⟨X.admits, X.cas, X.clock, X.frames, X.room, X.hears, X.method, X.code, (X.here.setHeapUsed s₂.heap s₂.slotsUsed).setVm hW'.alike, X.tail, State.WarmedH.trans X.warmed hW', X.limits, X.bytes, X.same.trans (hsame.setVm s.vm)⟩,
      ⟨g, mk, s₂, L, E, ce, rfl, rfl, hx, hce, hcv, hcl, rfl, hL, rfl, rfl⟩, ?_⟩
    show Steps p.tables e below _ (((({ U with heap := s₂.heap, slotsUsed := s₂.slotsUsed } : State).setVm s₂.vm).setTop g).pushFrame (.throwing q))
    rw [← hs₂]
    exact hsteps
end
variable {p : Program} {l : Launch} {e : Env} {R : Room} {s : State} {m : MethodId} {args : Array Value} {below : List Frame} {meth : Method} {c : Code} {T : State} {H : Heap} {locs : List Loc} {cells slots : Nat}
theorem vx_callVX (X : Stand p l e R s m args below meth c T locs cells slots) (hexec : p.tables.exec = Jvm.exec) {own C : String} {index : Nat} {y : MethodName} {bytes : ByteArray} {maxL : Nat} {ret : Option FieldType} {hh : List (Nat × Nat × Nat × Nat)}
    (hown : s.vm.findClass own = some m.cls) (hlink : (Cond.methodLink own index y).before args s = true) (hinst : (Cond.instanceMethod y).before args s = true) (hsel : (Cond.selects C y y).before args s = true)
    (hcode : (Cond.codeWith y bytes maxL ret hh).before args s = true) (hy : y.cls ≠ "java/lang/invoke/MethodHandle" ∧ y.cls ≠ "java/lang/invoke/VarHandle")
    {W9 : Nat} {Pre : Pt → Array Value → Prop} {Post : Pt → Array Value → Option Value → Pt → Prop} {PostX : Pt → Array Value → Addr → Pt → Prop} (hK : vx_Back l R p e below s args y 3 W9 Pre Post PostX)
    {b : Addr} {cellB : Cell} (hcell : T.heap[b]? = some cellB) (hobj : cellB.vm.isStatics = false) (hcls : s.vm.findClass C = some cellB.cls)
    {g : JFrame} (hg : g.method = m) (hsize : g.locals.size = c.maxLocals) {argsL rest : List Value} (hlen : ∀ sig, parseMethodDescriptor y.desc = some sig → argsL.length = sig.parameters.length)
    (hstack : g.stack = argsL.reverse ++ .ref b :: rest) (hW : 2 * g.monitorRoom + (rest.map fun v => v.category).sum ≤ W9) (hdg : decode c.code g.pc = .ok (.invokevirtual index, 3))
    (hpre : ∀ vm₁, s.WarmedH vm₁ → Pre ⟨T.setVm vm₁, locs, cells, slots⟩ (Value.ref b :: argsL).toArray) :
    (∃ (v : Option Value) (vm₁ : Vm) (B : Pt), s.WarmedH vm₁ ∧ Stand p l e R s m args below meth c B.U B.locs B.cells B.slots ∧ Post ⟨T.setVm vm₁, locs, cells, slots⟩ (Value.ref b :: argsL).toArray v B ∧
      ∀ target, Steps p.tables e below (B.U.setTop { g with pc := g.pc + 3, stack := v.toList ++ rest }) target → Steps p.tables e below (T.setTop g) target) ∨
    (∃ (q : Addr) (vm₁ : Vm) (B : Pt), s.WarmedH vm₁ ∧ Stand p l e R s m args below meth c B.U B.locs B.cells B.slots ∧ PostX ⟨T.setVm vm₁, locs, cells, slots⟩ (Value.ref b :: argsL).toArray q B ∧
      Steps p.tables e below (T.setTop g) ((B.U.setTop { g with stack := rest }).pushFrame (.throwing q))) := by
  obtain ⟨mk, methM, hnamed, hmethM, hstM, habM⟩ := Cond.instanceMethod_spec hinst
  obtain ⟨m8, methM', cM, hn8, hmethM', -, -, -, -, -, -, hsigM⟩ := Cond.codeWith_spec hcode
  cases Option.some.inj (hn8.symm.trans hnamed)
  cases hmethM.symm.trans hmethM'
  obtain ⟨c2, r2, m2, q1, q2, q3, q4, kP, hkP, hkPi⟩ := Cond.selects_spec hsel
  cases hcls.symm.trans q1
  cases (State.methodFound?_of_named hnamed hy).symm.trans q2
  cases hnamed.symm.trans q3
  have hselP : selectMethod e.platform s.vm cellB.cls mk = .method mk := by rw [Launch.admits_selectMethod X.admits]; exact q4
  obtain ⟨vm₁, X₁, hstep₁⟩ := X.invokevirtual hexec hown hlink hnamed hmethM hstM hkP hkPi hy (a := b) (cell := cellB) hcell
    (fun z h => by rw [h] at hobj; cases hobj) hselP hmethM habM hkP hkPi (g := g) hg (argsL := argsL) (rest := rest) (hlen _ hsigM) hstack hdg
  rcases hK m meth c ⟨T.setVm vm₁, locs, cells, slots⟩ { g with stack := rest } (.invokevirtual index) mk (Value.ref b :: argsL).toArray X₁ hg hsize hdg hW (X₁.named hnamed) (hpre vm₁ X₁.warmed) with ⟨v, B, X', hpost, hsteps⟩ | ⟨q, B, X', hpost, hsteps⟩
  · exact Or.inl ⟨v, vm₁, B, X₁.warmed, X', hpost, fun target h => hstep₁ _ fun acts => by rw [doInvoke_state]; exact hsteps.trans h⟩
  · exact Or.inr ⟨q, vm₁, B, X₁.warmed, X', hpost, hstep₁ _ fun acts => by rw [doInvoke_state]; exact hsteps⟩
theorem vx_callSX (X : Stand p l e R s m args below meth c T locs cells slots) (hexec : p.tables.exec = Jvm.exec) {own : String} {index : Nat} {y : MethodName} {bytes : ByteArray} {maxL : Nat} {ret : Option FieldType} {hh : List (Nat × Nat × Nat × Nat)}
    (hown : s.vm.findClass own = some m.cls) (hlink : (Cond.methodLink own index y).before args s = true) (hstat : (Cond.static y).before args s = true) (hinit : (Cond.initialized y.cls).before args s = true)
    (hcode : (Cond.codeWith y bytes maxL ret hh).before args s = true) (hy : y.cls ≠ "java/lang/invoke/MethodHandle" ∧ y.cls ≠ "java/lang/invoke/VarHandle")
    {W9 : Nat} {Pre : Pt → Array Value → Prop} {Post : Pt → Array Value → Option Value → Pt → Prop} {PostX : Pt → Array Value → Addr → Pt → Prop} (hK : vx_Back l R p e below s args y 3 W9 Pre Post PostX)
    {g : JFrame} (hg : g.method = m) (hsize : g.locals.size = c.maxLocals) {argsL rest : List Value} (hlen : ∀ sig, parseMethodDescriptor y.desc = some sig → argsL.length = sig.parameters.length)
    (hstack : g.stack = argsL.reverse ++ rest) (hW : 2 * g.monitorRoom + (rest.map fun v => v.category).sum ≤ W9) (hdg : decode c.code g.pc = .ok (.invokestatic index, 3))
    (hpre : ∀ vm₁, s.WarmedH vm₁ → Pre ⟨T.setVm vm₁, locs, cells, slots⟩ argsL.toArray) :
    (∃ (v : Option Value) (vm₁ : Vm) (B : Pt), s.WarmedH vm₁ ∧ Stand p l e R s m args below meth c B.U B.locs B.cells B.slots ∧ Post ⟨T.setVm vm₁, locs, cells, slots⟩ argsL.toArray v B ∧
      ∀ target, Steps p.tables e below (B.U.setTop { g with pc := g.pc + 3, stack := v.toList ++ rest }) target → Steps p.tables e below (T.setTop g) target) ∨
    (∃ (q : Addr) (vm₁ : Vm) (B : Pt), s.WarmedH vm₁ ∧ Stand p l e R s m args below meth c B.U B.locs B.cells B.slots ∧ PostX ⟨T.setVm vm₁, locs, cells, slots⟩ argsL.toArray q B ∧
      Steps p.tables e below (T.setTop g) ((B.U.setTop { g with stack := rest }).pushFrame (.throwing q))) := by
  obtain ⟨mk, methM, cM, hnamed, hmethM, -, -, -, -, -, -, hsigM⟩ := Cond.codeWith_spec hcode
  have hstatic : methM.isStatic = true := Cond.static_spec hnamed hmethM hstat
  obtain ⟨kP, hkP, -⟩ := className_of_methodNamed hnamed
  have hinitP : kP.init = .initialized := Cond.initialized_spec (findClass_of_methodNamed hnamed) hkP hinit
  obtain ⟨vm₁, X₁, hstep₁⟩ := X.invokestatic hexec hown hlink hnamed hmethM hstatic hkP hinitP hy (g := g) hg (argsL := argsL) (rest := rest) (hlen _ hsigM) hstack hdg
  rcases hK m meth c ⟨T.setVm vm₁, locs, cells, slots⟩ { g with stack := rest } (.invokestatic index) mk argsL.toArray X₁ hg hsize hdg hW (X₁.named hnamed) (hpre vm₁ X₁.warmed) with ⟨v, B, X', hpost, hsteps⟩ | ⟨q, B, X', hpost, hsteps⟩
  · exact Or.inl ⟨v, vm₁, B, X₁.warmed, X', hpost, fun target h => hstep₁ _ fun acts => by rw [doInvoke_state]; exact hsteps.trans h⟩
  · exact Or.inr ⟨q, vm₁, B, X₁.warmed, X', hpost, hstep₁ _ fun acts => by rw [doInvoke_state]; exact hsteps⟩
theorem vx_callVW (X : Stand p l e R s m args below meth c T locs cells slots) (hexec : p.tables.exec = Jvm.exec) {own C : String} {index : Nat} {y : MethodName} {bytes : ByteArray} {maxL : Nat} {ret : Option FieldType} {hh : List (Nat × Nat × Nat × Nat)}
    (hown : s.vm.findClass own = some m.cls) (hlink : (Cond.methodLink own index y).before args s = true) (hinst : (Cond.instanceMethod y).before args s = true) (hsel : (Cond.selects C y y).before args s = true)
    (hcode : (Cond.codeWith y bytes maxL ret hh).before args s = true) (hy : y.cls ≠ "java/lang/invoke/MethodHandle" ∧ y.cls ≠ "java/lang/invoke/VarHandle")
    {W9 : Nat} {Pre : Pt → Array Value → Prop} {Post : Pt → Array Value → Option Value → Pt → Prop} (hK : Back l R p e below s args y 3 W9 Pre Post)
    {b : Addr} {cellB : Cell} (hcell : T.heap[b]? = some cellB) (hobj : cellB.vm.isStatics = false) (hcls : s.vm.findClass C = some cellB.cls)
    {g : JFrame} (hg : g.method = m) (hsize : g.locals.size = c.maxLocals) {argsL rest : List Value} (hlen : ∀ sig, parseMethodDescriptor y.desc = some sig → argsL.length = sig.parameters.length)
    (hstack : g.stack = argsL.reverse ++ .ref b :: rest) (hW : 2 * g.monitorRoom + (rest.map fun v => v.category).sum ≤ W9) (hdg : decode c.code g.pc = .ok (.invokevirtual index, 3))
    (hpre : ∀ vm₁, s.WarmedH vm₁ → Pre ⟨T.setVm vm₁, locs, cells, slots⟩ (Value.ref b :: argsL).toArray) :
    ∃ (v : Option Value) (vm₁ : Vm) (B : Pt), s.WarmedH vm₁ ∧ Stand p l e R s m args below meth c B.U B.locs B.cells B.slots ∧ Post ⟨T.setVm vm₁, locs, cells, slots⟩ (Value.ref b :: argsL).toArray v B ∧
      ∀ target, Steps p.tables e below (B.U.setTop { g with pc := g.pc + 3, stack := v.toList ++ rest }) target → Steps p.tables e below (T.setTop g) target := by
  obtain ⟨mk, methM, hnamed, hmethM, hstM, habM⟩ := Cond.instanceMethod_spec hinst
  obtain ⟨m8, methM', cM, hn8, hmethM', -, -, -, -, -, -, hsigM⟩ := Cond.codeWith_spec hcode
  cases Option.some.inj (hn8.symm.trans hnamed)
  cases hmethM.symm.trans hmethM'
  obtain ⟨c2, r2, m2, q1, q2, q3, q4, kP, hkP, hkPi⟩ := Cond.selects_spec hsel
  cases hcls.symm.trans q1
  cases (State.methodFound?_of_named hnamed hy).symm.trans q2
  cases hnamed.symm.trans q3
  have hselP : selectMethod e.platform s.vm cellB.cls mk = .method mk := by rw [Launch.admits_selectMethod X.admits]; exact q4
  obtain ⟨vm₁, X₁, hstep₁⟩ := X.invokevirtual hexec hown hlink hnamed hmethM hstM hkP hkPi hy (a := b) (cell := cellB) hcell
    (fun z h => by rw [h] at hobj; cases hobj) hselP hmethM habM hkP hkPi (g := g) hg (argsL := argsL) (rest := rest) (hlen _ hsigM) hstack hdg
  obtain ⟨v, B, X', hpost, hsteps⟩ := hK m meth c ⟨T.setVm vm₁, locs, cells, slots⟩ { g with stack := rest } (.invokevirtual index) mk (Value.ref b :: argsL).toArray X₁ hg hsize hdg hW (X₁.named hnamed) (hpre vm₁ X₁.warmed)
  exact ⟨v, vm₁, B, X₁.warmed, X', hpost, fun target h => hstep₁ _ fun acts => by rw [doInvoke_state]; exact hsteps.trans h⟩
abbrev vx_CVW (R : Room) (s : State) (args : Array Value) (own C : String) (index : Nat) (y : MethodName) (bytes : ByteArray) (maxL : Nat) (ret : Option FieldType) (hh : List (Nat × Nat × Nat × Nat)) (ws : List Cond) (rm : Room) (mc ms n : Nat) : Prop :=
  (rm.cells = mc ∧ rm.slots = ms ∧ rm.frames + 1 ≤ R.frames ∧ 8 + (maxL + 11) + rm.locals ≤ R.locals ∧ (∀ w ∈ ws, ∀ (a' : Array Value) (U : State), s.WarmedH U.vm → w.before a' U = true) ∧ Cond.codeWith y bytes maxL ret hh ∈ ws) ∧
  (Cond.codeWith y bytes maxL ret hh).before args s = true ∧ (Cond.initialized y.cls).before args s = true ∧ (y.cls ≠ "java/lang/invoke/MethodHandle" ∧ y.cls ≠ "java/lang/invoke/VarHandle") ∧
  (∀ sig, parseMethodDescriptor y.desc = some sig → n = sig.parameters.length) ∧ (Cond.methodLink own index y).before args s = true ∧ (Cond.instanceMethod y).before args s = true ∧ (Cond.selects C y y).before args s = true
theorem vx_cwVW {own C : String} {index maxL mc ms : Nat} {y : MethodName} {bytes : ByteArray} {ret : Option FieldType} {hh : List (Nat × Nat × Nat × Nat)} {Ts ws ws' : List Cond} {rm : Room} (n : Nat) (ht : ∀ w ∈ Ts, w.before args s = true) (hT : GoodIn Ts (wsV own index C y ws)) (hw : ws = Cond.codeWith y bytes maxL ret hh :: ws') (hrc : rm.cells = mc) (hrs : rm.slots = ms)
    (hd : y.cls = C ∧ y.cls ≠ "java/lang/invoke/MethodHandle" ∧ y.cls ≠ "java/lang/invoke/VarHandle" ∧ (parseMethodDescriptor y.desc).map (fun d => d.parameters.length) = some n) (hR : rm.frames + 1 ≤ R.frames ∧ 8 + (maxL + 11) + rm.locals ≤ R.locals) :
    vx_CVW R s args own C index y bytes maxL ret hh ws rm mc ms n := by
  obtain ⟨hC, hd⟩ := hd
  subst hC
  have ok : ∀ w ∈ wsV own index y.cls y ws, w.before args s = true := fun w h => ht w (hT w h).1
  have hG : GoodIn Ts ws := fun w h => hT w (by unfold wsV; exact List.mem_append_right _ h)
  have hc : Cond.codeWith y bytes maxL ret hh ∈ ws := by rw [hw]; exact List.mem_cons_self
  refine ⟨⟨hrc, hrs, hR.1, hR.2, pay_in ht hG, hc⟩, ht _ (hG _ hc).1, ok _ (by simp [wsV]), ⟨hd.1, hd.2.1⟩, fun sig h => ?_, ok _ (by simp [wsV]), ok _ (by simp [wsV]), ok _ (by simp [wsV])⟩
  have h2 := hd.2.2
  rw [h] at h2
  exact (Option.some.inj h2).symm
theorem vx_runVW {y : MethodName} {bytes cc : ByteArray} {maxL nL mc ms n index : Nat} {ret : Option FieldType} {hh : List (Nat × Nat × Nat × Nat)} {ws : List Cond} {rm : Room} {Pc : Array Value → State → Prop} {Qc : Array Value → State → Outcome → State → Prop} {free : Addr → Prop} {Ts : List Cond} {own C : String} {b : Addr} {As rest : List Value} {g : JFrame}
    (S : CallFix p m c cc nL s args Ts own) (hM : Met l y ws rm Pc Qc mc ms free) (cw : vx_CVW R s args own C index y bytes maxL ret hh ws rm mc ms n) (hp : PreV s H C b Pc As)
    (hg : g.method = m) (hn : As.length = n) (hsize : g.locals.size = nL) (hstack : g.stack = As.reverse ++ .ref b :: rest) (hW : 2 * g.monitorRoom + (rest.map fun v => v.category).sum ≤ 8) (hdg : decode cc g.pc = .ok (.invokevirtual index, 3)) (hf : cells + mc ≤ R.cells ∧ slots + ms ≤ R.slots) :
    va_Run p l e R s m args below meth c H locs cells slots mc ms g rest (Qc (Value.ref b :: As).toArray) free := by
  obtain ⟨⟨hrc, hrs, hfr, hlo, hws, hcw⟩, hcode, hini, hy, hlen, hl, hin, hse⟩ := cw
  have hK : Back l R p e below s args y 3 8 (PreOf R mc ms Pc) (PostOf Qc mc ms free) := va_backW (hh := hh) (bytes := bytes) (maxL := maxL) (ret := ret) hM hp.1 hrc hrs hfr hlo hws hcw (fun a' U hW => word_at hW (Or.inl (by first | rfl | simp [Cond.onTables, Cond.keeps, Cond.steady])) hini)
  obtain ⟨hx, hb, hml, ho, -⟩ := S
  obtain ⟨-, ⟨cellB, hcB, hoB, hclB⟩, hPc⟩ := hp
  intro T hT X
  obtain ⟨v, vm₁, ⟨U', l2, c2, s2⟩, hW₁, X', ⟨g', mk, t, L, e1, e2, hq, h1, hL, h2, h3⟩, st⟩ := vx_callVW X hx (C := C) (hh := hh) (bytes := bytes) (maxL := maxL) (ret := ret) ho hl hin hse hcode hy hK (by rw [hT]; exact hcB) hoB hclB hg (hsize.trans hml.symm) (argsL := As) (rest := rest) (fun sig h => hn.trans (hlen sig h)) hstack hW (by rw [hb]; exact hdg)
    (fun vm₁ hW₁ => ⟨hf.1, hf.2, hPc (T.setVm vm₁) hT hW₁⟩)
  dsimp only [Pt.U, Pt.locs, Pt.cells, Pt.slots] at X' e1 e2 h1 h2 h3 st
  subst h1; subst h2; subst h3
  exact ⟨v, (T.setVm vm₁).calling g' mk (Value.ref b :: As).toArray, t, U', L, hT, X', hL, e1, e2, hq, st⟩
section
variable {y : MethodName} {bytes cc : ByteArray} {maxL nL mc ms n index : Nat} {ret : Option FieldType} {ws : List Cond} {rm : Room} {Pc : Array Value → State → Prop} {Qc : Array Value → State → Outcome → State → Prop} {XC : String → State → State → Prop} {free : Addr → Prop} {Ts : List Cond} {own C : String} {b : Addr} {As rest : List Value} {g : JFrame}
theorem vx_runVX {hh : List (Nat × Nat × Nat × Nat)} (S : CallFix p m c cc nL s args Ts own) (hM : vx_Met l y ws rm Pc Qc XC mc ms free) (cw : vx_CVW R s args own C index y bytes maxL ret hh ws rm mc ms n) (hp : PreV s H C b Pc As)
    (hg : g.method = m) (hn : As.length = n) (hsize : g.locals.size = nL) (hstack : g.stack = As.reverse ++ .ref b :: rest) (hW : 2 * g.monitorRoom + (rest.map fun v => v.category).sum ≤ 8) (hdg : decode cc g.pc = .ok (.invokevirtual index, 3)) (hf : cells + mc ≤ R.cells ∧ slots + ms ≤ R.slots) :
    vx_Run p l e R s m args below meth c H locs cells slots mc ms g rest (Qc (Value.ref b :: As).toArray) XC free := by
  obtain ⟨⟨hrc, hrs, hfr, hlo, hws, hcw⟩, hcode, hini, hy, hlen, hl, hin, hse⟩ := cw
  have hK : vx_Back l R p e below s args y 3 8 (PreOf R mc ms Pc) (PostOf Qc mc ms free) (vx_Post XC mc ms free) := vx_backW (hh := hh) (bytes := bytes) (maxL := maxL) (ret := ret) hM hp.1 hrc hrs hfr hlo hws hcw (fun a' U hW => word_at hW (Or.inl (by first | rfl | simp [Cond.onTables, Cond.keeps, Cond.steady])) hini)
  obtain ⟨hx, hb, hml, ho, -⟩ := S
  obtain ⟨-, ⟨cellB, hcB, hoB, hclB⟩, hPc⟩ := hp
  intro T hT X
  rcases vx_callVX X hx (C := C) (hh := hh) (bytes := bytes) (maxL := maxL) (ret := ret) ho hl hin hse hcode hy hK (by rw [hT]; exact hcB) hoB hclB hg (hsize.trans hml.symm) (argsL := As) (rest := rest) (fun sig h => hn.trans (hlen sig h)) hstack hW (by rw [hb]; exact hdg)
    (fun vm₁ hW₁ => ⟨hf.1, hf.2, hPc (T.setVm vm₁) hT hW₁⟩) with ⟨v, vm₁, ⟨U', l2, c2, s2⟩, hW₁, X', ⟨g', mk, t, L, e1, e2, hq, h1, hL, h2, h3⟩, st⟩ | ⟨q, vm₁, ⟨U', l2, c2, s2⟩, hW₁, X', ⟨g', mk, t, L, E, ce, e1, e2, hq, hce, hcv, hcl, h1, hL, h2, h3⟩, st⟩
  · dsimp only [Pt.U, Pt.locs, Pt.cells, Pt.slots] at X' e1 e2 h1 h2 h3 st
    subst h1; subst h2; subst h3
    exact Or.inl ⟨v, (T.setVm vm₁).calling g' mk (Value.ref b :: As).toArray, t, U', L, hT, X', hL, e1, e2, hq, st⟩
  · dsimp only [Pt.U, Pt.locs, Pt.cells, Pt.slots] at X' e1 e2 h1 h2 h3 st hcl
    subst h1; subst h2; subst h3
    exact Or.inr ⟨q, (T.setVm vm₁).calling g' mk (Value.ref b :: As).toArray, t, U', L, E, ce, hT, X', hL, e1, e2, hq, hce, hcv, vx_cls hW₁ hcl, st⟩
theorem vx_runSX {hh : List (Nat × Nat × Nat × Nat)} (S : CallFix p m c cc nL s args Ts own) (hM : vx_Met l y ws rm Pc Qc XC mc ms free) (cw : vx_CSW R s args own index y bytes maxL ret hh ws rm mc ms n) (hp : PreS s H Pc As)
    (hg : g.method = m) (hn : As.length = n) (hsize : g.locals.size = nL) (hstack : g.stack = As.reverse ++ rest) (hW : 2 * g.monitorRoom + (rest.map fun v => v.category).sum ≤ 8) (hdg : decode cc g.pc = .ok (.invokestatic index, 3)) (hf : cells + mc ≤ R.cells ∧ slots + ms ≤ R.slots) :
    vx_Run p l e R s m args below meth c H locs cells slots mc ms g rest (Qc As.toArray) XC free := by
  obtain ⟨⟨hrc, hrs, hfr, hlo, hws, hcw⟩, hcode, hini, hy, hlen, hl, hstt⟩ := cw
  have hK : vx_Back l R p e below s args y 3 8 (PreOf R mc ms Pc) (PostOf Qc mc ms free) (vx_Post XC mc ms free) := vx_backW (hh := hh) (bytes := bytes) (maxL := maxL) (ret := ret) hM hp.1 hrc hrs hfr hlo hws hcw (fun a' U hW => word_at hW (Or.inl (by first | rfl | simp [Cond.onTables, Cond.keeps, Cond.steady])) hini)
  obtain ⟨hx, hb, hml, ho, -⟩ := S
  intro T hT X
  rcases vx_callSX X hx (hh := hh) (bytes := bytes) (maxL := maxL) (ret := ret) ho hl hstt hini hcode hy hK hg (hsize.trans hml.symm) (argsL := As) (rest := rest) (fun sig h => hn.trans (hlen sig h)) hstack hW (by rw [hb]; exact hdg)
    (fun vm₁ hW₁ => ⟨hf.1, hf.2, hp.2 (T.setVm vm₁) hT hW₁⟩) with ⟨v, vm₁, ⟨U', l2, c2, s2⟩, hW₁, X', ⟨g', mk, t, L, e1, e2, hq, h1, hL, h2, h3⟩, st⟩ | ⟨q, vm₁, ⟨U', l2, c2, s2⟩, hW₁, X', ⟨g', mk, t, L, E, ce, e1, e2, hq, hce, hcv, hcl, h1, hL, h2, h3⟩, st⟩
  · dsimp only [Pt.U, Pt.locs, Pt.cells, Pt.slots] at X' e1 e2 h1 h2 h3 st
    subst h1; subst h2; subst h3
    exact Or.inl ⟨v, (T.setVm vm₁).calling g' mk As.toArray, t, U', L, hT, X', hL, e1, e2, hq, st⟩
  · dsimp only [Pt.U, Pt.locs, Pt.cells, Pt.slots] at X' e1 e2 h1 h2 h3 st hcl
    subst h1; subst h2; subst h3
    exact Or.inr ⟨q, (T.setVm vm₁).calling g' mk As.toArray, t, U', L, E, ce, hT, X', hL, e1, e2, hq, hce, hcv, vx_cls hW₁ hcl, st⟩
end
end VXH
theorem vx_ofWH {l : Launch} {y : MethodName} {ws ws' : List Cond} {rm : Room} {Pc : Array Value → State → Prop} {Qc : Array Value → State → Outcome → State → Prop} {XC : String → State → State → Prop} {mc ms : Nat} {free : Addr → Prop} {cc : ByteArray} {maxL : Nat} {ret : Option FieldType} {hh : List (Nat × Nat × Nat × Nat)}
    (hy : plainName y.cls = true) (hw : ws = Cond.codeWith y cc maxL ret hh :: ws')
    (body : ∀ p e s m args below meth c s₁, BodyLoose p l y (headSpec ws rm) cc maxL ret e s m args below meth c s₁ → c.maxLocals = maxL → Pc args s →
      W p l e (headSpec ws rm).room s m args below meth c s.heap [] 0 0 (vx_MQ below Qc XC args s mc ms free) (entryFrame m args maxL)) : vx_Met l y ws rm Pc Qc XC mc ms free := by
  refine MetFree.of_bodyS (code := cc) (maxLocals := maxL) (ret := ret) hy ?_ ?_
  · intro args s m h hn
    obtain ⟨m9, meth, c, hn9, h1, h2, h3, h4, -, h5, h6, -⟩ := Cond.codeWith_spec (atoms_spec (ws := ws) h _ (by rw [hw]; exact List.mem_cons_self))
    cases hn.symm.trans hn9
    exact ⟨meth, c, h1, h2, h3, h4, h5, h6⟩
  · intro p e s m args below meth c s₁ B hml hP _
    have hh0 : s₁.heap = s.heap := by rw [B.state]; rfl
    obtain ⟨t, a1, o, b1, b2, b3⟩ := body p e s m args below meth c s₁ B hml hP s₁ hh0 (Stand.of_body B)
    exact ⟨t, o, a1, b1, b2, b3⟩
/-! ===== END ===== -/
end
section
/-! NAMES: by program (wip/whole/names.py) -/
def GG : List Cond := lw_tbl.filter goodWord
theorem gg_of {w : Cond} (h : w ∈ lw_tbl) (hg : goodWord w = true) : w ∈ GG := List.mem_filter.mpr ⟨h, hg⟩
theorem gg_in {w : Cond} (h : w ∈ GG) : w ∈ lw_tbl := (List.mem_filter.mp h).1
theorem gg_good {w : Cond} (h : w ∈ GG) : goodWord w = true := (List.mem_filter.mp h).2
def R_M : String := "PagedBytes$Memory"
def T_M : u_T := fun k => match k with
  | 0 => ("PagedBytes$Memory", "most", "I", true)
  | 1 => ("PagedBytes$Memory", "pageCount", "I", false)
  | _ => ("PagedBytes$Memory", "rows", "[LPagedBytes$Row;", true)
def t_M : Nat → FieldType := fun k => match k with
  | 0 => .int
  | 1 => .int
  | _ => .array (.object "PagedBytes$Row")
theorem n_M : ∀ a, a < 3 → ∀ b, b < 3 → a ≠ b → (T_M a).2.1 ≠ (T_M b).2.1 := by decide +kernel
theorem ty_M : ∀ k, k < 3 → parseFieldDescriptor (T_M k).2.2.1 = some (t_M k) := by decide +kernel
def R_W : String := "PagedBytes$Row"
def T_W : u_T := fun k => match k with
  | _ => ("PagedBytes$Row", "bytes", "[B", true)
def t_W : Nat → FieldType := fun k => match k with
  | _ => .array .byte
theorem n_W : ∀ a, a < 1 → ∀ b, b < 1 → a ≠ b → (T_W a).2.1 ≠ (T_W b).2.1 := by decide +kernel
theorem ty_W : ∀ k, k < 1 → parseFieldDescriptor (T_W k).2.2.1 = some (t_W k) := by decide +kernel
def R_P : String := "PagedBytes"
def T_P : u_T := fun k => match k with
  | 0 => ("PagedBytes", "memories", "[LPagedBytes$Memory;", true)
  | 1 => ("PagedBytes", "copied", "[B", true)
  | 2 => ("PagedBytes", "memoryCount", "I", false)
  | _ => ("PagedBytes", "pagesInAll", "I", false)
def t_P : Nat → FieldType := fun k => match k with
  | 0 => .array (.object "PagedBytes$Memory")
  | 1 => .array .byte
  | 2 => .int
  | _ => .int
theorem n_P : ∀ a, a < 4 → ∀ b, b < 4 → a ≠ b → (T_P a).2.1 ≠ (T_P b).2.1 := by decide +kernel
theorem ty_P : ∀ k, k < 4 → parseFieldDescriptor (T_P k).2.2.1 = some (t_P k) := by decide +kernel
def R_D : String := "PagedBytesModel"
def T_D : u_T := fun k => match k with
  | 0 => ("PagedBytesModel", "thrown", "I", false)
  | 1 => ("PagedBytesModel", "memories", "I", false)
  | 2 => ("PagedBytesModel", "most", "[I", true)
  | 3 => ("PagedBytesModel", "all", "I", false)
  | 4 => ("PagedBytesModel", "owner", "[I", true)
  | 5 => ("PagedBytesModel", "index", "[I", true)
  | 6 => ("PagedBytesModel", "bytes", "[[B", true)
  | _ => ("PagedBytesModel", "copied", "[I", true)
def t_D : Nat → FieldType := fun k => match k with
  | 0 => .int
  | 1 => .int
  | 2 => .array .int
  | 3 => .int
  | 4 => .array .int
  | 5 => .array .int
  | 6 => .array (.array .byte)
  | _ => .array .int
theorem n_D : ∀ a, a < 8 → ∀ b, b < 8 → a ≠ b → (T_D a).2.1 ≠ (T_D b).2.1 := by decide +kernel
theorem ty_D : ∀ k, k < 8 → parseFieldDescriptor (T_D k).2.2.1 = some (t_D k) := by decide +kernel
def R_L : String := "PagedBytesLaw"
abbrev Cls : List vw_C := [(R_M, T_M, 3), (R_W, T_W, 1), (R_P, T_P, 4), (R_D, T_D, 8)]
theorem k_in_L : (Cond.initialized "PagedBytesLaw") ∈ GG := gg_of (List.mem_of_getElem? (i := 13) (by decide +kernel)) (by decide +kernel)
theorem k_in_P : (Cond.initialized "PagedBytes") ∈ GG := gg_of (List.mem_of_getElem? (i := 14) (by decide +kernel)) (by decide +kernel)
theorem k_in_D : (Cond.initialized "PagedBytesModel") ∈ GG := gg_of (List.mem_of_getElem? (i := 15) (by decide +kernel)) (by decide +kernel)
theorem k_in_JThrowable : (Cond.initialized "java/lang/Throwable") ∈ GG := gg_of (List.mem_of_getElem? (i := 16) (by decide +kernel)) (by decide +kernel)
theorem k_in_JException : (Cond.initialized "java/lang/Exception") ∈ GG := gg_of (List.mem_of_getElem? (i := 17) (by decide +kernel)) (by decide +kernel)
theorem k_in_JRuntimeException : (Cond.initialized "java/lang/RuntimeException") ∈ GG := gg_of (List.mem_of_getElem? (i := 18) (by decide +kernel)) (by decide +kernel)
theorem k_in_JIllegalArgumentException : (Cond.initialized "java/lang/IllegalArgumentException") ∈ GG := gg_of (List.mem_of_getElem? (i := 19) (by decide +kernel)) (by decide +kernel)
theorem k_in_JIllegalStateException : (Cond.initialized "java/lang/IllegalStateException") ∈ GG := gg_of (List.mem_of_getElem? (i := 20) (by decide +kernel)) (by decide +kernel)
theorem k_in_JUnsupportedOperationException : (Cond.initialized "java/lang/UnsupportedOperationException") ∈ GG := gg_of (List.mem_of_getElem? (i := 21) (by decide +kernel)) (by decide +kernel)
theorem k_in_M : (Cond.initialized "PagedBytes$Memory") ∈ GG := gg_of (List.mem_of_getElem? (i := 22) (by decide +kernel)) (by decide +kernel)
theorem k_in_JMath : (Cond.initialized "java/lang/Math") ∈ GG := gg_of (List.mem_of_getElem? (i := 23) (by decide +kernel)) (by decide +kernel)
theorem k_in_JIndexOutOfBoundsException : (Cond.initialized "java/lang/IndexOutOfBoundsException") ∈ GG := gg_of (List.mem_of_getElem? (i := 24) (by decide +kernel)) (by decide +kernel)
theorem k_in_W : (Cond.initialized "PagedBytes$Row") ∈ GG := gg_of (List.mem_of_getElem? (i := 25) (by decide +kernel)) (by decide +kernel)
theorem k_in_JSystem : (Cond.initialized "java/lang/System") ∈ GG := gg_of (List.mem_of_getElem? (i := 26) (by decide +kernel)) (by decide +kernel)
theorem k_cl_L_8 : (Cond.classLink "PagedBytesLaw" (8 : Nat) "PagedBytes") ∈ GG := gg_of (List.mem_of_getElem? (i := 27) (by decide +kernel)) (by decide +kernel)
theorem k_it_P : (Cond.instantiable "PagedBytes" (4 : Nat)) ∈ GG := gg_of (List.mem_of_getElem? (i := 28) (by decide +kernel)) (by decide +kernel)
theorem k_ml_L_48 : (Cond.methodLink "PagedBytesLaw" (48 : Nat) ({ cls := "PagedBytes", name := "<init>", desc := "()V" } : Jvm.MethodName)) ∈ GG := gg_of (List.mem_of_getElem? (i := 29) (by decide +kernel)) (by decide +kernel)
theorem k_im_P_init : (Cond.instanceMethod ({ cls := "PagedBytes", name := "<init>", desc := "()V" } : Jvm.MethodName)) ∈ GG := gg_of (List.mem_of_getElem? (i := 30) (by decide +kernel)) (by decide +kernel)
theorem k_co_P_init : (Cond.code ({ cls := "PagedBytes", name := "<init>", desc := "()V" } : Jvm.MethodName) prog_1_method_1_code (1 : Nat) (Option.none : Option Jvm.ClassFile.FieldType)) ∈ GG := gg_of (List.mem_of_getElem? (i := 31) (by decide +kernel)) (by decide +kernel)
theorem k_ml_P_3 : (Cond.methodLink "PagedBytes" (3 : Nat) ({ cls := "java/lang/Object", name := "<init>", desc := "()V" } : Jvm.MethodName)) ∈ GG := gg_of (List.mem_of_getElem? (i := 32) (by decide +kernel)) (by decide +kernel)
theorem k_im_JObject_init : (Cond.instanceMethod ({ cls := "java/lang/Object", name := "<init>", desc := "()V" } : Jvm.MethodName)) ∈ GG := gg_of (List.mem_of_getElem? (i := 33) (by decide +kernel)) (by decide +kernel)
theorem k_co_JObject_init : (Cond.code ({ cls := "java/lang/Object", name := "<init>", desc := "()V" } : Jvm.MethodName) object_method_1_code (1 : Nat) (Option.none : Option Jvm.ClassFile.FieldType)) ∈ GG := gg_of (List.mem_of_getElem? (i := 34) (by decide +kernel)) (by decide +kernel)
theorem k_cl_P_9 : (Cond.classLink "PagedBytes" (9 : Nat) "PagedBytes$Memory") ∈ GG := gg_of (List.mem_of_getElem? (i := 35) (by decide +kernel)) (by decide +kernel)
theorem k_fl_P_11 : (Cond.fieldLink "PagedBytes" (11 : Nat) "PagedBytes" "memories" "[LPagedBytes$Memory;") ∈ GG := gg_of (List.mem_of_getElem? (i := 37) (by decide +kernel)) (by decide +kernel)
theorem k_fl_P_15 : (Cond.fieldLink "PagedBytes" (15 : Nat) "PagedBytes" "copied" "[B") ∈ GG := gg_of (List.mem_of_getElem? (i := 38) (by decide +kernel)) (by decide +kernel)
theorem k_fl_P_19 : (Cond.fieldLink "PagedBytes" (19 : Nat) "PagedBytes" "memoryCount" "I") ∈ GG := gg_of (List.mem_of_getElem? (i := 39) (by decide +kernel)) (by decide +kernel)
theorem k_fl_P_23 : (Cond.fieldLink "PagedBytes" (23 : Nat) "PagedBytes" "pagesInAll" "I") ∈ GG := gg_of (List.mem_of_getElem? (i := 40) (by decide +kernel)) (by decide +kernel)
theorem k_ml_L_52 : (Cond.methodLink "PagedBytesLaw" (52 : Nat) ({ cls := "PagedBytesLaw", name := "make", desc := "(LPagedBytes;II[J)I" } : Jvm.MethodName)) ∈ GG := gg_of (List.mem_of_getElem? (i := 51) (by decide +kernel)) (by decide +kernel)
theorem k_sm_L_make : (Cond.static ({ cls := "PagedBytesLaw", name := "make", desc := "(LPagedBytes;II[J)I" } : Jvm.MethodName)) ∈ GG := gg_of (List.mem_of_getElem? (i := 52) (by decide +kernel)) (by decide +kernel)
theorem k_co_L_make : (Cond.codeWith ({ cls := "PagedBytesLaw", name := "make", desc := "(LPagedBytes;II[J)I" } : Jvm.MethodName) method_3_code (5 : Nat) (Option.some Jvm.ClassFile.FieldType.int) [((0 : Nat), (10 : Nat), (13 : Nat), (13 : Nat)), ((0 : Nat), (10 : Nat), (17 : Nat), (15 : Nat)), ((0 : Nat), (10 : Nat), (21 : Nat), (17 : Nat))]) ∈ GG := gg_of (List.mem_of_getElem? (i := 53) (by decide +kernel)) (by decide +kernel)
theorem k_cl_L_13 : (Cond.classLink "PagedBytesLaw" (13 : Nat) "java/lang/IllegalArgumentException") ∈ GG := gg_of (List.mem_of_getElem? (i := 54) (by decide +kernel)) (by decide +kernel)
theorem k_cl_L_15 : (Cond.classLink "PagedBytesLaw" (15 : Nat) "java/lang/IllegalStateException") ∈ GG := gg_of (List.mem_of_getElem? (i := 55) (by decide +kernel)) (by decide +kernel)
theorem k_cl_L_17 : (Cond.classLink "PagedBytesLaw" (17 : Nat) "java/lang/UnsupportedOperationException") ∈ GG := gg_of (List.mem_of_getElem? (i := 56) (by decide +kernel)) (by decide +kernel)
theorem k_ml_L_7 : (Cond.methodLink "PagedBytesLaw" (7 : Nat) ({ cls := "PagedBytes", name := "make", desc := "(II)I" } : Jvm.MethodName)) ∈ GG := gg_of (List.mem_of_getElem? (i := 57) (by decide +kernel)) (by decide +kernel)
theorem k_im_P_make : (Cond.instanceMethod ({ cls := "PagedBytes", name := "make", desc := "(II)I" } : Jvm.MethodName)) ∈ GG := gg_of (List.mem_of_getElem? (i := 58) (by decide +kernel)) (by decide +kernel)
theorem k_se_P_make : (Cond.selects "PagedBytes" ({ cls := "PagedBytes", name := "make", desc := "(II)I" } : Jvm.MethodName) ({ cls := "PagedBytes", name := "make", desc := "(II)I" } : Jvm.MethodName)) ∈ GG := gg_of (List.mem_of_getElem? (i := 59) (by decide +kernel)) (by decide +kernel)
theorem k_co_P_make : (Cond.code ({ cls := "PagedBytes", name := "make", desc := "(II)I" } : Jvm.MethodName) prog_1_method_2_code (4 : Nat) (Option.some Jvm.ClassFile.FieldType.int)) ∈ GG := gg_of (List.mem_of_getElem? (i := 60) (by decide +kernel)) (by decide +kernel)
theorem k_cn_P_26 : (Cond.constant "PagedBytes" (26 : Nat) (65536 : Int32)) ∈ GG := gg_of (List.mem_of_getElem? (i := 61) (by decide +kernel)) (by decide +kernel)
theorem k_cl_P_27 : (Cond.classLink "PagedBytes" (27 : Nat) "java/lang/IllegalArgumentException") ∈ GG := gg_of (List.mem_of_getElem? (i := 62) (by decide +kernel)) (by decide +kernel)
theorem k_it_JIllegalArgumentException : (Cond.instantiable "java/lang/IllegalArgumentException" (6 : Nat)) ∈ GG := gg_of (List.mem_of_getElem? (i := 63) (by decide +kernel)) (by decide +kernel)
theorem k_se_JIllegalArgumentException_fillInStackTrace : (Cond.selects "java/lang/IllegalArgumentException" ({ cls := "java/lang/Throwable", name := "fillInStackTrace", desc := "(I)Ljava/lang/Throwable;" } : Jvm.MethodName) ({ cls := "java/lang/Throwable", name := "fillInStackTrace", desc := "(I)Ljava/lang/Throwable;" } : Jvm.MethodName)) ∈ GG := gg_of (List.mem_of_getElem? (i := 71) (by decide +kernel)) (by decide +kernel)
theorem k_fl_JThrowable_198 : (Cond.fieldLink "java/lang/Throwable" (198 : Nat) "java/lang/Throwable" "backtrace" "Ljava/lang/Object;") ∈ GG := gg_of (List.mem_of_getElem? (i := 83) (by decide +kernel)) (by decide +kernel)
theorem k_im_JThrowable_init : (Cond.instanceMethod ({ cls := "java/lang/Throwable", name := "<init>", desc := "()V" } : Jvm.MethodName)) ∈ GG := gg_of (List.mem_of_getElem? (i := 85) (by decide +kernel)) (by decide +kernel)
theorem k_co_JThrowable_init : (Cond.code ({ cls := "java/lang/Throwable", name := "<init>", desc := "()V" } : Jvm.MethodName) prog_14_method_1_code (1 : Nat) (Option.none : Option Jvm.ClassFile.FieldType)) ∈ GG := gg_of (List.mem_of_getElem? (i := 86) (by decide +kernel)) (by decide +kernel)
theorem k_ml_JThrowable_1 : (Cond.methodLink "java/lang/Throwable" (1 : Nat) ({ cls := "java/lang/Object", name := "<init>", desc := "()V" } : Jvm.MethodName)) ∈ GG := gg_of (List.mem_of_getElem? (i := 87) (by decide +kernel)) (by decide +kernel)
theorem k_fl_JThrowable_13 : (Cond.fieldLink "java/lang/Throwable" (13 : Nat) "java/lang/Throwable" "UNASSIGNED_STACK" "[Ljava/lang/StackTraceElement;") ∈ GG := gg_of (List.mem_of_getElem? (i := 88) (by decide +kernel)) (by decide +kernel)
theorem k_fl_JThrowable_20 : (Cond.fieldLink "java/lang/Throwable" (20 : Nat) "java/lang/Throwable" "SUPPRESSED_SENTINEL" "Ljava/util/List;") ∈ GG := gg_of (List.mem_of_getElem? (i := 90) (by decide +kernel)) (by decide +kernel)
theorem k_ml_JThrowable_27 : (Cond.methodLink "java/lang/Throwable" (27 : Nat) ({ cls := "java/lang/Throwable", name := "fillInStackTrace", desc := "()Ljava/lang/Throwable;" } : Jvm.MethodName)) ∈ GG := gg_of (List.mem_of_getElem? (i := 92) (by decide +kernel)) (by decide +kernel)
theorem k_im_JThrowable_fillInStackTrace : (Cond.instanceMethod ({ cls := "java/lang/Throwable", name := "fillInStackTrace", desc := "()Ljava/lang/Throwable;" } : Jvm.MethodName)) ∈ GG := gg_of (List.mem_of_getElem? (i := 93) (by decide +kernel)) (by decide +kernel)
theorem k_se_JIllegalStateException_fillInStackTrace : (Cond.selects "java/lang/IllegalStateException" ({ cls := "java/lang/Throwable", name := "fillInStackTrace", desc := "()Ljava/lang/Throwable;" } : Jvm.MethodName) ({ cls := "java/lang/Throwable", name := "fillInStackTrace", desc := "()Ljava/lang/Throwable;" } : Jvm.MethodName)) ∈ GG := gg_of (List.mem_of_getElem? (i := 95) (by decide +kernel)) (by decide +kernel)
theorem k_se_JIndexOutOfBoundsException_fillInStackTrace : (Cond.selects "java/lang/IndexOutOfBoundsException" ({ cls := "java/lang/Throwable", name := "fillInStackTrace", desc := "()Ljava/lang/Throwable;" } : Jvm.MethodName) ({ cls := "java/lang/Throwable", name := "fillInStackTrace", desc := "()Ljava/lang/Throwable;" } : Jvm.MethodName)) ∈ GG := gg_of (List.mem_of_getElem? (i := 96) (by decide +kernel)) (by decide +kernel)
theorem k_se_JUnsupportedOperationException_fillInStackTrace : (Cond.selects "java/lang/UnsupportedOperationException" ({ cls := "java/lang/Throwable", name := "fillInStackTrace", desc := "()Ljava/lang/Throwable;" } : Jvm.MethodName) ({ cls := "java/lang/Throwable", name := "fillInStackTrace", desc := "()Ljava/lang/Throwable;" } : Jvm.MethodName)) ∈ GG := gg_of (List.mem_of_getElem? (i := 97) (by decide +kernel)) (by decide +kernel)
theorem k_co_JThrowable_fillInStackTrace : (Cond.codeSync ({ cls := "java/lang/Throwable", name := "fillInStackTrace", desc := "()Ljava/lang/Throwable;" } : Jvm.MethodName) prog_14_method_18_code (1 : Nat) (Option.some (Jvm.ClassFile.FieldType.object "java/lang/Throwable"))) ∈ GG := gg_of (List.mem_of_getElem? (i := 98) (by decide +kernel)) (by decide +kernel)
theorem k_ml_JThrowable_202 : (Cond.methodLink "java/lang/Throwable" (202 : Nat) ({ cls := "java/lang/Throwable", name := "fillInStackTrace", desc := "(I)Ljava/lang/Throwable;" } : Jvm.MethodName)) ∈ GG := gg_of (List.mem_of_getElem? (i := 99) (by decide +kernel)) (by decide +kernel)
theorem k_it_JThrowable : (Cond.instantiable "java/lang/Throwable" (6 : Nat)) ∈ GG := gg_of (List.mem_of_getElem? (i := 102) (by decide +kernel)) (by decide +kernel)
theorem k_nm_JThrowable_fillInStackTrace : (Cond.native ({ cls := "java/lang/Throwable", name := "fillInStackTrace", desc := "(I)Ljava/lang/Throwable;" } : Jvm.MethodName)) ∈ GG := gg_of (List.mem_of_getElem? (i := 103) (by decide +kernel)) (by decide +kernel)
theorem k_ml_P_31 : (Cond.methodLink "PagedBytes" (31 : Nat) ({ cls := "java/lang/IllegalArgumentException", name := "<init>", desc := "(Ljava/lang/String;)V" } : Jvm.MethodName)) ∈ GG := gg_of (List.mem_of_getElem? (i := 105) (by decide +kernel)) (by decide +kernel)
theorem k_im_JIllegalArgumentException_init : (Cond.instanceMethod ({ cls := "java/lang/IllegalArgumentException", name := "<init>", desc := "(Ljava/lang/String;)V" } : Jvm.MethodName)) ∈ GG := gg_of (List.mem_of_getElem? (i := 106) (by decide +kernel)) (by decide +kernel)
theorem k_co_JIllegalArgumentException_init : (Cond.code ({ cls := "java/lang/IllegalArgumentException", name := "<init>", desc := "(Ljava/lang/String;)V" } : Jvm.MethodName) prog_7_method_2_code (2 : Nat) (Option.none : Option Jvm.ClassFile.FieldType)) ∈ GG := gg_of (List.mem_of_getElem? (i := 107) (by decide +kernel)) (by decide +kernel)
theorem k_ml_JIllegalArgumentException_7 : (Cond.methodLink "java/lang/IllegalArgumentException" (7 : Nat) ({ cls := "java/lang/RuntimeException", name := "<init>", desc := "(Ljava/lang/String;)V" } : Jvm.MethodName)) ∈ GG := gg_of (List.mem_of_getElem? (i := 108) (by decide +kernel)) (by decide +kernel)
theorem k_im_JRuntimeException_init : (Cond.instanceMethod ({ cls := "java/lang/RuntimeException", name := "<init>", desc := "(Ljava/lang/String;)V" } : Jvm.MethodName)) ∈ GG := gg_of (List.mem_of_getElem? (i := 109) (by decide +kernel)) (by decide +kernel)
theorem k_co_JRuntimeException_init : (Cond.code ({ cls := "java/lang/RuntimeException", name := "<init>", desc := "(Ljava/lang/String;)V" } : Jvm.MethodName) prog_11_method_2_code (2 : Nat) (Option.none : Option Jvm.ClassFile.FieldType)) ∈ GG := gg_of (List.mem_of_getElem? (i := 110) (by decide +kernel)) (by decide +kernel)
theorem k_ml_JRuntimeException_7 : (Cond.methodLink "java/lang/RuntimeException" (7 : Nat) ({ cls := "java/lang/Exception", name := "<init>", desc := "(Ljava/lang/String;)V" } : Jvm.MethodName)) ∈ GG := gg_of (List.mem_of_getElem? (i := 111) (by decide +kernel)) (by decide +kernel)
theorem k_im_JException_init : (Cond.instanceMethod ({ cls := "java/lang/Exception", name := "<init>", desc := "(Ljava/lang/String;)V" } : Jvm.MethodName)) ∈ GG := gg_of (List.mem_of_getElem? (i := 112) (by decide +kernel)) (by decide +kernel)
theorem k_co_JException_init : (Cond.code ({ cls := "java/lang/Exception", name := "<init>", desc := "(Ljava/lang/String;)V" } : Jvm.MethodName) prog_6_method_2_code (2 : Nat) (Option.none : Option Jvm.ClassFile.FieldType)) ∈ GG := gg_of (List.mem_of_getElem? (i := 113) (by decide +kernel)) (by decide +kernel)
theorem k_ml_JException_7 : (Cond.methodLink "java/lang/Exception" (7 : Nat) ({ cls := "java/lang/Throwable", name := "<init>", desc := "(Ljava/lang/String;)V" } : Jvm.MethodName)) ∈ GG := gg_of (List.mem_of_getElem? (i := 114) (by decide +kernel)) (by decide +kernel)
theorem k_fl_JThrowable_31 : (Cond.fieldLink "java/lang/Throwable" (31 : Nat) "java/lang/Throwable" "detailMessage" "Ljava/lang/String;") ∈ GG := gg_of (List.mem_of_getElem? (i := 118) (by decide +kernel)) (by decide +kernel)
theorem k_fl_JThrowable_7 : (Cond.fieldLink "java/lang/Throwable" (7 : Nat) "java/lang/Throwable" "cause" "Ljava/lang/Throwable;") ∈ GG := gg_of (List.mem_of_getElem? (i := 119) (by decide +kernel)) (by decide +kernel)
theorem k_fl_JThrowable_17 : (Cond.fieldLink "java/lang/Throwable" (17 : Nat) "java/lang/Throwable" "stackTrace" "[Ljava/lang/StackTraceElement;") ∈ GG := gg_of (List.mem_of_getElem? (i := 120) (by decide +kernel)) (by decide +kernel)
theorem k_fl_JThrowable_24 : (Cond.fieldLink "java/lang/Throwable" (24 : Nat) "java/lang/Throwable" "suppressedExceptions" "Ljava/util/List;") ∈ GG := gg_of (List.mem_of_getElem? (i := 121) (by decide +kernel)) (by decide +kernel)
theorem k_cl_P_36 : (Cond.classLink "PagedBytes" (36 : Nat) "java/lang/IllegalStateException") ∈ GG := gg_of (List.mem_of_getElem? (i := 131) (by decide +kernel)) (by decide +kernel)
theorem k_it_JIllegalStateException : (Cond.instantiable "java/lang/IllegalStateException" (6 : Nat)) ∈ GG := gg_of (List.mem_of_getElem? (i := 132) (by decide +kernel)) (by decide +kernel)
theorem k_ml_P_40 : (Cond.methodLink "PagedBytes" (40 : Nat) ({ cls := "java/lang/IllegalStateException", name := "<init>", desc := "(Ljava/lang/String;)V" } : Jvm.MethodName)) ∈ GG := gg_of (List.mem_of_getElem? (i := 141) (by decide +kernel)) (by decide +kernel)
theorem k_im_JIllegalStateException_init : (Cond.instanceMethod ({ cls := "java/lang/IllegalStateException", name := "<init>", desc := "(Ljava/lang/String;)V" } : Jvm.MethodName)) ∈ GG := gg_of (List.mem_of_getElem? (i := 142) (by decide +kernel)) (by decide +kernel)
theorem k_co_JIllegalStateException_init : (Cond.code ({ cls := "java/lang/IllegalStateException", name := "<init>", desc := "(Ljava/lang/String;)V" } : Jvm.MethodName) prog_8_method_2_code (2 : Nat) (Option.none : Option Jvm.ClassFile.FieldType)) ∈ GG := gg_of (List.mem_of_getElem? (i := 143) (by decide +kernel)) (by decide +kernel)
theorem k_ml_JIllegalStateException_7 : (Cond.methodLink "java/lang/IllegalStateException" (7 : Nat) ({ cls := "java/lang/RuntimeException", name := "<init>", desc := "(Ljava/lang/String;)V" } : Jvm.MethodName)) ∈ GG := gg_of (List.mem_of_getElem? (i := 144) (by decide +kernel)) (by decide +kernel)
theorem k_cl_P_41 : (Cond.classLink "PagedBytes" (41 : Nat) "java/lang/UnsupportedOperationException") ∈ GG := gg_of (List.mem_of_getElem? (i := 147) (by decide +kernel)) (by decide +kernel)
theorem k_it_JUnsupportedOperationException : (Cond.instantiable "java/lang/UnsupportedOperationException" (6 : Nat)) ∈ GG := gg_of (List.mem_of_getElem? (i := 148) (by decide +kernel)) (by decide +kernel)
theorem k_ml_P_45 : (Cond.methodLink "PagedBytes" (45 : Nat) ({ cls := "java/lang/UnsupportedOperationException", name := "<init>", desc := "(Ljava/lang/String;)V" } : Jvm.MethodName)) ∈ GG := gg_of (List.mem_of_getElem? (i := 157) (by decide +kernel)) (by decide +kernel)
theorem k_im_JUnsupportedOperationException_init : (Cond.instanceMethod ({ cls := "java/lang/UnsupportedOperationException", name := "<init>", desc := "(Ljava/lang/String;)V" } : Jvm.MethodName)) ∈ GG := gg_of (List.mem_of_getElem? (i := 158) (by decide +kernel)) (by decide +kernel)
theorem k_co_JUnsupportedOperationException_init : (Cond.code ({ cls := "java/lang/UnsupportedOperationException", name := "<init>", desc := "(Ljava/lang/String;)V" } : Jvm.MethodName) prog_15_method_2_code (2 : Nat) (Option.none : Option Jvm.ClassFile.FieldType)) ∈ GG := gg_of (List.mem_of_getElem? (i := 159) (by decide +kernel)) (by decide +kernel)
theorem k_ml_JUnsupportedOperationException_7 : (Cond.methodLink "java/lang/UnsupportedOperationException" (7 : Nat) ({ cls := "java/lang/RuntimeException", name := "<init>", desc := "(Ljava/lang/String;)V" } : Jvm.MethodName)) ∈ GG := gg_of (List.mem_of_getElem? (i := 160) (by decide +kernel)) (by decide +kernel)
theorem k_it_M : (Cond.instantiable "PagedBytes$Memory" (3 : Nat)) ∈ GG := gg_of (List.mem_of_getElem? (i := 163) (by decide +kernel)) (by decide +kernel)
theorem k_ml_P_46 : (Cond.methodLink "PagedBytes" (46 : Nat) ({ cls := "PagedBytes$Memory", name := "<init>", desc := "(II)V" } : Jvm.MethodName)) ∈ GG := gg_of (List.mem_of_getElem? (i := 164) (by decide +kernel)) (by decide +kernel)
theorem k_im_M_init : (Cond.instanceMethod ({ cls := "PagedBytes$Memory", name := "<init>", desc := "(II)V" } : Jvm.MethodName)) ∈ GG := gg_of (List.mem_of_getElem? (i := 165) (by decide +kernel)) (by decide +kernel)
theorem k_co_M_init : (Cond.code ({ cls := "PagedBytes$Memory", name := "<init>", desc := "(II)V" } : Jvm.MethodName) prog_2_method_1_code (4 : Nat) (Option.none : Option Jvm.ClassFile.FieldType)) ∈ GG := gg_of (List.mem_of_getElem? (i := 166) (by decide +kernel)) (by decide +kernel)
theorem k_ml_M_3 : (Cond.methodLink "PagedBytes$Memory" (3 : Nat) ({ cls := "java/lang/Object", name := "<init>", desc := "()V" } : Jvm.MethodName)) ∈ GG := gg_of (List.mem_of_getElem? (i := 167) (by decide +kernel)) (by decide +kernel)
theorem k_ml_M_18 : (Cond.methodLink "PagedBytes$Memory" (18 : Nat) ({ cls := "java/lang/Math", name := "min", desc := "(II)I" } : Jvm.MethodName)) ∈ GG := gg_of (List.mem_of_getElem? (i := 168) (by decide +kernel)) (by decide +kernel)
theorem k_sm_JMath_min : (Cond.static ({ cls := "java/lang/Math", name := "min", desc := "(II)I" } : Jvm.MethodName)) ∈ GG := gg_of (List.mem_of_getElem? (i := 169) (by decide +kernel)) (by decide +kernel)
theorem k_co_JMath_min : (Cond.code ({ cls := "java/lang/Math", name := "min", desc := "(II)I" } : Jvm.MethodName) prog_10_method_69_code (2 : Nat) (Option.some Jvm.ClassFile.FieldType.int)) ∈ GG := gg_of (List.mem_of_getElem? (i := 170) (by decide +kernel)) (by decide +kernel)
theorem k_ml_M_24 : (Cond.methodLink "PagedBytes$Memory" (24 : Nat) ({ cls := "java/lang/Math", name := "max", desc := "(II)I" } : Jvm.MethodName)) ∈ GG := gg_of (List.mem_of_getElem? (i := 171) (by decide +kernel)) (by decide +kernel)
theorem k_sm_JMath_max : (Cond.static ({ cls := "java/lang/Math", name := "max", desc := "(II)I" } : Jvm.MethodName)) ∈ GG := gg_of (List.mem_of_getElem? (i := 172) (by decide +kernel)) (by decide +kernel)
theorem k_co_JMath_max : (Cond.code ({ cls := "java/lang/Math", name := "max", desc := "(II)I" } : Jvm.MethodName) prog_10_method_65_code (2 : Nat) (Option.some Jvm.ClassFile.FieldType.int)) ∈ GG := gg_of (List.mem_of_getElem? (i := 173) (by decide +kernel)) (by decide +kernel)
theorem k_cl_M_27 : (Cond.classLink "PagedBytes$Memory" (27 : Nat) "PagedBytes$Row") ∈ GG := gg_of (List.mem_of_getElem? (i := 174) (by decide +kernel)) (by decide +kernel)
theorem k_fl_M_9 : (Cond.fieldLink "PagedBytes$Memory" (9 : Nat) "PagedBytes$Memory" "most" "I") ∈ GG := gg_of (List.mem_of_getElem? (i := 176) (by decide +kernel)) (by decide +kernel)
theorem k_fl_P_66 : (Cond.fieldLink "PagedBytes" (66 : Nat) "PagedBytes$Memory" "most" "I") ∈ GG := gg_of (List.mem_of_getElem? (i := 177) (by decide +kernel)) (by decide +kernel)
theorem k_fl_M_15 : (Cond.fieldLink "PagedBytes$Memory" (15 : Nat) "PagedBytes$Memory" "pageCount" "I") ∈ GG := gg_of (List.mem_of_getElem? (i := 178) (by decide +kernel)) (by decide +kernel)
theorem k_fl_P_53 : (Cond.fieldLink "PagedBytes" (53 : Nat) "PagedBytes$Memory" "pageCount" "I") ∈ GG := gg_of (List.mem_of_getElem? (i := 179) (by decide +kernel)) (by decide +kernel)
theorem k_fl_M_29 : (Cond.fieldLink "PagedBytes$Memory" (29 : Nat) "PagedBytes$Memory" "rows" "[LPagedBytes$Row;") ∈ GG := gg_of (List.mem_of_getElem? (i := 180) (by decide +kernel)) (by decide +kernel)
theorem k_ml_L_62 : (Cond.methodLink "PagedBytesLaw" (62 : Nat) ({ cls := "PagedBytesLaw", name := "pages", desc := "(LPagedBytes;I[J)I" } : Jvm.MethodName)) ∈ GG := gg_of (List.mem_of_getElem? (i := 188) (by decide +kernel)) (by decide +kernel)
theorem k_sm_L_pages : (Cond.static ({ cls := "PagedBytesLaw", name := "pages", desc := "(LPagedBytes;I[J)I" } : Jvm.MethodName)) ∈ GG := gg_of (List.mem_of_getElem? (i := 189) (by decide +kernel)) (by decide +kernel)
theorem k_co_L_pages : (Cond.codeWith ({ cls := "PagedBytesLaw", name := "pages", desc := "(LPagedBytes;I[J)I" } : Jvm.MethodName) method_4_code (4 : Nat) (Option.some Jvm.ClassFile.FieldType.int) [((0 : Nat), (9 : Nat), (12 : Nat), (13 : Nat))]) ∈ GG := gg_of (List.mem_of_getElem? (i := 190) (by decide +kernel)) (by decide +kernel)
theorem k_ml_L_19 : (Cond.methodLink "PagedBytesLaw" (19 : Nat) ({ cls := "PagedBytes", name := "pages", desc := "(I)I" } : Jvm.MethodName)) ∈ GG := gg_of (List.mem_of_getElem? (i := 191) (by decide +kernel)) (by decide +kernel)
theorem k_im_P_pages : (Cond.instanceMethod ({ cls := "PagedBytes", name := "pages", desc := "(I)I" } : Jvm.MethodName)) ∈ GG := gg_of (List.mem_of_getElem? (i := 192) (by decide +kernel)) (by decide +kernel)
theorem k_se_P_pages : (Cond.selects "PagedBytes" ({ cls := "PagedBytes", name := "pages", desc := "(I)I" } : Jvm.MethodName) ({ cls := "PagedBytes", name := "pages", desc := "(I)I" } : Jvm.MethodName)) ∈ GG := gg_of (List.mem_of_getElem? (i := 193) (by decide +kernel)) (by decide +kernel)
theorem k_co_P_pages : (Cond.code ({ cls := "PagedBytes", name := "pages", desc := "(I)I" } : Jvm.MethodName) prog_1_method_3_code (2 : Nat) (Option.some Jvm.ClassFile.FieldType.int)) ∈ GG := gg_of (List.mem_of_getElem? (i := 194) (by decide +kernel)) (by decide +kernel)
theorem k_ml_P_49 : (Cond.methodLink "PagedBytes" (49 : Nat) ({ cls := "PagedBytes", name := "memoryOf", desc := "(I)LPagedBytes$Memory;" } : Jvm.MethodName)) ∈ GG := gg_of (List.mem_of_getElem? (i := 195) (by decide +kernel)) (by decide +kernel)
theorem k_im_P_memoryOf : (Cond.instanceMethod ({ cls := "PagedBytes", name := "memoryOf", desc := "(I)LPagedBytes$Memory;" } : Jvm.MethodName)) ∈ GG := gg_of (List.mem_of_getElem? (i := 197) (by decide +kernel)) (by decide +kernel)
theorem k_co_P_memoryOf : (Cond.code ({ cls := "PagedBytes", name := "memoryOf", desc := "(I)LPagedBytes$Memory;" } : Jvm.MethodName) prog_1_method_10_code (2 : Nat) (Option.some (Jvm.ClassFile.FieldType.object "PagedBytes$Memory"))) ∈ GG := gg_of (List.mem_of_getElem? (i := 198) (by decide +kernel)) (by decide +kernel)
theorem k_ml_L_66 : (Cond.methodLink "PagedBytesLaw" (66 : Nat) ({ cls := "PagedBytesLaw", name := "grow", desc := "(LPagedBytes;II[J)I" } : Jvm.MethodName)) ∈ GG := gg_of (List.mem_of_getElem? (i := 200) (by decide +kernel)) (by decide +kernel)
theorem k_sm_L_grow : (Cond.static ({ cls := "PagedBytesLaw", name := "grow", desc := "(LPagedBytes;II[J)I" } : Jvm.MethodName)) ∈ GG := gg_of (List.mem_of_getElem? (i := 201) (by decide +kernel)) (by decide +kernel)
theorem k_co_L_grow : (Cond.codeWith ({ cls := "PagedBytesLaw", name := "grow", desc := "(LPagedBytes;II[J)I" } : Jvm.MethodName) method_5_code (5 : Nat) (Option.some Jvm.ClassFile.FieldType.int) [((0 : Nat), (10 : Nat), (13 : Nat), (13 : Nat))]) ∈ GG := gg_of (List.mem_of_getElem? (i := 202) (by decide +kernel)) (by decide +kernel)
theorem k_ml_L_23 : (Cond.methodLink "PagedBytesLaw" (23 : Nat) ({ cls := "PagedBytes", name := "grow", desc := "(II)I" } : Jvm.MethodName)) ∈ GG := gg_of (List.mem_of_getElem? (i := 203) (by decide +kernel)) (by decide +kernel)
theorem k_im_P_grow : (Cond.instanceMethod ({ cls := "PagedBytes", name := "grow", desc := "(II)I" } : Jvm.MethodName)) ∈ GG := gg_of (List.mem_of_getElem? (i := 204) (by decide +kernel)) (by decide +kernel)
theorem k_se_P_grow : (Cond.selects "PagedBytes" ({ cls := "PagedBytes", name := "grow", desc := "(II)I" } : Jvm.MethodName) ({ cls := "PagedBytes", name := "grow", desc := "(II)I" } : Jvm.MethodName)) ∈ GG := gg_of (List.mem_of_getElem? (i := 205) (by decide +kernel)) (by decide +kernel)
theorem k_co_P_grow : (Cond.code ({ cls := "PagedBytes", name := "grow", desc := "(II)I" } : Jvm.MethodName) prog_1_method_4_code (7 : Nat) (Option.some Jvm.ClassFile.FieldType.int)) ∈ GG := gg_of (List.mem_of_getElem? (i := 206) (by decide +kernel)) (by decide +kernel)
theorem k_ml_P_56 : (Cond.methodLink "PagedBytes" (56 : Nat) ({ cls := "PagedBytes", name := "withoutSign", desc := "(I)J" } : Jvm.MethodName)) ∈ GG := gg_of (List.mem_of_getElem? (i := 207) (by decide +kernel)) (by decide +kernel)
theorem k_sm_P_withoutSign : (Cond.static ({ cls := "PagedBytes", name := "withoutSign", desc := "(I)J" } : Jvm.MethodName)) ∈ GG := gg_of (List.mem_of_getElem? (i := 208) (by decide +kernel)) (by decide +kernel)
theorem k_co_P_withoutSign : (Cond.code ({ cls := "PagedBytes", name := "withoutSign", desc := "(I)J" } : Jvm.MethodName) prog_1_method_15_code (1 : Nat) (Option.some Jvm.ClassFile.FieldType.long)) ∈ GG := gg_of (List.mem_of_getElem? (i := 209) (by decide +kernel)) (by decide +kernel)
theorem k_cn_P_95 : (Cond.constantLong "PagedBytes" (95 : Nat) (4294967295 : Int64)) ∈ GG := gg_of (List.mem_of_getElem? (i := 210) (by decide +kernel)) (by decide +kernel)
theorem k_ml_P_60 : (Cond.methodLink "PagedBytes" (60 : Nat) ({ cls := "PagedBytes$Memory", name := "pageLimit", desc := "()I" } : Jvm.MethodName)) ∈ GG := gg_of (List.mem_of_getElem? (i := 211) (by decide +kernel)) (by decide +kernel)
theorem k_im_M_pageLimit : (Cond.instanceMethod ({ cls := "PagedBytes$Memory", name := "pageLimit", desc := "()I" } : Jvm.MethodName)) ∈ GG := gg_of (List.mem_of_getElem? (i := 212) (by decide +kernel)) (by decide +kernel)
theorem k_se_M_pageLimit : (Cond.selects "PagedBytes$Memory" ({ cls := "PagedBytes$Memory", name := "pageLimit", desc := "()I" } : Jvm.MethodName) ({ cls := "PagedBytes$Memory", name := "pageLimit", desc := "()I" } : Jvm.MethodName)) ∈ GG := gg_of (List.mem_of_getElem? (i := 213) (by decide +kernel)) (by decide +kernel)
theorem k_co_M_pageLimit : (Cond.code ({ cls := "PagedBytes$Memory", name := "pageLimit", desc := "()I" } : Jvm.MethodName) prog_2_method_2_code (1 : Nat) (Option.some Jvm.ClassFile.FieldType.int)) ∈ GG := gg_of (List.mem_of_getElem? (i := 214) (by decide +kernel)) (by decide +kernel)
theorem k_cn_M_33 : (Cond.constant "PagedBytes$Memory" (33 : Nat) (65536 : Int32)) ∈ GG := gg_of (List.mem_of_getElem? (i := 215) (by decide +kernel)) (by decide +kernel)
theorem k_cn_P_64 : (Cond.constantLong "PagedBytes" (64 : Nat) (16 : Int64)) ∈ GG := gg_of (List.mem_of_getElem? (i := 216) (by decide +kernel)) (by decide +kernel)
theorem k_ml_L_69 : (Cond.methodLink "PagedBytesLaw" (69 : Nat) ({ cls := "PagedBytesLaw", name := "fits", desc := "(LPagedBytes;III[J)I" } : Jvm.MethodName)) ∈ GG := gg_of (List.mem_of_getElem? (i := 217) (by decide +kernel)) (by decide +kernel)
theorem k_sm_L_fits : (Cond.static ({ cls := "PagedBytesLaw", name := "fits", desc := "(LPagedBytes;III[J)I" } : Jvm.MethodName)) ∈ GG := gg_of (List.mem_of_getElem? (i := 218) (by decide +kernel)) (by decide +kernel)
theorem k_co_L_fits : (Cond.codeWith ({ cls := "PagedBytesLaw", name := "fits", desc := "(LPagedBytes;III[J)I" } : Jvm.MethodName) method_6_code (6 : Nat) (Option.some Jvm.ClassFile.FieldType.int) [((0 : Nat), (19 : Nat), (22 : Nat), (13 : Nat))]) ∈ GG := gg_of (List.mem_of_getElem? (i := 219) (by decide +kernel)) (by decide +kernel)
theorem k_ml_L_26 : (Cond.methodLink "PagedBytesLaw" (26 : Nat) ({ cls := "PagedBytes", name := "fits", desc := "(III)Z" } : Jvm.MethodName)) ∈ GG := gg_of (List.mem_of_getElem? (i := 220) (by decide +kernel)) (by decide +kernel)
theorem k_im_P_fits : (Cond.instanceMethod ({ cls := "PagedBytes", name := "fits", desc := "(III)Z" } : Jvm.MethodName)) ∈ GG := gg_of (List.mem_of_getElem? (i := 221) (by decide +kernel)) (by decide +kernel)
theorem k_se_P_fits : (Cond.selects "PagedBytes" ({ cls := "PagedBytes", name := "fits", desc := "(III)Z" } : Jvm.MethodName) ({ cls := "PagedBytes", name := "fits", desc := "(III)Z" } : Jvm.MethodName)) ∈ GG := gg_of (List.mem_of_getElem? (i := 222) (by decide +kernel)) (by decide +kernel)
theorem k_co_P_fits : (Cond.code ({ cls := "PagedBytes", name := "fits", desc := "(III)Z" } : Jvm.MethodName) prog_1_method_5_code (5 : Nat) (Option.some Jvm.ClassFile.FieldType.boolean)) ∈ GG := gg_of (List.mem_of_getElem? (i := 223) (by decide +kernel)) (by decide +kernel)
theorem k_ml_L_73 : (Cond.methodLink "PagedBytesLaw" (73 : Nat) ({ cls := "PagedBytesLaw", name := "load", desc := "(LPagedBytes;IIII[J)I" } : Jvm.MethodName)) ∈ GG := gg_of (List.mem_of_getElem? (i := 224) (by decide +kernel)) (by decide +kernel)
theorem k_sm_L_load : (Cond.static ({ cls := "PagedBytesLaw", name := "load", desc := "(LPagedBytes;IIII[J)I" } : Jvm.MethodName)) ∈ GG := gg_of (List.mem_of_getElem? (i := 225) (by decide +kernel)) (by decide +kernel)
theorem k_co_L_load : (Cond.codeWith ({ cls := "PagedBytesLaw", name := "load", desc := "(LPagedBytes;IIII[J)I" } : Jvm.MethodName) method_7_code (7 : Nat) (Option.some Jvm.ClassFile.FieldType.int) [((0 : Nat), (13 : Nat), (16 : Nat), (13 : Nat)), ((0 : Nat), (13 : Nat), (20 : Nat), (34 : Nat))]) ∈ GG := gg_of (List.mem_of_getElem? (i := 226) (by decide +kernel)) (by decide +kernel)
theorem k_cl_L_34 : (Cond.classLink "PagedBytesLaw" (34 : Nat) "java/lang/IndexOutOfBoundsException") ∈ GG := gg_of (List.mem_of_getElem? (i := 227) (by decide +kernel)) (by decide +kernel)
theorem k_ml_L_30 : (Cond.methodLink "PagedBytesLaw" (30 : Nat) ({ cls := "PagedBytes", name := "load", desc := "(IIII)J" } : Jvm.MethodName)) ∈ GG := gg_of (List.mem_of_getElem? (i := 228) (by decide +kernel)) (by decide +kernel)
theorem k_im_P_load : (Cond.instanceMethod ({ cls := "PagedBytes", name := "load", desc := "(IIII)J" } : Jvm.MethodName)) ∈ GG := gg_of (List.mem_of_getElem? (i := 229) (by decide +kernel)) (by decide +kernel)
theorem k_se_P_load : (Cond.selects "PagedBytes" ({ cls := "PagedBytes", name := "load", desc := "(IIII)J" } : Jvm.MethodName) ({ cls := "PagedBytes", name := "load", desc := "(IIII)J" } : Jvm.MethodName)) ∈ GG := gg_of (List.mem_of_getElem? (i := 230) (by decide +kernel)) (by decide +kernel)
theorem k_co_P_load : (Cond.code ({ cls := "PagedBytes", name := "load", desc := "(IIII)J" } : Jvm.MethodName) prog_1_method_6_code (11 : Nat) (Option.some Jvm.ClassFile.FieldType.long)) ∈ GG := gg_of (List.mem_of_getElem? (i := 231) (by decide +kernel)) (by decide +kernel)
theorem k_fl_P_69 : (Cond.fieldLink "PagedBytes" (69 : Nat) "PagedBytes" "LOAD_BYTES" "[I") ∈ GG := gg_of (List.mem_of_getElem? (i := 232) (by decide +kernel)) (by decide +kernel)
theorem k_ml_P_73 : (Cond.methodLink "PagedBytes" (73 : Nat) ({ cls := "PagedBytes", name := "kindOf", desc := "(III)I" } : Jvm.MethodName)) ∈ GG := gg_of (List.mem_of_getElem? (i := 234) (by decide +kernel)) (by decide +kernel)
theorem k_sm_P_kindOf : (Cond.static ({ cls := "PagedBytes", name := "kindOf", desc := "(III)I" } : Jvm.MethodName)) ∈ GG := gg_of (List.mem_of_getElem? (i := 235) (by decide +kernel)) (by decide +kernel)
theorem k_co_P_kindOf : (Cond.code ({ cls := "PagedBytes", name := "kindOf", desc := "(III)I" } : Jvm.MethodName) prog_1_method_11_code (3 : Nat) (Option.some Jvm.ClassFile.FieldType.int)) ∈ GG := gg_of (List.mem_of_getElem? (i := 236) (by decide +kernel)) (by decide +kernel)
theorem k_ml_P_77 : (Cond.methodLink "PagedBytes" (77 : Nat) ({ cls := "PagedBytes", name := "placeOf", desc := "(LPagedBytes$Memory;III)I" } : Jvm.MethodName)) ∈ GG := gg_of (List.mem_of_getElem? (i := 238) (by decide +kernel)) (by decide +kernel)
theorem k_sm_P_placeOf : (Cond.static ({ cls := "PagedBytes", name := "placeOf", desc := "(LPagedBytes$Memory;III)I" } : Jvm.MethodName)) ∈ GG := gg_of (List.mem_of_getElem? (i := 239) (by decide +kernel)) (by decide +kernel)
theorem k_co_P_placeOf : (Cond.code ({ cls := "PagedBytes", name := "placeOf", desc := "(LPagedBytes$Memory;III)I" } : Jvm.MethodName) prog_1_method_12_code (6 : Nat) (Option.some Jvm.ClassFile.FieldType.int)) ∈ GG := gg_of (List.mem_of_getElem? (i := 240) (by decide +kernel)) (by decide +kernel)
theorem k_ml_P_107 : (Cond.methodLink "PagedBytes" (107 : Nat) ({ cls := "PagedBytes", name := "checkThere", desc := "(LPagedBytes$Memory;JI)V" } : Jvm.MethodName)) ∈ GG := gg_of (List.mem_of_getElem? (i := 241) (by decide +kernel)) (by decide +kernel)
theorem k_sm_P_checkThere : (Cond.static ({ cls := "PagedBytes", name := "checkThere", desc := "(LPagedBytes$Memory;JI)V" } : Jvm.MethodName)) ∈ GG := gg_of (List.mem_of_getElem? (i := 242) (by decide +kernel)) (by decide +kernel)
theorem k_co_P_checkThere : (Cond.code ({ cls := "PagedBytes", name := "checkThere", desc := "(LPagedBytes$Memory;JI)V" } : Jvm.MethodName) prog_1_method_14_code (4 : Nat) (Option.none : Option Jvm.ClassFile.FieldType)) ∈ GG := gg_of (List.mem_of_getElem? (i := 243) (by decide +kernel)) (by decide +kernel)
theorem k_ml_P_128 : (Cond.methodLink "PagedBytes" (128 : Nat) ({ cls := "PagedBytes$Memory", name := "size", desc := "()J" } : Jvm.MethodName)) ∈ GG := gg_of (List.mem_of_getElem? (i := 244) (by decide +kernel)) (by decide +kernel)
theorem k_im_M_size : (Cond.instanceMethod ({ cls := "PagedBytes$Memory", name := "size", desc := "()J" } : Jvm.MethodName)) ∈ GG := gg_of (List.mem_of_getElem? (i := 245) (by decide +kernel)) (by decide +kernel)
theorem k_se_M_size : (Cond.selects "PagedBytes$Memory" ({ cls := "PagedBytes$Memory", name := "size", desc := "()J" } : Jvm.MethodName) ({ cls := "PagedBytes$Memory", name := "size", desc := "()J" } : Jvm.MethodName)) ∈ GG := gg_of (List.mem_of_getElem? (i := 246) (by decide +kernel)) (by decide +kernel)
theorem k_co_M_size : (Cond.code ({ cls := "PagedBytes$Memory", name := "size", desc := "()J" } : Jvm.MethodName) prog_2_method_3_code (1 : Nat) (Option.some Jvm.ClassFile.FieldType.long)) ∈ GG := gg_of (List.mem_of_getElem? (i := 247) (by decide +kernel)) (by decide +kernel)
theorem k_cn_M_34 : (Cond.constantLong "PagedBytes$Memory" (34 : Nat) (65536 : Int64)) ∈ GG := gg_of (List.mem_of_getElem? (i := 248) (by decide +kernel)) (by decide +kernel)
theorem k_cl_P_132 : (Cond.classLink "PagedBytes" (132 : Nat) "java/lang/IndexOutOfBoundsException") ∈ GG := gg_of (List.mem_of_getElem? (i := 249) (by decide +kernel)) (by decide +kernel)
theorem k_it_JIndexOutOfBoundsException : (Cond.instantiable "java/lang/IndexOutOfBoundsException" (6 : Nat)) ∈ GG := gg_of (List.mem_of_getElem? (i := 250) (by decide +kernel)) (by decide +kernel)
theorem k_ml_P_136 : (Cond.methodLink "PagedBytes" (136 : Nat) ({ cls := "java/lang/IndexOutOfBoundsException", name := "<init>", desc := "(Ljava/lang/String;)V" } : Jvm.MethodName)) ∈ GG := gg_of (List.mem_of_getElem? (i := 259) (by decide +kernel)) (by decide +kernel)
theorem k_im_JIndexOutOfBoundsException_init : (Cond.instanceMethod ({ cls := "java/lang/IndexOutOfBoundsException", name := "<init>", desc := "(Ljava/lang/String;)V" } : Jvm.MethodName)) ∈ GG := gg_of (List.mem_of_getElem? (i := 260) (by decide +kernel)) (by decide +kernel)
theorem k_co_JIndexOutOfBoundsException_init : (Cond.code ({ cls := "java/lang/IndexOutOfBoundsException", name := "<init>", desc := "(Ljava/lang/String;)V" } : Jvm.MethodName) prog_9_method_2_code (2 : Nat) (Option.none : Option Jvm.ClassFile.FieldType)) ∈ GG := gg_of (List.mem_of_getElem? (i := 261) (by decide +kernel)) (by decide +kernel)
theorem k_ml_JIndexOutOfBoundsException_7 : (Cond.methodLink "java/lang/IndexOutOfBoundsException" (7 : Nat) ({ cls := "java/lang/RuntimeException", name := "<init>", desc := "(Ljava/lang/String;)V" } : Jvm.MethodName)) ∈ GG := gg_of (List.mem_of_getElem? (i := 262) (by decide +kernel)) (by decide +kernel)
theorem k_ml_P_81 : (Cond.methodLink "PagedBytes" (81 : Nat) ({ cls := "PagedBytes$Memory", name := "numberAt", desc := "(II)J" } : Jvm.MethodName)) ∈ GG := gg_of (List.mem_of_getElem? (i := 265) (by decide +kernel)) (by decide +kernel)
theorem k_im_M_numberAt : (Cond.instanceMethod ({ cls := "PagedBytes$Memory", name := "numberAt", desc := "(II)J" } : Jvm.MethodName)) ∈ GG := gg_of (List.mem_of_getElem? (i := 266) (by decide +kernel)) (by decide +kernel)
theorem k_se_M_numberAt : (Cond.selects "PagedBytes$Memory" ({ cls := "PagedBytes$Memory", name := "numberAt", desc := "(II)J" } : Jvm.MethodName) ({ cls := "PagedBytes$Memory", name := "numberAt", desc := "(II)J" } : Jvm.MethodName)) ∈ GG := gg_of (List.mem_of_getElem? (i := 267) (by decide +kernel)) (by decide +kernel)
theorem k_co_M_numberAt : (Cond.code ({ cls := "PagedBytes$Memory", name := "numberAt", desc := "(II)J" } : Jvm.MethodName) prog_2_method_4_code (6 : Nat) (Option.some Jvm.ClassFile.FieldType.long)) ∈ GG := gg_of (List.mem_of_getElem? (i := 268) (by decide +kernel)) (by decide +kernel)
theorem k_ml_M_36 : (Cond.methodLink "PagedBytes$Memory" (36 : Nat) ({ cls := "PagedBytes$Memory", name := "byteAt", desc := "(I)I" } : Jvm.MethodName)) ∈ GG := gg_of (List.mem_of_getElem? (i := 269) (by decide +kernel)) (by decide +kernel)
theorem k_im_M_byteAt : (Cond.instanceMethod ({ cls := "PagedBytes$Memory", name := "byteAt", desc := "(I)I" } : Jvm.MethodName)) ∈ GG := gg_of (List.mem_of_getElem? (i := 271) (by decide +kernel)) (by decide +kernel)
theorem k_co_M_byteAt : (Cond.code ({ cls := "PagedBytes$Memory", name := "byteAt", desc := "(I)I" } : Jvm.MethodName) prog_2_method_10_code (3 : Nat) (Option.some Jvm.ClassFile.FieldType.int)) ∈ GG := gg_of (List.mem_of_getElem? (i := 272) (by decide +kernel)) (by decide +kernel)
theorem k_ml_M_44 : (Cond.methodLink "PagedBytes$Memory" (44 : Nat) ({ cls := "PagedBytes$Memory", name := "rowOrNull", desc := "(I)LPagedBytes$Row;" } : Jvm.MethodName)) ∈ GG := gg_of (List.mem_of_getElem? (i := 273) (by decide +kernel)) (by decide +kernel)
theorem k_im_M_rowOrNull : (Cond.instanceMethod ({ cls := "PagedBytes$Memory", name := "rowOrNull", desc := "(I)LPagedBytes$Row;" } : Jvm.MethodName)) ∈ GG := gg_of (List.mem_of_getElem? (i := 275) (by decide +kernel)) (by decide +kernel)
theorem k_co_M_rowOrNull : (Cond.code ({ cls := "PagedBytes$Memory", name := "rowOrNull", desc := "(I)LPagedBytes$Row;" } : Jvm.MethodName) prog_2_method_12_code (2 : Nat) (Option.some (Jvm.ClassFile.FieldType.object "PagedBytes$Row"))) ∈ GG := gg_of (List.mem_of_getElem? (i := 276) (by decide +kernel)) (by decide +kernel)
theorem k_fl_P_85 : (Cond.fieldLink "PagedBytes" (85 : Nat) "PagedBytes" "LOAD_SIGNED" "[I") ∈ GG := gg_of (List.mem_of_getElem? (i := 277) (by decide +kernel)) (by decide +kernel)
theorem k_ml_P_88 : (Cond.methodLink "PagedBytes" (88 : Nat) ({ cls := "PagedBytes", name := "withSign", desc := "(JI)J" } : Jvm.MethodName)) ∈ GG := gg_of (List.mem_of_getElem? (i := 279) (by decide +kernel)) (by decide +kernel)
theorem k_sm_P_withSign : (Cond.static ({ cls := "PagedBytes", name := "withSign", desc := "(JI)J" } : Jvm.MethodName)) ∈ GG := gg_of (List.mem_of_getElem? (i := 280) (by decide +kernel)) (by decide +kernel)
theorem k_co_P_withSign : (Cond.code ({ cls := "PagedBytes", name := "withSign", desc := "(JI)J" } : Jvm.MethodName) prog_1_method_16_code (4 : Nat) (Option.some Jvm.ClassFile.FieldType.long)) ∈ GG := gg_of (List.mem_of_getElem? (i := 281) (by decide +kernel)) (by decide +kernel)
theorem k_fl_P_92 : (Cond.fieldLink "PagedBytes" (92 : Nat) "PagedBytes" "LOAD_TYPE_BYTES" "[I") ∈ GG := gg_of (List.mem_of_getElem? (i := 282) (by decide +kernel)) (by decide +kernel)
theorem k_ml_L_79 : (Cond.methodLink "PagedBytesLaw" (79 : Nat) ({ cls := "PagedBytesLaw", name := "store", desc := "(LPagedBytes;IIIIJ)I" } : Jvm.MethodName)) ∈ GG := gg_of (List.mem_of_getElem? (i := 284) (by decide +kernel)) (by decide +kernel)
theorem k_sm_L_store : (Cond.static ({ cls := "PagedBytesLaw", name := "store", desc := "(LPagedBytes;IIIIJ)I" } : Jvm.MethodName)) ∈ GG := gg_of (List.mem_of_getElem? (i := 285) (by decide +kernel)) (by decide +kernel)
theorem k_co_L_store : (Cond.codeWith ({ cls := "PagedBytesLaw", name := "store", desc := "(LPagedBytes;IIIIJ)I" } : Jvm.MethodName) method_8_code (8 : Nat) (Option.some Jvm.ClassFile.FieldType.int) [((0 : Nat), (11 : Nat), (14 : Nat), (13 : Nat)), ((0 : Nat), (11 : Nat), (18 : Nat), (34 : Nat))]) ∈ GG := gg_of (List.mem_of_getElem? (i := 286) (by decide +kernel)) (by decide +kernel)
theorem k_ml_L_36 : (Cond.methodLink "PagedBytesLaw" (36 : Nat) ({ cls := "PagedBytes", name := "store", desc := "(IIIIJ)V" } : Jvm.MethodName)) ∈ GG := gg_of (List.mem_of_getElem? (i := 287) (by decide +kernel)) (by decide +kernel)
theorem k_im_P_store : (Cond.instanceMethod ({ cls := "PagedBytes", name := "store", desc := "(IIIIJ)V" } : Jvm.MethodName)) ∈ GG := gg_of (List.mem_of_getElem? (i := 288) (by decide +kernel)) (by decide +kernel)
theorem k_se_P_store : (Cond.selects "PagedBytes" ({ cls := "PagedBytes", name := "store", desc := "(IIIIJ)V" } : Jvm.MethodName) ({ cls := "PagedBytes", name := "store", desc := "(IIIIJ)V" } : Jvm.MethodName)) ∈ GG := gg_of (List.mem_of_getElem? (i := 289) (by decide +kernel)) (by decide +kernel)
theorem k_co_P_store : (Cond.code ({ cls := "PagedBytes", name := "store", desc := "(IIIIJ)V" } : Jvm.MethodName) prog_1_method_7_code (10 : Nat) (Option.none : Option Jvm.ClassFile.FieldType)) ∈ GG := gg_of (List.mem_of_getElem? (i := 290) (by decide +kernel)) (by decide +kernel)
theorem k_fl_P_97 : (Cond.fieldLink "PagedBytes" (97 : Nat) "PagedBytes" "STORE_BYTES" "[I") ∈ GG := gg_of (List.mem_of_getElem? (i := 291) (by decide +kernel)) (by decide +kernel)
theorem k_ml_P_100 : (Cond.methodLink "PagedBytes" (100 : Nat) ({ cls := "PagedBytes$Memory", name := "putNumber", desc := "(IIJ)V" } : Jvm.MethodName)) ∈ GG := gg_of (List.mem_of_getElem? (i := 293) (by decide +kernel)) (by decide +kernel)
theorem k_im_M_putNumber : (Cond.instanceMethod ({ cls := "PagedBytes$Memory", name := "putNumber", desc := "(IIJ)V" } : Jvm.MethodName)) ∈ GG := gg_of (List.mem_of_getElem? (i := 294) (by decide +kernel)) (by decide +kernel)
theorem k_se_M_putNumber : (Cond.selects "PagedBytes$Memory" ({ cls := "PagedBytes$Memory", name := "putNumber", desc := "(IIJ)V" } : Jvm.MethodName) ({ cls := "PagedBytes$Memory", name := "putNumber", desc := "(IIJ)V" } : Jvm.MethodName)) ∈ GG := gg_of (List.mem_of_getElem? (i := 295) (by decide +kernel)) (by decide +kernel)
theorem k_co_M_putNumber : (Cond.code ({ cls := "PagedBytes$Memory", name := "putNumber", desc := "(IIJ)V" } : Jvm.MethodName) prog_2_method_5_code (6 : Nat) (Option.none : Option Jvm.ClassFile.FieldType)) ∈ GG := gg_of (List.mem_of_getElem? (i := 296) (by decide +kernel)) (by decide +kernel)
theorem k_ml_M_40 : (Cond.methodLink "PagedBytes$Memory" (40 : Nat) ({ cls := "PagedBytes$Memory", name := "putByte", desc := "(IB)V" } : Jvm.MethodName)) ∈ GG := gg_of (List.mem_of_getElem? (i := 297) (by decide +kernel)) (by decide +kernel)
theorem k_im_M_putByte : (Cond.instanceMethod ({ cls := "PagedBytes$Memory", name := "putByte", desc := "(IB)V" } : Jvm.MethodName)) ∈ GG := gg_of (List.mem_of_getElem? (i := 299) (by decide +kernel)) (by decide +kernel)
theorem k_co_M_putByte : (Cond.code ({ cls := "PagedBytes$Memory", name := "putByte", desc := "(IB)V" } : Jvm.MethodName) prog_2_method_11_code (4 : Nat) (Option.none : Option Jvm.ClassFile.FieldType)) ∈ GG := gg_of (List.mem_of_getElem? (i := 300) (by decide +kernel)) (by decide +kernel)
theorem k_ml_M_62 : (Cond.methodLink "PagedBytes$Memory" (62 : Nat) ({ cls := "PagedBytes$Memory", name := "rowToWrite", desc := "(I)LPagedBytes$Row;" } : Jvm.MethodName)) ∈ GG := gg_of (List.mem_of_getElem? (i := 301) (by decide +kernel)) (by decide +kernel)
theorem k_im_M_rowToWrite : (Cond.instanceMethod ({ cls := "PagedBytes$Memory", name := "rowToWrite", desc := "(I)LPagedBytes$Row;" } : Jvm.MethodName)) ∈ GG := gg_of (List.mem_of_getElem? (i := 303) (by decide +kernel)) (by decide +kernel)
theorem k_co_M_rowToWrite : (Cond.code ({ cls := "PagedBytes$Memory", name := "rowToWrite", desc := "(I)LPagedBytes$Row;" } : Jvm.MethodName) prog_2_method_13_code (2 : Nat) (Option.some (Jvm.ClassFile.FieldType.object "PagedBytes$Row"))) ∈ GG := gg_of (List.mem_of_getElem? (i := 304) (by decide +kernel)) (by decide +kernel)
theorem k_it_W : (Cond.instantiable "PagedBytes$Row" (1 : Nat)) ∈ GG := gg_of (List.mem_of_getElem? (i := 305) (by decide +kernel)) (by decide +kernel)
theorem k_ml_M_69 : (Cond.methodLink "PagedBytes$Memory" (69 : Nat) ({ cls := "PagedBytes$Row", name := "<init>", desc := "()V" } : Jvm.MethodName)) ∈ GG := gg_of (List.mem_of_getElem? (i := 306) (by decide +kernel)) (by decide +kernel)
theorem k_im_W_init : (Cond.instanceMethod ({ cls := "PagedBytes$Row", name := "<init>", desc := "()V" } : Jvm.MethodName)) ∈ GG := gg_of (List.mem_of_getElem? (i := 307) (by decide +kernel)) (by decide +kernel)
theorem k_co_W_init : (Cond.code ({ cls := "PagedBytes$Row", name := "<init>", desc := "()V" } : Jvm.MethodName) prog_3_method_1_code (1 : Nat) (Option.none : Option Jvm.ClassFile.FieldType)) ∈ GG := gg_of (List.mem_of_getElem? (i := 308) (by decide +kernel)) (by decide +kernel)
theorem k_ml_W_3 : (Cond.methodLink "PagedBytes$Row" (3 : Nat) ({ cls := "java/lang/Object", name := "<init>", desc := "()V" } : Jvm.MethodName)) ∈ GG := gg_of (List.mem_of_getElem? (i := 309) (by decide +kernel)) (by decide +kernel)
theorem k_fl_W_9 : (Cond.fieldLink "PagedBytes$Row" (9 : Nat) "PagedBytes$Row" "bytes" "[B") ∈ GG := gg_of (List.mem_of_getElem? (i := 310) (by decide +kernel)) (by decide +kernel)
theorem k_fl_M_52 : (Cond.fieldLink "PagedBytes$Memory" (52 : Nat) "PagedBytes$Row" "bytes" "[B") ∈ GG := gg_of (List.mem_of_getElem? (i := 311) (by decide +kernel)) (by decide +kernel)
theorem k_ml_L_83 : (Cond.methodLink "PagedBytesLaw" (83 : Nat) ({ cls := "PagedBytesLaw", name := "copy", desc := "(LPagedBytes;IIIII)I" } : Jvm.MethodName)) ∈ GG := gg_of (List.mem_of_getElem? (i := 315) (by decide +kernel)) (by decide +kernel)
theorem k_sm_L_copy : (Cond.static ({ cls := "PagedBytesLaw", name := "copy", desc := "(LPagedBytes;IIIII)I" } : Jvm.MethodName)) ∈ GG := gg_of (List.mem_of_getElem? (i := 316) (by decide +kernel)) (by decide +kernel)
theorem k_co_L_copy : (Cond.codeWith ({ cls := "PagedBytesLaw", name := "copy", desc := "(LPagedBytes;IIIII)I" } : Jvm.MethodName) method_9_code (7 : Nat) (Option.some Jvm.ClassFile.FieldType.int) [((0 : Nat), (11 : Nat), (14 : Nat), (13 : Nat)), ((0 : Nat), (11 : Nat), (18 : Nat), (34 : Nat))]) ∈ GG := gg_of (List.mem_of_getElem? (i := 317) (by decide +kernel)) (by decide +kernel)
theorem k_ml_L_40 : (Cond.methodLink "PagedBytesLaw" (40 : Nat) ({ cls := "PagedBytes", name := "copy", desc := "(IIIII)V" } : Jvm.MethodName)) ∈ GG := gg_of (List.mem_of_getElem? (i := 318) (by decide +kernel)) (by decide +kernel)
theorem k_im_P_copy : (Cond.instanceMethod ({ cls := "PagedBytes", name := "copy", desc := "(IIIII)V" } : Jvm.MethodName)) ∈ GG := gg_of (List.mem_of_getElem? (i := 319) (by decide +kernel)) (by decide +kernel)
theorem k_se_P_copy : (Cond.selects "PagedBytes" ({ cls := "PagedBytes", name := "copy", desc := "(IIIII)V" } : Jvm.MethodName) ({ cls := "PagedBytes", name := "copy", desc := "(IIIII)V" } : Jvm.MethodName)) ∈ GG := gg_of (List.mem_of_getElem? (i := 320) (by decide +kernel)) (by decide +kernel)
theorem k_co_P_copy : (Cond.code ({ cls := "PagedBytes", name := "copy", desc := "(IIIII)V" } : Jvm.MethodName) prog_1_method_8_code (8 : Nat) (Option.none : Option Jvm.ClassFile.FieldType)) ∈ GG := gg_of (List.mem_of_getElem? (i := 321) (by decide +kernel)) (by decide +kernel)
theorem k_ml_P_104 : (Cond.methodLink "PagedBytes" (104 : Nat) ({ cls := "PagedBytes", name := "checkCount", desc := "(II)V" } : Jvm.MethodName)) ∈ GG := gg_of (List.mem_of_getElem? (i := 322) (by decide +kernel)) (by decide +kernel)
theorem k_sm_P_checkCount : (Cond.static ({ cls := "PagedBytes", name := "checkCount", desc := "(II)V" } : Jvm.MethodName)) ∈ GG := gg_of (List.mem_of_getElem? (i := 323) (by decide +kernel)) (by decide +kernel)
theorem k_co_P_checkCount : (Cond.code ({ cls := "PagedBytes", name := "checkCount", desc := "(II)V" } : Jvm.MethodName) prog_1_method_13_code (2 : Nat) (Option.none : Option Jvm.ClassFile.FieldType)) ∈ GG := gg_of (List.mem_of_getElem? (i := 324) (by decide +kernel)) (by decide +kernel)
theorem k_ml_P_111 : (Cond.methodLink "PagedBytes" (111 : Nat) ({ cls := "PagedBytes$Memory", name := "readInto", desc := "([BII)V" } : Jvm.MethodName)) ∈ GG := gg_of (List.mem_of_getElem? (i := 326) (by decide +kernel)) (by decide +kernel)
theorem k_im_M_readInto : (Cond.instanceMethod ({ cls := "PagedBytes$Memory", name := "readInto", desc := "([BII)V" } : Jvm.MethodName)) ∈ GG := gg_of (List.mem_of_getElem? (i := 327) (by decide +kernel)) (by decide +kernel)
theorem k_se_M_readInto : (Cond.selects "PagedBytes$Memory" ({ cls := "PagedBytes$Memory", name := "readInto", desc := "([BII)V" } : Jvm.MethodName) ({ cls := "PagedBytes$Memory", name := "readInto", desc := "([BII)V" } : Jvm.MethodName)) ∈ GG := gg_of (List.mem_of_getElem? (i := 328) (by decide +kernel)) (by decide +kernel)
theorem k_co_M_readInto : (Cond.code ({ cls := "PagedBytes$Memory", name := "readInto", desc := "([BII)V" } : Jvm.MethodName) prog_2_method_6_code (8 : Nat) (Option.none : Option Jvm.ClassFile.FieldType)) ∈ GG := gg_of (List.mem_of_getElem? (i := 329) (by decide +kernel)) (by decide +kernel)
theorem k_ml_M_48 : (Cond.methodLink "PagedBytes$Memory" (48 : Nat) ({ cls := "PagedBytes$Memory", name := "clear", desc := "([BII)V" } : Jvm.MethodName)) ∈ GG := gg_of (List.mem_of_getElem? (i := 330) (by decide +kernel)) (by decide +kernel)
theorem k_sm_M_clear : (Cond.static ({ cls := "PagedBytes$Memory", name := "clear", desc := "([BII)V" } : Jvm.MethodName)) ∈ GG := gg_of (List.mem_of_getElem? (i := 331) (by decide +kernel)) (by decide +kernel)
theorem k_co_M_clear : (Cond.code ({ cls := "PagedBytes$Memory", name := "clear", desc := "([BII)V" } : Jvm.MethodName) prog_2_method_7_code (4 : Nat) (Option.none : Option Jvm.ClassFile.FieldType)) ∈ GG := gg_of (List.mem_of_getElem? (i := 332) (by decide +kernel)) (by decide +kernel)
theorem k_ml_M_56 : (Cond.methodLink "PagedBytes$Memory" (56 : Nat) ({ cls := "java/lang/System", name := "arraycopy", desc := "(Ljava/lang/Object;ILjava/lang/Object;II)V" } : Jvm.MethodName)) ∈ GG := gg_of (List.mem_of_getElem? (i := 333) (by decide +kernel)) (by decide +kernel)
theorem k_sm_JSystem_arraycopy : (Cond.static ({ cls := "java/lang/System", name := "arraycopy", desc := "(Ljava/lang/Object;ILjava/lang/Object;II)V" } : Jvm.MethodName)) ∈ GG := gg_of (List.mem_of_getElem? (i := 334) (by decide +kernel)) (by decide +kernel)
theorem k_nm_JSystem_arraycopy : (Cond.native ({ cls := "java/lang/System", name := "arraycopy", desc := "(Ljava/lang/Object;ILjava/lang/Object;II)V" } : Jvm.MethodName)) ∈ GG := gg_of (List.mem_of_getElem? (i := 335) (by decide +kernel)) (by decide +kernel)
theorem k_ml_P_115 : (Cond.methodLink "PagedBytes" (115 : Nat) ({ cls := "PagedBytes$Memory", name := "writeFrom", desc := "([BII)V" } : Jvm.MethodName)) ∈ GG := gg_of (List.mem_of_getElem? (i := 336) (by decide +kernel)) (by decide +kernel)
theorem k_im_M_writeFrom : (Cond.instanceMethod ({ cls := "PagedBytes$Memory", name := "writeFrom", desc := "([BII)V" } : Jvm.MethodName)) ∈ GG := gg_of (List.mem_of_getElem? (i := 337) (by decide +kernel)) (by decide +kernel)
theorem k_se_M_writeFrom : (Cond.selects "PagedBytes$Memory" ({ cls := "PagedBytes$Memory", name := "writeFrom", desc := "([BII)V" } : Jvm.MethodName) ({ cls := "PagedBytes$Memory", name := "writeFrom", desc := "([BII)V" } : Jvm.MethodName)) ∈ GG := gg_of (List.mem_of_getElem? (i := 338) (by decide +kernel)) (by decide +kernel)
theorem k_co_M_writeFrom : (Cond.code ({ cls := "PagedBytes$Memory", name := "writeFrom", desc := "([BII)V" } : Jvm.MethodName) prog_2_method_8_code (8 : Nat) (Option.none : Option Jvm.ClassFile.FieldType)) ∈ GG := gg_of (List.mem_of_getElem? (i := 339) (by decide +kernel)) (by decide +kernel)
theorem k_ml_L_87 : (Cond.methodLink "PagedBytesLaw" (87 : Nat) ({ cls := "PagedBytesLaw", name := "sum", desc := "(LPagedBytes;III[J)I" } : Jvm.MethodName)) ∈ GG := gg_of (List.mem_of_getElem? (i := 340) (by decide +kernel)) (by decide +kernel)
theorem k_sm_L_sum : (Cond.static ({ cls := "PagedBytesLaw", name := "sum", desc := "(LPagedBytes;III[J)I" } : Jvm.MethodName)) ∈ GG := gg_of (List.mem_of_getElem? (i := 341) (by decide +kernel)) (by decide +kernel)
theorem k_co_L_sum : (Cond.codeWith ({ cls := "PagedBytesLaw", name := "sum", desc := "(LPagedBytes;III[J)I" } : Jvm.MethodName) method_10_code (6 : Nat) (Option.some Jvm.ClassFile.FieldType.int) [((0 : Nat), (12 : Nat), (15 : Nat), (13 : Nat)), ((0 : Nat), (12 : Nat), (19 : Nat), (34 : Nat))]) ∈ GG := gg_of (List.mem_of_getElem? (i := 342) (by decide +kernel)) (by decide +kernel)
theorem k_ml_L_44 : (Cond.methodLink "PagedBytesLaw" (44 : Nat) ({ cls := "PagedBytes", name := "sum", desc := "(III)I" } : Jvm.MethodName)) ∈ GG := gg_of (List.mem_of_getElem? (i := 343) (by decide +kernel)) (by decide +kernel)
theorem k_im_P_sum : (Cond.instanceMethod ({ cls := "PagedBytes", name := "sum", desc := "(III)I" } : Jvm.MethodName)) ∈ GG := gg_of (List.mem_of_getElem? (i := 344) (by decide +kernel)) (by decide +kernel)
theorem k_se_P_sum : (Cond.selects "PagedBytes" ({ cls := "PagedBytes", name := "sum", desc := "(III)I" } : Jvm.MethodName) ({ cls := "PagedBytes", name := "sum", desc := "(III)I" } : Jvm.MethodName)) ∈ GG := gg_of (List.mem_of_getElem? (i := 345) (by decide +kernel)) (by decide +kernel)
theorem k_co_P_sum : (Cond.code ({ cls := "PagedBytes", name := "sum", desc := "(III)I" } : Jvm.MethodName) prog_1_method_9_code (5 : Nat) (Option.some Jvm.ClassFile.FieldType.int)) ∈ GG := gg_of (List.mem_of_getElem? (i := 346) (by decide +kernel)) (by decide +kernel)
theorem k_ml_P_118 : (Cond.methodLink "PagedBytes" (118 : Nat) ({ cls := "PagedBytes$Memory", name := "weighedSum", desc := "(II)I" } : Jvm.MethodName)) ∈ GG := gg_of (List.mem_of_getElem? (i := 347) (by decide +kernel)) (by decide +kernel)
theorem k_im_M_weighedSum : (Cond.instanceMethod ({ cls := "PagedBytes$Memory", name := "weighedSum", desc := "(II)I" } : Jvm.MethodName)) ∈ GG := gg_of (List.mem_of_getElem? (i := 348) (by decide +kernel)) (by decide +kernel)
theorem k_se_M_weighedSum : (Cond.selects "PagedBytes$Memory" ({ cls := "PagedBytes$Memory", name := "weighedSum", desc := "(II)I" } : Jvm.MethodName) ({ cls := "PagedBytes$Memory", name := "weighedSum", desc := "(II)I" } : Jvm.MethodName)) ∈ GG := gg_of (List.mem_of_getElem? (i := 349) (by decide +kernel)) (by decide +kernel)
theorem k_co_M_weighedSum : (Cond.code ({ cls := "PagedBytes$Memory", name := "weighedSum", desc := "(II)I" } : Jvm.MethodName) prog_2_method_9_code (8 : Nat) (Option.some Jvm.ClassFile.FieldType.int)) ∈ GG := gg_of (List.mem_of_getElem? (i := 350) (by decide +kernel)) (by decide +kernel)
theorem k_ml_M_65 : (Cond.methodLink "PagedBytes$Memory" (65 : Nat) ({ cls := "PagedBytes$Row", name := "weighedPart", desc := "(III)I" } : Jvm.MethodName)) ∈ GG := gg_of (List.mem_of_getElem? (i := 351) (by decide +kernel)) (by decide +kernel)
theorem k_im_W_weighedPart : (Cond.instanceMethod ({ cls := "PagedBytes$Row", name := "weighedPart", desc := "(III)I" } : Jvm.MethodName)) ∈ GG := gg_of (List.mem_of_getElem? (i := 352) (by decide +kernel)) (by decide +kernel)
theorem k_se_W_weighedPart : (Cond.selects "PagedBytes$Row" ({ cls := "PagedBytes$Row", name := "weighedPart", desc := "(III)I" } : Jvm.MethodName) ({ cls := "PagedBytes$Row", name := "weighedPart", desc := "(III)I" } : Jvm.MethodName)) ∈ GG := gg_of (List.mem_of_getElem? (i := 353) (by decide +kernel)) (by decide +kernel)
theorem k_co_W_weighedPart : (Cond.code ({ cls := "PagedBytes$Row", name := "weighedPart", desc := "(III)I" } : Jvm.MethodName) prog_3_method_2_code (7 : Nat) (Option.some Jvm.ClassFile.FieldType.int)) ∈ GG := gg_of (List.mem_of_getElem? (i := 354) (by decide +kernel)) (by decide +kernel)
theorem k_ml_W_15 : (Cond.methodLink "PagedBytes$Row" (15 : Nat) ({ cls := "java/lang/Math", name := "max", desc := "(II)I" } : Jvm.MethodName)) ∈ GG := gg_of (List.mem_of_getElem? (i := 355) (by decide +kernel)) (by decide +kernel)
theorem k_ml_W_21 : (Cond.methodLink "PagedBytes$Row" (21 : Nat) ({ cls := "java/lang/Math", name := "min", desc := "(II)I" } : Jvm.MethodName)) ∈ GG := gg_of (List.mem_of_getElem? (i := 356) (by decide +kernel)) (by decide +kernel)
theorem k_cl_L_49 : (Cond.classLink "PagedBytesLaw" (49 : Nat) "PagedBytesModel") ∈ GG := gg_of (List.mem_of_getElem? (i := 357) (by decide +kernel)) (by decide +kernel)
theorem k_it_D : (Cond.instantiable "PagedBytesModel" (8 : Nat)) ∈ GG := gg_of (List.mem_of_getElem? (i := 358) (by decide +kernel)) (by decide +kernel)
theorem k_ml_L_51 : (Cond.methodLink "PagedBytesLaw" (51 : Nat) ({ cls := "PagedBytesModel", name := "<init>", desc := "()V" } : Jvm.MethodName)) ∈ GG := gg_of (List.mem_of_getElem? (i := 359) (by decide +kernel)) (by decide +kernel)
theorem k_im_D_init : (Cond.instanceMethod ({ cls := "PagedBytesModel", name := "<init>", desc := "()V" } : Jvm.MethodName)) ∈ GG := gg_of (List.mem_of_getElem? (i := 360) (by decide +kernel)) (by decide +kernel)
theorem k_co_D_init : (Cond.code ({ cls := "PagedBytesModel", name := "<init>", desc := "()V" } : Jvm.MethodName) prog_5_method_1_code (1 : Nat) (Option.none : Option Jvm.ClassFile.FieldType)) ∈ GG := gg_of (List.mem_of_getElem? (i := 361) (by decide +kernel)) (by decide +kernel)
theorem k_ml_D_1 : (Cond.methodLink "PagedBytesModel" (1 : Nat) ({ cls := "java/lang/Object", name := "<init>", desc := "()V" } : Jvm.MethodName)) ∈ GG := gg_of (List.mem_of_getElem? (i := 362) (by decide +kernel)) (by decide +kernel)
theorem k_cl_D_19 : (Cond.classLink "PagedBytesModel" (19 : Nat) "[B") ∈ GG := gg_of (List.mem_of_getElem? (i := 363) (by decide +kernel)) (by decide +kernel)
theorem k_fl_D_28 : (Cond.fieldLink "PagedBytesModel" (28 : Nat) "PagedBytesModel" "thrown" "I") ∈ GG := gg_of (List.mem_of_getElem? (i := 365) (by decide +kernel)) (by decide +kernel)
theorem k_fl_D_32 : (Cond.fieldLink "PagedBytesModel" (32 : Nat) "PagedBytesModel" "memories" "I") ∈ GG := gg_of (List.mem_of_getElem? (i := 366) (by decide +kernel)) (by decide +kernel)
theorem k_fl_D_9 : (Cond.fieldLink "PagedBytesModel" (9 : Nat) "PagedBytesModel" "most" "[I") ∈ GG := gg_of (List.mem_of_getElem? (i := 367) (by decide +kernel)) (by decide +kernel)
theorem k_fl_D_35 : (Cond.fieldLink "PagedBytesModel" (35 : Nat) "PagedBytesModel" "all" "I") ∈ GG := gg_of (List.mem_of_getElem? (i := 368) (by decide +kernel)) (by decide +kernel)
theorem k_fl_D_13 : (Cond.fieldLink "PagedBytesModel" (13 : Nat) "PagedBytesModel" "owner" "[I") ∈ GG := gg_of (List.mem_of_getElem? (i := 369) (by decide +kernel)) (by decide +kernel)
theorem k_fl_D_16 : (Cond.fieldLink "PagedBytesModel" (16 : Nat) "PagedBytesModel" "index" "[I") ∈ GG := gg_of (List.mem_of_getElem? (i := 370) (by decide +kernel)) (by decide +kernel)
theorem k_fl_D_21 : (Cond.fieldLink "PagedBytesModel" (21 : Nat) "PagedBytesModel" "bytes" "[[B") ∈ GG := gg_of (List.mem_of_getElem? (i := 371) (by decide +kernel)) (by decide +kernel)
theorem k_fl_D_25 : (Cond.fieldLink "PagedBytesModel" (25 : Nat) "PagedBytesModel" "copied" "[I") ∈ GG := gg_of (List.mem_of_getElem? (i := 372) (by decide +kernel)) (by decide +kernel)
theorem k_ml_L_58 : (Cond.methodLink "PagedBytesLaw" (58 : Nat) ({ cls := "PagedBytesModel", name := "thrown", desc := "()I" } : Jvm.MethodName)) ∈ GG := gg_of (List.mem_of_getElem? (i := 391) (by decide +kernel)) (by decide +kernel)
theorem k_im_D_thrown : (Cond.instanceMethod ({ cls := "PagedBytesModel", name := "thrown", desc := "()I" } : Jvm.MethodName)) ∈ GG := gg_of (List.mem_of_getElem? (i := 392) (by decide +kernel)) (by decide +kernel)
theorem k_se_D_thrown : (Cond.selects "PagedBytesModel" ({ cls := "PagedBytesModel", name := "thrown", desc := "()I" } : Jvm.MethodName) ({ cls := "PagedBytesModel", name := "thrown", desc := "()I" } : Jvm.MethodName)) ∈ GG := gg_of (List.mem_of_getElem? (i := 393) (by decide +kernel)) (by decide +kernel)
theorem k_co_D_thrown : (Cond.code ({ cls := "PagedBytesModel", name := "thrown", desc := "()I" } : Jvm.MethodName) prog_5_method_2_code (1 : Nat) (Option.some Jvm.ClassFile.FieldType.int)) ∈ GG := gg_of (List.mem_of_getElem? (i := 394) (by decide +kernel)) (by decide +kernel)
theorem k_ml_L_57 : (Cond.methodLink "PagedBytesLaw" (57 : Nat) ({ cls := "PagedBytesModel", name := "make", desc := "(II)I" } : Jvm.MethodName)) ∈ GG := gg_of (List.mem_of_getElem? (i := 395) (by decide +kernel)) (by decide +kernel)
theorem k_im_D_make : (Cond.instanceMethod ({ cls := "PagedBytesModel", name := "make", desc := "(II)I" } : Jvm.MethodName)) ∈ GG := gg_of (List.mem_of_getElem? (i := 396) (by decide +kernel)) (by decide +kernel)
theorem k_se_D_make : (Cond.selects "PagedBytesModel" ({ cls := "PagedBytesModel", name := "make", desc := "(II)I" } : Jvm.MethodName) ({ cls := "PagedBytesModel", name := "make", desc := "(II)I" } : Jvm.MethodName)) ∈ GG := gg_of (List.mem_of_getElem? (i := 397) (by decide +kernel)) (by decide +kernel)
theorem k_co_D_make : (Cond.code ({ cls := "PagedBytesModel", name := "make", desc := "(II)I" } : Jvm.MethodName) prog_5_method_9_code (5 : Nat) (Option.some Jvm.ClassFile.FieldType.int)) ∈ GG := gg_of (List.mem_of_getElem? (i := 398) (by decide +kernel)) (by decide +kernel)
theorem k_cn_D_46 : (Cond.constant "PagedBytesModel" (46 : Nat) (65536 : Int32)) ∈ GG := gg_of (List.mem_of_getElem? (i := 399) (by decide +kernel)) (by decide +kernel)
theorem k_ml_D_47 : (Cond.methodLink "PagedBytesModel" (47 : Nat) ({ cls := "PagedBytesModel", name := "add", desc := "(II)V" } : Jvm.MethodName)) ∈ GG := gg_of (List.mem_of_getElem? (i := 400) (by decide +kernel)) (by decide +kernel)
theorem k_im_D_add : (Cond.instanceMethod ({ cls := "PagedBytesModel", name := "add", desc := "(II)V" } : Jvm.MethodName)) ∈ GG := gg_of (List.mem_of_getElem? (i := 402) (by decide +kernel)) (by decide +kernel)
theorem k_co_D_add : (Cond.code ({ cls := "PagedBytesModel", name := "add", desc := "(II)V" } : Jvm.MethodName) prog_5_method_5_code (3 : Nat) (Option.none : Option Jvm.ClassFile.FieldType)) ∈ GG := gg_of (List.mem_of_getElem? (i := 403) (by decide +kernel)) (by decide +kernel)
theorem k_ml_L_65 : (Cond.methodLink "PagedBytesLaw" (65 : Nat) ({ cls := "PagedBytesModel", name := "pages", desc := "(I)I" } : Jvm.MethodName)) ∈ GG := gg_of (List.mem_of_getElem? (i := 404) (by decide +kernel)) (by decide +kernel)
theorem k_im_D_pages : (Cond.instanceMethod ({ cls := "PagedBytesModel", name := "pages", desc := "(I)I" } : Jvm.MethodName)) ∈ GG := gg_of (List.mem_of_getElem? (i := 405) (by decide +kernel)) (by decide +kernel)
theorem k_se_D_pages : (Cond.selects "PagedBytesModel" ({ cls := "PagedBytesModel", name := "pages", desc := "(I)I" } : Jvm.MethodName) ({ cls := "PagedBytesModel", name := "pages", desc := "(I)I" } : Jvm.MethodName)) ∈ GG := gg_of (List.mem_of_getElem? (i := 406) (by decide +kernel)) (by decide +kernel)
theorem k_co_D_pages : (Cond.code ({ cls := "PagedBytesModel", name := "pages", desc := "(I)I" } : Jvm.MethodName) prog_5_method_10_code (2 : Nat) (Option.some Jvm.ClassFile.FieldType.int)) ∈ GG := gg_of (List.mem_of_getElem? (i := 407) (by decide +kernel)) (by decide +kernel)
theorem k_ml_D_51 : (Cond.methodLink "PagedBytesModel" (51 : Nat) ({ cls := "PagedBytesModel", name := "isMemory", desc := "(I)Z" } : Jvm.MethodName)) ∈ GG := gg_of (List.mem_of_getElem? (i := 408) (by decide +kernel)) (by decide +kernel)
theorem k_im_D_isMemory : (Cond.instanceMethod ({ cls := "PagedBytesModel", name := "isMemory", desc := "(I)Z" } : Jvm.MethodName)) ∈ GG := gg_of (List.mem_of_getElem? (i := 410) (by decide +kernel)) (by decide +kernel)
theorem k_co_D_isMemory : (Cond.code ({ cls := "PagedBytesModel", name := "isMemory", desc := "(I)Z" } : Jvm.MethodName) prog_5_method_3_code (2 : Nat) (Option.some Jvm.ClassFile.FieldType.boolean)) ∈ GG := gg_of (List.mem_of_getElem? (i := 411) (by decide +kernel)) (by decide +kernel)
theorem k_ml_D_55 : (Cond.methodLink "PagedBytesModel" (55 : Nat) ({ cls := "PagedBytesModel", name := "count", desc := "(I)I" } : Jvm.MethodName)) ∈ GG := gg_of (List.mem_of_getElem? (i := 412) (by decide +kernel)) (by decide +kernel)
theorem k_im_D_count : (Cond.instanceMethod ({ cls := "PagedBytesModel", name := "count", desc := "(I)I" } : Jvm.MethodName)) ∈ GG := gg_of (List.mem_of_getElem? (i := 414) (by decide +kernel)) (by decide +kernel)
theorem k_co_D_count : (Cond.code ({ cls := "PagedBytesModel", name := "count", desc := "(I)I" } : Jvm.MethodName) prog_5_method_4_code (4 : Nat) (Option.some Jvm.ClassFile.FieldType.int)) ∈ GG := gg_of (List.mem_of_getElem? (i := 415) (by decide +kernel)) (by decide +kernel)
theorem k_ml_L_68 : (Cond.methodLink "PagedBytesLaw" (68 : Nat) ({ cls := "PagedBytesModel", name := "grow", desc := "(II)I" } : Jvm.MethodName)) ∈ GG := gg_of (List.mem_of_getElem? (i := 416) (by decide +kernel)) (by decide +kernel)
theorem k_im_D_grow : (Cond.instanceMethod ({ cls := "PagedBytesModel", name := "grow", desc := "(II)I" } : Jvm.MethodName)) ∈ GG := gg_of (List.mem_of_getElem? (i := 417) (by decide +kernel)) (by decide +kernel)
theorem k_se_D_grow : (Cond.selects "PagedBytesModel" ({ cls := "PagedBytesModel", name := "grow", desc := "(II)I" } : Jvm.MethodName) ({ cls := "PagedBytesModel", name := "grow", desc := "(II)I" } : Jvm.MethodName)) ∈ GG := gg_of (List.mem_of_getElem? (i := 418) (by decide +kernel)) (by decide +kernel)
theorem k_co_D_grow : (Cond.code ({ cls := "PagedBytesModel", name := "grow", desc := "(II)I" } : Jvm.MethodName) prog_5_method_11_code (7 : Nat) (Option.some Jvm.ClassFile.FieldType.int)) ∈ GG := gg_of (List.mem_of_getElem? (i := 419) (by decide +kernel)) (by decide +kernel)
theorem k_cn_D_59 : (Cond.constantLong "PagedBytesModel" (59 : Nat) (4294967296 : Int64)) ∈ GG := gg_of (List.mem_of_getElem? (i := 420) (by decide +kernel)) (by decide +kernel)
theorem k_cn_D_61 : (Cond.constantLong "PagedBytesModel" (61 : Nat) (16 : Int64)) ∈ GG := gg_of (List.mem_of_getElem? (i := 421) (by decide +kernel)) (by decide +kernel)
theorem k_ml_L_72 : (Cond.methodLink "PagedBytesLaw" (72 : Nat) ({ cls := "PagedBytesModel", name := "fits", desc := "(III)Z" } : Jvm.MethodName)) ∈ GG := gg_of (List.mem_of_getElem? (i := 422) (by decide +kernel)) (by decide +kernel)
theorem k_im_D_fits : (Cond.instanceMethod ({ cls := "PagedBytesModel", name := "fits", desc := "(III)Z" } : Jvm.MethodName)) ∈ GG := gg_of (List.mem_of_getElem? (i := 423) (by decide +kernel)) (by decide +kernel)
theorem k_se_D_fits : (Cond.selects "PagedBytesModel" ({ cls := "PagedBytesModel", name := "fits", desc := "(III)Z" } : Jvm.MethodName) ({ cls := "PagedBytesModel", name := "fits", desc := "(III)Z" } : Jvm.MethodName)) ∈ GG := gg_of (List.mem_of_getElem? (i := 424) (by decide +kernel)) (by decide +kernel)
theorem k_co_D_fits : (Cond.code ({ cls := "PagedBytesModel", name := "fits", desc := "(III)Z" } : Jvm.MethodName) prog_5_method_12_code (4 : Nat) (Option.some Jvm.ClassFile.FieldType.boolean)) ∈ GG := gg_of (List.mem_of_getElem? (i := 425) (by decide +kernel)) (by decide +kernel)
theorem k_ml_L_76 : (Cond.methodLink "PagedBytesLaw" (76 : Nat) ({ cls := "PagedBytesModel", name := "load", desc := "(IIII)J" } : Jvm.MethodName)) ∈ GG := gg_of (List.mem_of_getElem? (i := 426) (by decide +kernel)) (by decide +kernel)
theorem k_im_D_load : (Cond.instanceMethod ({ cls := "PagedBytesModel", name := "load", desc := "(IIII)J" } : Jvm.MethodName)) ∈ GG := gg_of (List.mem_of_getElem? (i := 427) (by decide +kernel)) (by decide +kernel)
theorem k_se_D_load : (Cond.selects "PagedBytesModel" ({ cls := "PagedBytesModel", name := "load", desc := "(IIII)J" } : Jvm.MethodName) ({ cls := "PagedBytesModel", name := "load", desc := "(IIII)J" } : Jvm.MethodName)) ∈ GG := gg_of (List.mem_of_getElem? (i := 428) (by decide +kernel)) (by decide +kernel)
theorem k_co_D_load : (Cond.code ({ cls := "PagedBytesModel", name := "load", desc := "(IIII)J" } : Jvm.MethodName) prog_5_method_17_code (13 : Nat) (Option.some Jvm.ClassFile.FieldType.long)) ∈ GG := gg_of (List.mem_of_getElem? (i := 429) (by decide +kernel)) (by decide +kernel)
theorem k_ml_D_65 : (Cond.methodLink "PagedBytesModel" (65 : Nat) ({ cls := "PagedBytesModel", name := "place", desc := "(II)J" } : Jvm.MethodName)) ∈ GG := gg_of (List.mem_of_getElem? (i := 430) (by decide +kernel)) (by decide +kernel)
theorem k_sm_D_place : (Cond.static ({ cls := "PagedBytesModel", name := "place", desc := "(II)J" } : Jvm.MethodName)) ∈ GG := gg_of (List.mem_of_getElem? (i := 431) (by decide +kernel)) (by decide +kernel)
theorem k_co_D_place : (Cond.code ({ cls := "PagedBytesModel", name := "place", desc := "(II)J" } : Jvm.MethodName) prog_5_method_15_code (2 : Nat) (Option.some Jvm.ClassFile.FieldType.long)) ∈ GG := gg_of (List.mem_of_getElem? (i := 432) (by decide +kernel)) (by decide +kernel)
theorem k_cn_D_63 : (Cond.constantLong "PagedBytesModel" (63 : Nat) (4294967295 : Int64)) ∈ GG := gg_of (List.mem_of_getElem? (i := 433) (by decide +kernel)) (by decide +kernel)
theorem k_ml_D_69 : (Cond.methodLink "PagedBytesModel" (69 : Nat) ({ cls := "PagedBytesModel", name := "size", desc := "(I)I" } : Jvm.MethodName)) ∈ GG := gg_of (List.mem_of_getElem? (i := 434) (by decide +kernel)) (by decide +kernel)
theorem k_sm_D_size : (Cond.static ({ cls := "PagedBytesModel", name := "size", desc := "(I)I" } : Jvm.MethodName)) ∈ GG := gg_of (List.mem_of_getElem? (i := 435) (by decide +kernel)) (by decide +kernel)
theorem k_co_D_size : (Cond.code ({ cls := "PagedBytesModel", name := "size", desc := "(I)I" } : Jvm.MethodName) prog_5_method_13_code (1 : Nat) (Option.some Jvm.ClassFile.FieldType.int)) ∈ GG := gg_of (List.mem_of_getElem? (i := 436) (by decide +kernel)) (by decide +kernel)
theorem k_ml_D_72 : (Cond.methodLink "PagedBytesModel" (72 : Nat) ({ cls := "PagedBytesModel", name := "isWhole", desc := "(IZ)Z" } : Jvm.MethodName)) ∈ GG := gg_of (List.mem_of_getElem? (i := 437) (by decide +kernel)) (by decide +kernel)
theorem k_sm_D_isWhole : (Cond.static ({ cls := "PagedBytesModel", name := "isWhole", desc := "(IZ)Z" } : Jvm.MethodName)) ∈ GG := gg_of (List.mem_of_getElem? (i := 438) (by decide +kernel)) (by decide +kernel)
theorem k_co_D_isWhole : (Cond.code ({ cls := "PagedBytesModel", name := "isWhole", desc := "(IZ)Z" } : Jvm.MethodName) prog_5_method_14_code (2 : Nat) (Option.some Jvm.ClassFile.FieldType.boolean)) ∈ GG := gg_of (List.mem_of_getElem? (i := 439) (by decide +kernel)) (by decide +kernel)
theorem k_ml_D_76 : (Cond.methodLink "PagedBytesModel" (76 : Nat) ({ cls := "PagedBytesModel", name := "isThere", desc := "(IJI)Z" } : Jvm.MethodName)) ∈ GG := gg_of (List.mem_of_getElem? (i := 440) (by decide +kernel)) (by decide +kernel)
theorem k_im_D_isThere : (Cond.instanceMethod ({ cls := "PagedBytesModel", name := "isThere", desc := "(IJI)Z" } : Jvm.MethodName)) ∈ GG := gg_of (List.mem_of_getElem? (i := 442) (by decide +kernel)) (by decide +kernel)
theorem k_co_D_isThere : (Cond.code ({ cls := "PagedBytesModel", name := "isThere", desc := "(IJI)Z" } : Jvm.MethodName) prog_5_method_16_code (5 : Nat) (Option.some Jvm.ClassFile.FieldType.boolean)) ∈ GG := gg_of (List.mem_of_getElem? (i := 443) (by decide +kernel)) (by decide +kernel)
theorem k_cn_D_38 : (Cond.constantLong "PagedBytesModel" (38 : Nat) (65536 : Int64)) ∈ GG := gg_of (List.mem_of_getElem? (i := 444) (by decide +kernel)) (by decide +kernel)
theorem k_ml_D_80 : (Cond.methodLink "PagedBytesModel" (80 : Nat) ({ cls := "PagedBytesModel", name := "get", desc := "(IJ)I" } : Jvm.MethodName)) ∈ GG := gg_of (List.mem_of_getElem? (i := 445) (by decide +kernel)) (by decide +kernel)
theorem k_im_D_get : (Cond.instanceMethod ({ cls := "PagedBytesModel", name := "get", desc := "(IJ)I" } : Jvm.MethodName)) ∈ GG := gg_of (List.mem_of_getElem? (i := 447) (by decide +kernel)) (by decide +kernel)
theorem k_co_D_get : (Cond.code ({ cls := "PagedBytesModel", name := "get", desc := "(IJ)I" } : Jvm.MethodName) prog_5_method_7_code (5 : Nat) (Option.some Jvm.ClassFile.FieldType.int)) ∈ GG := gg_of (List.mem_of_getElem? (i := 448) (by decide +kernel)) (by decide +kernel)
theorem k_ml_D_40 : (Cond.methodLink "PagedBytesModel" (40 : Nat) ({ cls := "PagedBytesModel", name := "rowOf", desc := "(IJ)I" } : Jvm.MethodName)) ∈ GG := gg_of (List.mem_of_getElem? (i := 449) (by decide +kernel)) (by decide +kernel)
theorem k_im_D_rowOf : (Cond.instanceMethod ({ cls := "PagedBytesModel", name := "rowOf", desc := "(IJ)I" } : Jvm.MethodName)) ∈ GG := gg_of (List.mem_of_getElem? (i := 451) (by decide +kernel)) (by decide +kernel)
theorem k_co_D_rowOf : (Cond.code ({ cls := "PagedBytesModel", name := "rowOf", desc := "(IJ)I" } : Jvm.MethodName) prog_5_method_6_code (7 : Nat) (Option.some Jvm.ClassFile.FieldType.int)) ∈ GG := gg_of (List.mem_of_getElem? (i := 452) (by decide +kernel)) (by decide +kernel)
theorem k_cn_D_44 : (Cond.constantLong "PagedBytesModel" (44 : Nat) (1024 : Int64)) ∈ GG := gg_of (List.mem_of_getElem? (i := 453) (by decide +kernel)) (by decide +kernel)
theorem k_ml_L_82 : (Cond.methodLink "PagedBytesLaw" (82 : Nat) ({ cls := "PagedBytesModel", name := "store", desc := "(IIIIJ)V" } : Jvm.MethodName)) ∈ GG := gg_of (List.mem_of_getElem? (i := 454) (by decide +kernel)) (by decide +kernel)
theorem k_im_D_store : (Cond.instanceMethod ({ cls := "PagedBytesModel", name := "store", desc := "(IIIIJ)V" } : Jvm.MethodName)) ∈ GG := gg_of (List.mem_of_getElem? (i := 455) (by decide +kernel)) (by decide +kernel)
theorem k_se_D_store : (Cond.selects "PagedBytesModel" ({ cls := "PagedBytesModel", name := "store", desc := "(IIIIJ)V" } : Jvm.MethodName) ({ cls := "PagedBytesModel", name := "store", desc := "(IIIIJ)V" } : Jvm.MethodName)) ∈ GG := gg_of (List.mem_of_getElem? (i := 456) (by decide +kernel)) (by decide +kernel)
theorem k_co_D_store : (Cond.code ({ cls := "PagedBytesModel", name := "store", desc := "(IIIIJ)V" } : Jvm.MethodName) prog_5_method_18_code (11 : Nat) (Option.none : Option Jvm.ClassFile.FieldType)) ∈ GG := gg_of (List.mem_of_getElem? (i := 457) (by decide +kernel)) (by decide +kernel)
theorem k_cn_D_83 : (Cond.constantLong "PagedBytesModel" (83 : Nat) (255 : Int64)) ∈ GG := gg_of (List.mem_of_getElem? (i := 458) (by decide +kernel)) (by decide +kernel)
theorem k_ml_D_85 : (Cond.methodLink "PagedBytesModel" (85 : Nat) ({ cls := "PagedBytesModel", name := "put", desc := "(IJI)V" } : Jvm.MethodName)) ∈ GG := gg_of (List.mem_of_getElem? (i := 459) (by decide +kernel)) (by decide +kernel)
theorem k_im_D_put : (Cond.instanceMethod ({ cls := "PagedBytesModel", name := "put", desc := "(IJI)V" } : Jvm.MethodName)) ∈ GG := gg_of (List.mem_of_getElem? (i := 461) (by decide +kernel)) (by decide +kernel)
theorem k_co_D_put : (Cond.code ({ cls := "PagedBytesModel", name := "put", desc := "(IJI)V" } : Jvm.MethodName) prog_5_method_8_code (6 : Nat) (Option.none : Option Jvm.ClassFile.FieldType)) ∈ GG := gg_of (List.mem_of_getElem? (i := 462) (by decide +kernel)) (by decide +kernel)
theorem k_ml_L_86 : (Cond.methodLink "PagedBytesLaw" (86 : Nat) ({ cls := "PagedBytesModel", name := "copy", desc := "(IIIII)V" } : Jvm.MethodName)) ∈ GG := gg_of (List.mem_of_getElem? (i := 463) (by decide +kernel)) (by decide +kernel)
theorem k_im_D_copy : (Cond.instanceMethod ({ cls := "PagedBytesModel", name := "copy", desc := "(IIIII)V" } : Jvm.MethodName)) ∈ GG := gg_of (List.mem_of_getElem? (i := 464) (by decide +kernel)) (by decide +kernel)
theorem k_se_D_copy : (Cond.selects "PagedBytesModel" ({ cls := "PagedBytesModel", name := "copy", desc := "(IIIII)V" } : Jvm.MethodName) ({ cls := "PagedBytesModel", name := "copy", desc := "(IIIII)V" } : Jvm.MethodName)) ∈ GG := gg_of (List.mem_of_getElem? (i := 465) (by decide +kernel)) (by decide +kernel)
theorem k_co_D_copy : (Cond.code ({ cls := "PagedBytesModel", name := "copy", desc := "(IIIII)V" } : Jvm.MethodName) prog_5_method_19_code (8 : Nat) (Option.none : Option Jvm.ClassFile.FieldType)) ∈ GG := gg_of (List.mem_of_getElem? (i := 466) (by decide +kernel)) (by decide +kernel)
theorem k_ml_L_89 : (Cond.methodLink "PagedBytesLaw" (89 : Nat) ({ cls := "PagedBytesModel", name := "sum", desc := "(III)I" } : Jvm.MethodName)) ∈ GG := gg_of (List.mem_of_getElem? (i := 467) (by decide +kernel)) (by decide +kernel)
theorem k_im_D_sum : (Cond.instanceMethod ({ cls := "PagedBytesModel", name := "sum", desc := "(III)I" } : Jvm.MethodName)) ∈ GG := gg_of (List.mem_of_getElem? (i := 468) (by decide +kernel)) (by decide +kernel)
theorem k_se_D_sum : (Cond.selects "PagedBytesModel" ({ cls := "PagedBytesModel", name := "sum", desc := "(III)I" } : Jvm.MethodName) ({ cls := "PagedBytesModel", name := "sum", desc := "(III)I" } : Jvm.MethodName)) ∈ GG := gg_of (List.mem_of_getElem? (i := 469) (by decide +kernel)) (by decide +kernel)
theorem k_co_D_sum : (Cond.code ({ cls := "PagedBytesModel", name := "sum", desc := "(III)I" } : Jvm.MethodName) prog_5_method_20_code (6 : Nat) (Option.some Jvm.ClassFile.FieldType.int)) ∈ GG := gg_of (List.mem_of_getElem? (i := 470) (by decide +kernel)) (by decide +kernel)
theorem k_cn_L_77 : (Cond.constantLong "PagedBytesLaw" (77 : Nat) (4294967295 : Int64)) ∈ GG := gg_of (List.mem_of_getElem? (i := 471) (by decide +kernel)) (by decide +kernel)
theorem k_se_P_memoryOf : Cond.selects "PagedBytes" ⟨"PagedBytes", "memoryOf", "(I)LPagedBytes$Memory;"⟩ ⟨"PagedBytes", "memoryOf", "(I)LPagedBytes$Memory;"⟩ ∈ GG := gg_of (List.mem_of_getElem? (i := 1) (by decide +kernel)) (by decide +kernel)
theorem k_se_M_byteAt : Cond.selects "PagedBytes$Memory" ⟨"PagedBytes$Memory", "byteAt", "(I)I"⟩ ⟨"PagedBytes$Memory", "byteAt", "(I)I"⟩ ∈ GG := gg_of (List.mem_of_getElem? (i := 2) (by decide +kernel)) (by decide +kernel)
theorem k_se_M_rowOrNull : Cond.selects "PagedBytes$Memory" ⟨"PagedBytes$Memory", "rowOrNull", "(I)LPagedBytes$Row;"⟩ ⟨"PagedBytes$Memory", "rowOrNull", "(I)LPagedBytes$Row;"⟩ ∈ GG := gg_of (List.mem_of_getElem? (i := 3) (by decide +kernel)) (by decide +kernel)
theorem k_se_M_putByte : Cond.selects "PagedBytes$Memory" ⟨"PagedBytes$Memory", "putByte", "(IB)V"⟩ ⟨"PagedBytes$Memory", "putByte", "(IB)V"⟩ ∈ GG := gg_of (List.mem_of_getElem? (i := 4) (by decide +kernel)) (by decide +kernel)
theorem k_se_M_rowToWrite : Cond.selects "PagedBytes$Memory" ⟨"PagedBytes$Memory", "rowToWrite", "(I)LPagedBytes$Row;"⟩ ⟨"PagedBytes$Memory", "rowToWrite", "(I)LPagedBytes$Row;"⟩ ∈ GG := gg_of (List.mem_of_getElem? (i := 5) (by decide +kernel)) (by decide +kernel)
theorem k_se_D_add : Cond.selects "PagedBytesModel" ⟨"PagedBytesModel", "add", "(II)V"⟩ ⟨"PagedBytesModel", "add", "(II)V"⟩ ∈ GG := gg_of (List.mem_of_getElem? (i := 6) (by decide +kernel)) (by decide +kernel)
theorem k_se_D_isMemory : Cond.selects "PagedBytesModel" ⟨"PagedBytesModel", "isMemory", "(I)Z"⟩ ⟨"PagedBytesModel", "isMemory", "(I)Z"⟩ ∈ GG := gg_of (List.mem_of_getElem? (i := 7) (by decide +kernel)) (by decide +kernel)
theorem k_se_D_count : Cond.selects "PagedBytesModel" ⟨"PagedBytesModel", "count", "(I)I"⟩ ⟨"PagedBytesModel", "count", "(I)I"⟩ ∈ GG := gg_of (List.mem_of_getElem? (i := 8) (by decide +kernel)) (by decide +kernel)
theorem k_se_D_isThere : Cond.selects "PagedBytesModel" ⟨"PagedBytesModel", "isThere", "(IJI)Z"⟩ ⟨"PagedBytesModel", "isThere", "(IJI)Z"⟩ ∈ GG := gg_of (List.mem_of_getElem? (i := 9) (by decide +kernel)) (by decide +kernel)
theorem k_se_D_get : Cond.selects "PagedBytesModel" ⟨"PagedBytesModel", "get", "(IJ)I"⟩ ⟨"PagedBytesModel", "get", "(IJ)I"⟩ ∈ GG := gg_of (List.mem_of_getElem? (i := 10) (by decide +kernel)) (by decide +kernel)
theorem k_se_D_rowOf : Cond.selects "PagedBytesModel" ⟨"PagedBytesModel", "rowOf", "(IJ)I"⟩ ⟨"PagedBytesModel", "rowOf", "(IJ)I"⟩ ∈ GG := gg_of (List.mem_of_getElem? (i := 11) (by decide +kernel)) (by decide +kernel)
theorem k_se_D_put : Cond.selects "PagedBytesModel" ⟨"PagedBytesModel", "put", "(IJI)V"⟩ ⟨"PagedBytesModel", "put", "(IJI)V"⟩ ∈ GG := gg_of (List.mem_of_getElem? (i := 12) (by decide +kernel)) (by decide +kernel)
theorem in_M : ∀ w ∈ u_ws R_M T_M 3, w ∈ GG := by decide +kernel
theorem in_W : ∀ w ∈ u_ws R_W T_W 1, w ∈ GG := by decide +kernel
theorem in_P : ∀ w ∈ u_ws R_P T_P 4, w ∈ GG := by decide +kernel
theorem in_D : ∀ w ∈ u_ws R_D T_D 8, w ∈ GG := by decide +kernel
abbrev b_P_init : ByteArray := prog_1_method_1_code
abbrev y_P_init : MethodName := ⟨R_P, "<init>", "()V"⟩
abbrev w_P_init : List Cond := Cond.code y_P_init b_P_init 1 (Option.none : Option Jvm.ClassFile.FieldType) :: GG
abbrev b_L_make : ByteArray := method_3_code
abbrev y_L_make : MethodName := ⟨R_L, "make", "(LPagedBytes;II[J)I"⟩
abbrev w_L_make : List Cond := Cond.codeWith y_L_make b_L_make 5 (Option.some Jvm.ClassFile.FieldType.int) [((0 : Nat), (10 : Nat), (13 : Nat), (13 : Nat)), ((0 : Nat), (10 : Nat), (17 : Nat), (15 : Nat)), ((0 : Nat), (10 : Nat), (21 : Nat), (17 : Nat))] :: GG
abbrev b_P_make : ByteArray := prog_1_method_2_code
abbrev y_P_make : MethodName := ⟨R_P, "make", "(II)I"⟩
abbrev w_P_make : List Cond := Cond.code y_P_make b_P_make 4 (Option.some Jvm.ClassFile.FieldType.int) :: GG
abbrev b_M_init : ByteArray := prog_2_method_1_code
abbrev y_M_init : MethodName := ⟨R_M, "<init>", "(II)V"⟩
abbrev w_M_init : List Cond := Cond.code y_M_init b_M_init 4 (Option.none : Option Jvm.ClassFile.FieldType) :: GG
abbrev b_L_pages : ByteArray := method_4_code
abbrev y_L_pages : MethodName := ⟨R_L, "pages", "(LPagedBytes;I[J)I"⟩
abbrev w_L_pages : List Cond := Cond.codeWith y_L_pages b_L_pages 4 (Option.some Jvm.ClassFile.FieldType.int) [((0 : Nat), (9 : Nat), (12 : Nat), (13 : Nat))] :: GG
abbrev b_P_pages : ByteArray := prog_1_method_3_code
abbrev y_P_pages : MethodName := ⟨R_P, "pages", "(I)I"⟩
abbrev w_P_pages : List Cond := Cond.code y_P_pages b_P_pages 2 (Option.some Jvm.ClassFile.FieldType.int) :: GG
abbrev b_P_memoryOf : ByteArray := prog_1_method_10_code
abbrev y_P_memoryOf : MethodName := ⟨R_P, "memoryOf", "(I)LPagedBytes$Memory;"⟩
abbrev w_P_memoryOf : List Cond := Cond.code y_P_memoryOf b_P_memoryOf 2 (Option.some (Jvm.ClassFile.FieldType.object "PagedBytes$Memory")) :: GG
abbrev b_L_grow : ByteArray := method_5_code
abbrev y_L_grow : MethodName := ⟨R_L, "grow", "(LPagedBytes;II[J)I"⟩
abbrev w_L_grow : List Cond := Cond.codeWith y_L_grow b_L_grow 5 (Option.some Jvm.ClassFile.FieldType.int) [((0 : Nat), (10 : Nat), (13 : Nat), (13 : Nat))] :: GG
abbrev b_P_grow : ByteArray := prog_1_method_4_code
abbrev y_P_grow : MethodName := ⟨R_P, "grow", "(II)I"⟩
abbrev w_P_grow : List Cond := Cond.code y_P_grow b_P_grow 7 (Option.some Jvm.ClassFile.FieldType.int) :: GG
abbrev b_P_withoutSign : ByteArray := prog_1_method_15_code
abbrev y_P_withoutSign : MethodName := ⟨R_P, "withoutSign", "(I)J"⟩
abbrev w_P_withoutSign : List Cond := Cond.code y_P_withoutSign b_P_withoutSign 1 (Option.some Jvm.ClassFile.FieldType.long) :: GG
abbrev b_M_pageLimit : ByteArray := prog_2_method_2_code
abbrev y_M_pageLimit : MethodName := ⟨R_M, "pageLimit", "()I"⟩
abbrev w_M_pageLimit : List Cond := Cond.code y_M_pageLimit b_M_pageLimit 1 (Option.some Jvm.ClassFile.FieldType.int) :: GG
abbrev b_L_fits : ByteArray := method_6_code
abbrev y_L_fits : MethodName := ⟨R_L, "fits", "(LPagedBytes;III[J)I"⟩
abbrev w_L_fits : List Cond := Cond.codeWith y_L_fits b_L_fits 6 (Option.some Jvm.ClassFile.FieldType.int) [((0 : Nat), (19 : Nat), (22 : Nat), (13 : Nat))] :: GG
abbrev b_P_fits : ByteArray := prog_1_method_5_code
abbrev y_P_fits : MethodName := ⟨R_P, "fits", "(III)Z"⟩
abbrev w_P_fits : List Cond := Cond.code y_P_fits b_P_fits 5 (Option.some Jvm.ClassFile.FieldType.boolean) :: GG
abbrev b_L_load : ByteArray := method_7_code
abbrev y_L_load : MethodName := ⟨R_L, "load", "(LPagedBytes;IIII[J)I"⟩
abbrev w_L_load : List Cond := Cond.codeWith y_L_load b_L_load 7 (Option.some Jvm.ClassFile.FieldType.int) [((0 : Nat), (13 : Nat), (16 : Nat), (13 : Nat)), ((0 : Nat), (13 : Nat), (20 : Nat), (34 : Nat))] :: GG
abbrev b_P_load : ByteArray := prog_1_method_6_code
abbrev y_P_load : MethodName := ⟨R_P, "load", "(IIII)J"⟩
abbrev w_P_load : List Cond := Cond.code y_P_load b_P_load 11 (Option.some Jvm.ClassFile.FieldType.long) :: GG
abbrev b_P_kindOf : ByteArray := prog_1_method_11_code
abbrev y_P_kindOf : MethodName := ⟨R_P, "kindOf", "(III)I"⟩
abbrev w_P_kindOf : List Cond := Cond.code y_P_kindOf b_P_kindOf 3 (Option.some Jvm.ClassFile.FieldType.int) :: GG
abbrev b_P_placeOf : ByteArray := prog_1_method_12_code
abbrev y_P_placeOf : MethodName := ⟨R_P, "placeOf", "(LPagedBytes$Memory;III)I"⟩
abbrev w_P_placeOf : List Cond := Cond.code y_P_placeOf b_P_placeOf 6 (Option.some Jvm.ClassFile.FieldType.int) :: GG
abbrev b_P_checkThere : ByteArray := prog_1_method_14_code
abbrev y_P_checkThere : MethodName := ⟨R_P, "checkThere", "(LPagedBytes$Memory;JI)V"⟩
abbrev w_P_checkThere : List Cond := Cond.code y_P_checkThere b_P_checkThere 4 (Option.none : Option Jvm.ClassFile.FieldType) :: GG
abbrev b_M_size : ByteArray := prog_2_method_3_code
abbrev y_M_size : MethodName := ⟨R_M, "size", "()J"⟩
abbrev w_M_size : List Cond := Cond.code y_M_size b_M_size 1 (Option.some Jvm.ClassFile.FieldType.long) :: GG
abbrev b_M_numberAt : ByteArray := prog_2_method_4_code
abbrev y_M_numberAt : MethodName := ⟨R_M, "numberAt", "(II)J"⟩
abbrev w_M_numberAt : List Cond := Cond.code y_M_numberAt b_M_numberAt 6 (Option.some Jvm.ClassFile.FieldType.long) :: GG
abbrev b_M_byteAt : ByteArray := prog_2_method_10_code
abbrev y_M_byteAt : MethodName := ⟨R_M, "byteAt", "(I)I"⟩
abbrev w_M_byteAt : List Cond := Cond.code y_M_byteAt b_M_byteAt 3 (Option.some Jvm.ClassFile.FieldType.int) :: GG
abbrev b_M_rowOrNull : ByteArray := prog_2_method_12_code
abbrev y_M_rowOrNull : MethodName := ⟨R_M, "rowOrNull", "(I)LPagedBytes$Row;"⟩
abbrev w_M_rowOrNull : List Cond := Cond.code y_M_rowOrNull b_M_rowOrNull 2 (Option.some (Jvm.ClassFile.FieldType.object "PagedBytes$Row")) :: GG
abbrev b_P_withSign : ByteArray := prog_1_method_16_code
abbrev y_P_withSign : MethodName := ⟨R_P, "withSign", "(JI)J"⟩
abbrev w_P_withSign : List Cond := Cond.code y_P_withSign b_P_withSign 4 (Option.some Jvm.ClassFile.FieldType.long) :: GG
abbrev b_L_store : ByteArray := method_8_code
abbrev y_L_store : MethodName := ⟨R_L, "store", "(LPagedBytes;IIIIJ)I"⟩
abbrev w_L_store : List Cond := Cond.codeWith y_L_store b_L_store 8 (Option.some Jvm.ClassFile.FieldType.int) [((0 : Nat), (11 : Nat), (14 : Nat), (13 : Nat)), ((0 : Nat), (11 : Nat), (18 : Nat), (34 : Nat))] :: GG
abbrev b_P_store : ByteArray := prog_1_method_7_code
abbrev y_P_store : MethodName := ⟨R_P, "store", "(IIIIJ)V"⟩
abbrev w_P_store : List Cond := Cond.code y_P_store b_P_store 10 (Option.none : Option Jvm.ClassFile.FieldType) :: GG
abbrev b_M_putNumber : ByteArray := prog_2_method_5_code
abbrev y_M_putNumber : MethodName := ⟨R_M, "putNumber", "(IIJ)V"⟩
abbrev w_M_putNumber : List Cond := Cond.code y_M_putNumber b_M_putNumber 6 (Option.none : Option Jvm.ClassFile.FieldType) :: GG
abbrev b_M_putByte : ByteArray := prog_2_method_11_code
abbrev y_M_putByte : MethodName := ⟨R_M, "putByte", "(IB)V"⟩
abbrev w_M_putByte : List Cond := Cond.code y_M_putByte b_M_putByte 4 (Option.none : Option Jvm.ClassFile.FieldType) :: GG
abbrev b_M_rowToWrite : ByteArray := prog_2_method_13_code
abbrev y_M_rowToWrite : MethodName := ⟨R_M, "rowToWrite", "(I)LPagedBytes$Row;"⟩
abbrev w_M_rowToWrite : List Cond := Cond.code y_M_rowToWrite b_M_rowToWrite 2 (Option.some (Jvm.ClassFile.FieldType.object "PagedBytes$Row")) :: GG
abbrev b_W_init : ByteArray := prog_3_method_1_code
abbrev y_W_init : MethodName := ⟨R_W, "<init>", "()V"⟩
abbrev w_W_init : List Cond := Cond.code y_W_init b_W_init 1 (Option.none : Option Jvm.ClassFile.FieldType) :: GG
abbrev b_L_copy : ByteArray := method_9_code
abbrev y_L_copy : MethodName := ⟨R_L, "copy", "(LPagedBytes;IIIII)I"⟩
abbrev w_L_copy : List Cond := Cond.codeWith y_L_copy b_L_copy 7 (Option.some Jvm.ClassFile.FieldType.int) [((0 : Nat), (11 : Nat), (14 : Nat), (13 : Nat)), ((0 : Nat), (11 : Nat), (18 : Nat), (34 : Nat))] :: GG
abbrev b_P_copy : ByteArray := prog_1_method_8_code
abbrev y_P_copy : MethodName := ⟨R_P, "copy", "(IIIII)V"⟩
abbrev w_P_copy : List Cond := Cond.code y_P_copy b_P_copy 8 (Option.none : Option Jvm.ClassFile.FieldType) :: GG
abbrev b_P_checkCount : ByteArray := prog_1_method_13_code
abbrev y_P_checkCount : MethodName := ⟨R_P, "checkCount", "(II)V"⟩
abbrev w_P_checkCount : List Cond := Cond.code y_P_checkCount b_P_checkCount 2 (Option.none : Option Jvm.ClassFile.FieldType) :: GG
abbrev b_M_readInto : ByteArray := prog_2_method_6_code
abbrev y_M_readInto : MethodName := ⟨R_M, "readInto", "([BII)V"⟩
abbrev w_M_readInto : List Cond := Cond.code y_M_readInto b_M_readInto 8 (Option.none : Option Jvm.ClassFile.FieldType) :: GG
abbrev b_M_clear : ByteArray := prog_2_method_7_code
abbrev y_M_clear : MethodName := ⟨R_M, "clear", "([BII)V"⟩
abbrev w_M_clear : List Cond := Cond.code y_M_clear b_M_clear 4 (Option.none : Option Jvm.ClassFile.FieldType) :: GG
abbrev b_M_writeFrom : ByteArray := prog_2_method_8_code
abbrev y_M_writeFrom : MethodName := ⟨R_M, "writeFrom", "([BII)V"⟩
abbrev w_M_writeFrom : List Cond := Cond.code y_M_writeFrom b_M_writeFrom 8 (Option.none : Option Jvm.ClassFile.FieldType) :: GG
abbrev b_L_sum : ByteArray := method_10_code
abbrev y_L_sum : MethodName := ⟨R_L, "sum", "(LPagedBytes;III[J)I"⟩
abbrev w_L_sum : List Cond := Cond.codeWith y_L_sum b_L_sum 6 (Option.some Jvm.ClassFile.FieldType.int) [((0 : Nat), (12 : Nat), (15 : Nat), (13 : Nat)), ((0 : Nat), (12 : Nat), (19 : Nat), (34 : Nat))] :: GG
abbrev b_P_sum : ByteArray := prog_1_method_9_code
abbrev y_P_sum : MethodName := ⟨R_P, "sum", "(III)I"⟩
abbrev w_P_sum : List Cond := Cond.code y_P_sum b_P_sum 5 (Option.some Jvm.ClassFile.FieldType.int) :: GG
abbrev b_M_weighedSum : ByteArray := prog_2_method_9_code
abbrev y_M_weighedSum : MethodName := ⟨R_M, "weighedSum", "(II)I"⟩
abbrev w_M_weighedSum : List Cond := Cond.code y_M_weighedSum b_M_weighedSum 8 (Option.some Jvm.ClassFile.FieldType.int) :: GG
abbrev b_W_weighedPart : ByteArray := prog_3_method_2_code
abbrev y_W_weighedPart : MethodName := ⟨R_W, "weighedPart", "(III)I"⟩
abbrev w_W_weighedPart : List Cond := Cond.code y_W_weighedPart b_W_weighedPart 7 (Option.some Jvm.ClassFile.FieldType.int) :: GG
abbrev b_D_init : ByteArray := prog_5_method_1_code
abbrev y_D_init : MethodName := ⟨R_D, "<init>", "()V"⟩
abbrev w_D_init : List Cond := Cond.code y_D_init b_D_init 1 (Option.none : Option Jvm.ClassFile.FieldType) :: GG
abbrev b_D_thrown : ByteArray := prog_5_method_2_code
abbrev y_D_thrown : MethodName := ⟨R_D, "thrown", "()I"⟩
abbrev w_D_thrown : List Cond := Cond.code y_D_thrown b_D_thrown 1 (Option.some Jvm.ClassFile.FieldType.int) :: GG
abbrev b_D_make : ByteArray := prog_5_method_9_code
abbrev y_D_make : MethodName := ⟨R_D, "make", "(II)I"⟩
abbrev w_D_make : List Cond := Cond.code y_D_make b_D_make 5 (Option.some Jvm.ClassFile.FieldType.int) :: GG
abbrev b_D_add : ByteArray := prog_5_method_5_code
abbrev y_D_add : MethodName := ⟨R_D, "add", "(II)V"⟩
abbrev w_D_add : List Cond := Cond.code y_D_add b_D_add 3 (Option.none : Option Jvm.ClassFile.FieldType) :: GG
abbrev b_D_pages : ByteArray := prog_5_method_10_code
abbrev y_D_pages : MethodName := ⟨R_D, "pages", "(I)I"⟩
abbrev w_D_pages : List Cond := Cond.code y_D_pages b_D_pages 2 (Option.some Jvm.ClassFile.FieldType.int) :: GG
abbrev b_D_isMemory : ByteArray := prog_5_method_3_code
abbrev y_D_isMemory : MethodName := ⟨R_D, "isMemory", "(I)Z"⟩
abbrev w_D_isMemory : List Cond := Cond.code y_D_isMemory b_D_isMemory 2 (Option.some Jvm.ClassFile.FieldType.boolean) :: GG
abbrev b_D_count : ByteArray := prog_5_method_4_code
abbrev y_D_count : MethodName := ⟨R_D, "count", "(I)I"⟩
abbrev w_D_count : List Cond := Cond.code y_D_count b_D_count 4 (Option.some Jvm.ClassFile.FieldType.int) :: GG
abbrev b_D_grow : ByteArray := prog_5_method_11_code
abbrev y_D_grow : MethodName := ⟨R_D, "grow", "(II)I"⟩
abbrev w_D_grow : List Cond := Cond.code y_D_grow b_D_grow 7 (Option.some Jvm.ClassFile.FieldType.int) :: GG
abbrev b_D_fits : ByteArray := prog_5_method_12_code
abbrev y_D_fits : MethodName := ⟨R_D, "fits", "(III)Z"⟩
abbrev w_D_fits : List Cond := Cond.code y_D_fits b_D_fits 4 (Option.some Jvm.ClassFile.FieldType.boolean) :: GG
abbrev b_D_load : ByteArray := prog_5_method_17_code
abbrev y_D_load : MethodName := ⟨R_D, "load", "(IIII)J"⟩
abbrev w_D_load : List Cond := Cond.code y_D_load b_D_load 13 (Option.some Jvm.ClassFile.FieldType.long) :: GG
abbrev b_D_place : ByteArray := prog_5_method_15_code
abbrev y_D_place : MethodName := ⟨R_D, "place", "(II)J"⟩
abbrev w_D_place : List Cond := Cond.code y_D_place b_D_place 2 (Option.some Jvm.ClassFile.FieldType.long) :: GG
abbrev b_D_size : ByteArray := prog_5_method_13_code
abbrev y_D_size : MethodName := ⟨R_D, "size", "(I)I"⟩
abbrev w_D_size : List Cond := Cond.code y_D_size b_D_size 1 (Option.some Jvm.ClassFile.FieldType.int) :: GG
abbrev b_D_isWhole : ByteArray := prog_5_method_14_code
abbrev y_D_isWhole : MethodName := ⟨R_D, "isWhole", "(IZ)Z"⟩
abbrev w_D_isWhole : List Cond := Cond.code y_D_isWhole b_D_isWhole 2 (Option.some Jvm.ClassFile.FieldType.boolean) :: GG
abbrev b_D_isThere : ByteArray := prog_5_method_16_code
abbrev y_D_isThere : MethodName := ⟨R_D, "isThere", "(IJI)Z"⟩
abbrev w_D_isThere : List Cond := Cond.code y_D_isThere b_D_isThere 5 (Option.some Jvm.ClassFile.FieldType.boolean) :: GG
abbrev b_D_get : ByteArray := prog_5_method_7_code
abbrev y_D_get : MethodName := ⟨R_D, "get", "(IJ)I"⟩
abbrev w_D_get : List Cond := Cond.code y_D_get b_D_get 5 (Option.some Jvm.ClassFile.FieldType.int) :: GG
abbrev b_D_rowOf : ByteArray := prog_5_method_6_code
abbrev y_D_rowOf : MethodName := ⟨R_D, "rowOf", "(IJ)I"⟩
abbrev w_D_rowOf : List Cond := Cond.code y_D_rowOf b_D_rowOf 7 (Option.some Jvm.ClassFile.FieldType.int) :: GG
abbrev b_D_store : ByteArray := prog_5_method_18_code
abbrev y_D_store : MethodName := ⟨R_D, "store", "(IIIIJ)V"⟩
abbrev w_D_store : List Cond := Cond.code y_D_store b_D_store 11 (Option.none : Option Jvm.ClassFile.FieldType) :: GG
abbrev b_D_put : ByteArray := prog_5_method_8_code
abbrev y_D_put : MethodName := ⟨R_D, "put", "(IJI)V"⟩
abbrev w_D_put : List Cond := Cond.code y_D_put b_D_put 6 (Option.none : Option Jvm.ClassFile.FieldType) :: GG
abbrev b_D_copy : ByteArray := prog_5_method_19_code
abbrev y_D_copy : MethodName := ⟨R_D, "copy", "(IIIII)V"⟩
abbrev w_D_copy : List Cond := Cond.code y_D_copy b_D_copy 8 (Option.none : Option Jvm.ClassFile.FieldType) :: GG
abbrev b_D_sum : ByteArray := prog_5_method_20_code
abbrev y_D_sum : MethodName := ⟨R_D, "sum", "(III)I"⟩
abbrev w_D_sum : List Cond := Cond.code y_D_sum b_D_sum 6 (Option.some Jvm.ClassFile.FieldType.int) :: GG
end
section
theorem d_D_init_0 : decode b_D_init 0 = .ok (.aload_n 0, 1) := by decide +kernel
theorem d_D_init_1 : decode b_D_init 1 = .ok (.invokespecial 1, 3) := by decide +kernel
theorem d_D_init_4 : decode b_D_init 4 = .ok (.aload_n 0, 1) := by decide +kernel
theorem d_D_init_5 : decode b_D_init 5 = .ok (.bipush 24, 2) := by decide +kernel
theorem d_D_init_7 : decode b_D_init 7 = .ok (.newarray .int, 2) := by decide +kernel
theorem d_D_init_9 : decode b_D_init 9 = .ok (.putfield 9, 3) := by decide +kernel
theorem d_D_init_12 : decode b_D_init 12 = .ok (.aload_n 0, 1) := by decide +kernel
theorem d_D_init_13 : decode b_D_init 13 = .ok (.bipush 16, 2) := by decide +kernel
theorem d_D_init_15 : decode b_D_init 15 = .ok (.newarray .int, 2) := by decide +kernel
theorem d_D_init_17 : decode b_D_init 17 = .ok (.putfield 13, 3) := by decide +kernel
theorem d_D_init_20 : decode b_D_init 20 = .ok (.aload_n 0, 1) := by decide +kernel
theorem d_D_init_21 : decode b_D_init 21 = .ok (.bipush 16, 2) := by decide +kernel
theorem d_D_init_23 : decode b_D_init 23 = .ok (.newarray .int, 2) := by decide +kernel
theorem d_D_init_25 : decode b_D_init 25 = .ok (.putfield 16, 3) := by decide +kernel
theorem d_D_init_28 : decode b_D_init 28 = .ok (.aload_n 0, 1) := by decide +kernel
theorem d_D_init_29 : decode b_D_init 29 = .ok (.sipush 1024, 3) := by decide +kernel
theorem d_D_init_32 : decode b_D_init 32 = .ok (.anewarray 19, 3) := by decide +kernel
theorem d_D_init_35 : decode b_D_init 35 = .ok (.putfield 21, 3) := by decide +kernel
theorem d_D_init_38 : decode b_D_init 38 = .ok (.aload_n 0, 1) := by decide +kernel
theorem d_D_init_39 : decode b_D_init 39 = .ok (.sipush 4096, 3) := by decide +kernel
theorem d_D_init_42 : decode b_D_init 42 = .ok (.newarray .int, 2) := by decide +kernel
theorem d_D_init_44 : decode b_D_init 44 = .ok (.putfield 25, 3) := by decide +kernel
theorem d_D_init_47 : decode b_D_init 47 = .ok (.return_, 1) := by decide +kernel
theorem d_D_thrown_0 : decode b_D_thrown 0 = .ok (.aload_n 0, 1) := by decide +kernel
theorem d_D_thrown_1 : decode b_D_thrown 1 = .ok (.getfield 28, 3) := by decide +kernel
theorem d_D_thrown_4 : decode b_D_thrown 4 = .ok (.ireturn, 1) := by decide +kernel
theorem d_D_isMemory_0 : decode b_D_isMemory 0 = .ok (.iload_n 1, 1) := by decide +kernel
theorem d_D_isMemory_1 : decode b_D_isMemory 1 = .ok (.ifCond .lt 15, 3) := by decide +kernel
theorem d_D_isMemory_4 : decode b_D_isMemory 4 = .ok (.iload_n 1, 1) := by decide +kernel
theorem d_D_isMemory_5 : decode b_D_isMemory 5 = .ok (.aload_n 0, 1) := by decide +kernel
theorem d_D_isMemory_6 : decode b_D_isMemory 6 = .ok (.getfield 32, 3) := by decide +kernel
theorem d_D_isMemory_9 : decode b_D_isMemory 9 = .ok (.if_icmp .ge 7, 3) := by decide +kernel
theorem d_D_isMemory_12 : decode b_D_isMemory 12 = .ok (.iconst 1, 1) := by decide +kernel
theorem d_D_isMemory_13 : decode b_D_isMemory 13 = .ok (.goto 4, 3) := by decide +kernel
theorem d_D_isMemory_16 : decode b_D_isMemory 16 = .ok (.iconst 0, 1) := by decide +kernel
theorem d_D_isMemory_17 : decode b_D_isMemory 17 = .ok (.ireturn, 1) := by decide +kernel
theorem d_D_count_0 : decode b_D_count 0 = .ok (.iconst 0, 1) := by decide +kernel
theorem d_D_count_1 : decode b_D_count 1 = .ok (.istore_n 2, 1) := by decide +kernel
theorem d_D_count_2 : decode b_D_count 2 = .ok (.iconst 0, 1) := by decide +kernel
theorem d_D_count_3 : decode b_D_count 3 = .ok (.istore_n 3, 1) := by decide +kernel
theorem d_D_count_4 : decode b_D_count 4 = .ok (.iload_n 3, 1) := by decide +kernel
theorem d_D_count_5 : decode b_D_count 5 = .ok (.aload_n 0, 1) := by decide +kernel
theorem d_D_count_6 : decode b_D_count 6 = .ok (.getfield 35, 3) := by decide +kernel
theorem d_D_count_9 : decode b_D_count 9 = .ok (.if_icmp .ge 27, 3) := by decide +kernel
theorem d_D_count_12 : decode b_D_count 12 = .ok (.aload_n 0, 1) := by decide +kernel
theorem d_D_count_13 : decode b_D_count 13 = .ok (.getfield 13, 3) := by decide +kernel
theorem d_D_count_16 : decode b_D_count 16 = .ok (.iload_n 3, 1) := by decide +kernel
theorem d_D_count_17 : decode b_D_count 17 = .ok (.iaload, 1) := by decide +kernel
theorem d_D_count_18 : decode b_D_count 18 = .ok (.iload_n 1, 1) := by decide +kernel
theorem d_D_count_19 : decode b_D_count 19 = .ok (.if_icmp .ne 9, 3) := by decide +kernel
theorem d_D_count_22 : decode b_D_count 22 = .ok (.iload_n 2, 1) := by decide +kernel
theorem d_D_count_23 : decode b_D_count 23 = .ok (.iconst 1, 1) := by decide +kernel
theorem d_D_count_24 : decode b_D_count 24 = .ok (.iadd, 1) := by decide +kernel
theorem d_D_count_25 : decode b_D_count 25 = .ok (.goto 4, 3) := by decide +kernel
theorem d_D_count_28 : decode b_D_count 28 = .ok (.iload_n 2, 1) := by decide +kernel
theorem d_D_count_29 : decode b_D_count 29 = .ok (.istore_n 2, 1) := by decide +kernel
theorem d_D_count_30 : decode b_D_count 30 = .ok (.iinc 3 1, 3) := by decide +kernel
theorem d_D_count_33 : decode b_D_count 33 = .ok (.goto (-29), 3) := by decide +kernel
theorem d_D_count_36 : decode b_D_count 36 = .ok (.iload_n 2, 1) := by decide +kernel
theorem d_D_count_37 : decode b_D_count 37 = .ok (.ireturn, 1) := by decide +kernel
theorem d_D_add_0 : decode b_D_add 0 = .ok (.aload_n 0, 1) := by decide +kernel
theorem d_D_add_1 : decode b_D_add 1 = .ok (.getfield 13, 3) := by decide +kernel
theorem d_D_add_4 : decode b_D_add 4 = .ok (.aload_n 0, 1) := by decide +kernel
theorem d_D_add_5 : decode b_D_add 5 = .ok (.getfield 35, 3) := by decide +kernel
theorem d_D_add_8 : decode b_D_add 8 = .ok (.iload_n 1, 1) := by decide +kernel
theorem d_D_add_9 : decode b_D_add 9 = .ok (.iastore, 1) := by decide +kernel
theorem d_D_add_10 : decode b_D_add 10 = .ok (.aload_n 0, 1) := by decide +kernel
theorem d_D_add_11 : decode b_D_add 11 = .ok (.getfield 16, 3) := by decide +kernel
theorem d_D_add_14 : decode b_D_add 14 = .ok (.aload_n 0, 1) := by decide +kernel
theorem d_D_add_15 : decode b_D_add 15 = .ok (.getfield 35, 3) := by decide +kernel
theorem d_D_add_18 : decode b_D_add 18 = .ok (.iload_n 2, 1) := by decide +kernel
theorem d_D_add_19 : decode b_D_add 19 = .ok (.iastore, 1) := by decide +kernel
theorem d_D_add_20 : decode b_D_add 20 = .ok (.aload_n 0, 1) := by decide +kernel
theorem d_D_add_21 : decode b_D_add 21 = .ok (.dup, 1) := by decide +kernel
theorem d_D_add_22 : decode b_D_add 22 = .ok (.getfield 35, 3) := by decide +kernel
theorem d_D_add_25 : decode b_D_add 25 = .ok (.iconst 1, 1) := by decide +kernel
theorem d_D_add_26 : decode b_D_add 26 = .ok (.iadd, 1) := by decide +kernel
theorem d_D_add_27 : decode b_D_add 27 = .ok (.putfield 35, 3) := by decide +kernel
theorem d_D_add_30 : decode b_D_add 30 = .ok (.return_, 1) := by decide +kernel
theorem d_D_rowOf_0 : decode b_D_rowOf 0 = .ok (.lload_n 2, 1) := by decide +kernel
theorem d_D_rowOf_1 : decode b_D_rowOf 1 = .ok (.ldc2_w 38, 3) := by decide +kernel
theorem d_D_rowOf_4 : decode b_D_rowOf 4 = .ok (.ldiv, 1) := by decide +kernel
theorem d_D_rowOf_5 : decode b_D_rowOf 5 = .ok (.l2i, 1) := by decide +kernel
theorem d_D_rowOf_6 : decode b_D_rowOf 6 = .ok (.istore 4, 2) := by decide +kernel
theorem d_D_rowOf_8 : decode b_D_rowOf 8 = .ok (.iconst 0, 1) := by decide +kernel
theorem d_D_rowOf_9 : decode b_D_rowOf 9 = .ok (.istore 5, 2) := by decide +kernel
theorem d_D_rowOf_11 : decode b_D_rowOf 11 = .ok (.iconst 0, 1) := by decide +kernel
theorem d_D_rowOf_12 : decode b_D_rowOf 12 = .ok (.istore 6, 2) := by decide +kernel
theorem d_D_rowOf_14 : decode b_D_rowOf 14 = .ok (.iload 6, 2) := by decide +kernel
theorem d_D_rowOf_16 : decode b_D_rowOf 16 = .ok (.aload_n 0, 1) := by decide +kernel
theorem d_D_rowOf_17 : decode b_D_rowOf 17 = .ok (.getfield 35, 3) := by decide +kernel
theorem d_D_rowOf_20 : decode b_D_rowOf 20 = .ok (.if_icmp .ge 41, 3) := by decide +kernel
theorem d_D_rowOf_23 : decode b_D_rowOf 23 = .ok (.aload_n 0, 1) := by decide +kernel
theorem d_D_rowOf_24 : decode b_D_rowOf 24 = .ok (.getfield 13, 3) := by decide +kernel
theorem d_D_rowOf_27 : decode b_D_rowOf 27 = .ok (.iload 6, 2) := by decide +kernel
theorem d_D_rowOf_29 : decode b_D_rowOf 29 = .ok (.iaload, 1) := by decide +kernel
theorem d_D_rowOf_30 : decode b_D_rowOf 30 = .ok (.iload_n 1, 1) := by decide +kernel
theorem d_D_rowOf_31 : decode b_D_rowOf 31 = .ok (.if_icmp .ne 20, 3) := by decide +kernel
theorem d_D_rowOf_34 : decode b_D_rowOf 34 = .ok (.aload_n 0, 1) := by decide +kernel
theorem d_D_rowOf_35 : decode b_D_rowOf 35 = .ok (.getfield 16, 3) := by decide +kernel
theorem d_D_rowOf_38 : decode b_D_rowOf 38 = .ok (.iload 6, 2) := by decide +kernel
theorem d_D_rowOf_40 : decode b_D_rowOf 40 = .ok (.iaload, 1) := by decide +kernel
theorem d_D_rowOf_41 : decode b_D_rowOf 41 = .ok (.iload 4, 2) := by decide +kernel
theorem d_D_rowOf_43 : decode b_D_rowOf 43 = .ok (.if_icmp .ne 8, 3) := by decide +kernel
theorem d_D_rowOf_46 : decode b_D_rowOf 46 = .ok (.iload 6, 2) := by decide +kernel
theorem d_D_rowOf_48 : decode b_D_rowOf 48 = .ok (.goto 5, 3) := by decide +kernel
theorem d_D_rowOf_51 : decode b_D_rowOf 51 = .ok (.iload 5, 2) := by decide +kernel
theorem d_D_rowOf_53 : decode b_D_rowOf 53 = .ok (.istore 5, 2) := by decide +kernel
theorem d_D_rowOf_55 : decode b_D_rowOf 55 = .ok (.iinc 6 1, 3) := by decide +kernel
theorem d_D_rowOf_58 : decode b_D_rowOf 58 = .ok (.goto (-44), 3) := by decide +kernel
theorem d_D_rowOf_61 : decode b_D_rowOf 61 = .ok (.bipush 64, 2) := by decide +kernel
theorem d_D_rowOf_63 : decode b_D_rowOf 63 = .ok (.iload 5, 2) := by decide +kernel
theorem d_D_rowOf_65 : decode b_D_rowOf 65 = .ok (.imul, 1) := by decide +kernel
theorem d_D_rowOf_66 : decode b_D_rowOf 66 = .ok (.lload_n 2, 1) := by decide +kernel
theorem d_D_rowOf_67 : decode b_D_rowOf 67 = .ok (.ldc2_w 38, 3) := by decide +kernel
theorem d_D_rowOf_70 : decode b_D_rowOf 70 = .ok (.lrem, 1) := by decide +kernel
theorem d_D_rowOf_71 : decode b_D_rowOf 71 = .ok (.l2i, 1) := by decide +kernel
theorem d_D_rowOf_72 : decode b_D_rowOf 72 = .ok (.sipush 1024, 3) := by decide +kernel
theorem d_D_rowOf_75 : decode b_D_rowOf 75 = .ok (.idiv, 1) := by decide +kernel
theorem d_D_rowOf_76 : decode b_D_rowOf 76 = .ok (.iadd, 1) := by decide +kernel
theorem d_D_rowOf_77 : decode b_D_rowOf 77 = .ok (.ireturn, 1) := by decide +kernel
theorem d_D_get_0 : decode b_D_get 0 = .ok (.aload_n 0, 1) := by decide +kernel
theorem d_D_get_1 : decode b_D_get 1 = .ok (.getfield 21, 3) := by decide +kernel
theorem d_D_get_4 : decode b_D_get 4 = .ok (.aload_n 0, 1) := by decide +kernel
theorem d_D_get_5 : decode b_D_get 5 = .ok (.iload_n 1, 1) := by decide +kernel
theorem d_D_get_6 : decode b_D_get 6 = .ok (.lload_n 2, 1) := by decide +kernel
theorem d_D_get_7 : decode b_D_get 7 = .ok (.invokevirtual 40, 3) := by decide +kernel
theorem d_D_get_10 : decode b_D_get 10 = .ok (.aaload, 1) := by decide +kernel
theorem d_D_get_11 : decode b_D_get 11 = .ok (.astore 4, 2) := by decide +kernel
theorem d_D_get_13 : decode b_D_get 13 = .ok (.aload 4, 2) := by decide +kernel
theorem d_D_get_15 : decode b_D_get 15 = .ok (.ifnonnull 7, 3) := by decide +kernel
theorem d_D_get_18 : decode b_D_get 18 = .ok (.iconst 0, 1) := by decide +kernel
theorem d_D_get_19 : decode b_D_get 19 = .ok (.goto 16, 3) := by decide +kernel
theorem d_D_get_22 : decode b_D_get 22 = .ok (.aload 4, 2) := by decide +kernel
theorem d_D_get_24 : decode b_D_get 24 = .ok (.lload_n 2, 1) := by decide +kernel
theorem d_D_get_25 : decode b_D_get 25 = .ok (.ldc2_w 44, 3) := by decide +kernel
theorem d_D_get_28 : decode b_D_get 28 = .ok (.lrem, 1) := by decide +kernel
theorem d_D_get_29 : decode b_D_get 29 = .ok (.l2i, 1) := by decide +kernel
theorem d_D_get_30 : decode b_D_get 30 = .ok (.baload, 1) := by decide +kernel
theorem d_D_get_31 : decode b_D_get 31 = .ok (.sipush 255, 3) := by decide +kernel
theorem d_D_get_34 : decode b_D_get 34 = .ok (.iand, 1) := by decide +kernel
theorem d_D_get_35 : decode b_D_get 35 = .ok (.ireturn, 1) := by decide +kernel
theorem d_D_put_0 : decode b_D_put 0 = .ok (.aload_n 0, 1) := by decide +kernel
theorem d_D_put_1 : decode b_D_put 1 = .ok (.iload_n 1, 1) := by decide +kernel
theorem d_D_put_2 : decode b_D_put 2 = .ok (.lload_n 2, 1) := by decide +kernel
theorem d_D_put_3 : decode b_D_put 3 = .ok (.invokevirtual 40, 3) := by decide +kernel
theorem d_D_put_6 : decode b_D_put 6 = .ok (.istore 5, 2) := by decide +kernel
theorem d_D_put_8 : decode b_D_put 8 = .ok (.aload_n 0, 1) := by decide +kernel
theorem d_D_put_9 : decode b_D_put 9 = .ok (.getfield 21, 3) := by decide +kernel
theorem d_D_put_12 : decode b_D_put 12 = .ok (.iload 5, 2) := by decide +kernel
theorem d_D_put_14 : decode b_D_put 14 = .ok (.aaload, 1) := by decide +kernel
theorem d_D_put_15 : decode b_D_put 15 = .ok (.ifnonnull 20, 3) := by decide +kernel
theorem d_D_put_18 : decode b_D_put 18 = .ok (.iload 4, 2) := by decide +kernel
theorem d_D_put_20 : decode b_D_put 20 = .ok (.ifCond .eq 15, 3) := by decide +kernel
theorem d_D_put_23 : decode b_D_put 23 = .ok (.aload_n 0, 1) := by decide +kernel
theorem d_D_put_24 : decode b_D_put 24 = .ok (.getfield 21, 3) := by decide +kernel
theorem d_D_put_27 : decode b_D_put 27 = .ok (.iload 5, 2) := by decide +kernel
theorem d_D_put_29 : decode b_D_put 29 = .ok (.sipush 1024, 3) := by decide +kernel
theorem d_D_put_32 : decode b_D_put 32 = .ok (.newarray .byte, 2) := by decide +kernel
theorem d_D_put_34 : decode b_D_put 34 = .ok (.aastore, 1) := by decide +kernel
theorem d_D_put_35 : decode b_D_put 35 = .ok (.aload_n 0, 1) := by decide +kernel
theorem d_D_put_36 : decode b_D_put 36 = .ok (.getfield 21, 3) := by decide +kernel
theorem d_D_put_39 : decode b_D_put 39 = .ok (.iload 5, 2) := by decide +kernel
theorem d_D_put_41 : decode b_D_put 41 = .ok (.aaload, 1) := by decide +kernel
theorem d_D_put_42 : decode b_D_put 42 = .ok (.ifnull 20, 3) := by decide +kernel
theorem d_D_put_45 : decode b_D_put 45 = .ok (.aload_n 0, 1) := by decide +kernel
theorem d_D_put_46 : decode b_D_put 46 = .ok (.getfield 21, 3) := by decide +kernel
theorem d_D_put_49 : decode b_D_put 49 = .ok (.iload 5, 2) := by decide +kernel
theorem d_D_put_51 : decode b_D_put 51 = .ok (.aaload, 1) := by decide +kernel
theorem d_D_put_52 : decode b_D_put 52 = .ok (.lload_n 2, 1) := by decide +kernel
theorem d_D_put_53 : decode b_D_put 53 = .ok (.ldc2_w 44, 3) := by decide +kernel
theorem d_D_put_56 : decode b_D_put 56 = .ok (.lrem, 1) := by decide +kernel
theorem d_D_put_57 : decode b_D_put 57 = .ok (.l2i, 1) := by decide +kernel
theorem d_D_put_58 : decode b_D_put 58 = .ok (.iload 4, 2) := by decide +kernel
theorem d_D_put_60 : decode b_D_put 60 = .ok (.i2b, 1) := by decide +kernel
theorem d_D_put_61 : decode b_D_put 61 = .ok (.bastore, 1) := by decide +kernel
theorem d_D_put_62 : decode b_D_put 62 = .ok (.return_, 1) := by decide +kernel
theorem d_D_make_0 : decode b_D_make 0 = .ok (.iload_n 1, 1) := by decide +kernel
theorem d_D_make_1 : decode b_D_make 1 = .ok (.ifCond .lt 29, 3) := by decide +kernel
theorem d_D_make_4 : decode b_D_make 4 = .ok (.iload_n 1, 1) := by decide +kernel
theorem d_D_make_5 : decode b_D_make 5 = .ok (.ldc 46, 2) := by decide +kernel
theorem d_D_make_7 : decode b_D_make 7 = .ok (.if_icmp .gt 23, 3) := by decide +kernel
theorem d_D_make_10 : decode b_D_make 10 = .ok (.iload_n 2, 1) := by decide +kernel
theorem d_D_make_11 : decode b_D_make 11 = .ok (.iconst (-1), 1) := by decide +kernel
theorem d_D_make_12 : decode b_D_make 12 = .ok (.if_icmp .eq 14, 3) := by decide +kernel
theorem d_D_make_15 : decode b_D_make 15 = .ok (.iload_n 2, 1) := by decide +kernel
theorem d_D_make_16 : decode b_D_make 16 = .ok (.iload_n 1, 1) := by decide +kernel
theorem d_D_make_17 : decode b_D_make 17 = .ok (.if_icmp .lt 13, 3) := by decide +kernel
theorem d_D_make_20 : decode b_D_make 20 = .ok (.iload_n 2, 1) := by decide +kernel
theorem d_D_make_21 : decode b_D_make 21 = .ok (.ldc 46, 2) := by decide +kernel
theorem d_D_make_23 : decode b_D_make 23 = .ok (.if_icmp .gt 7, 3) := by decide +kernel
theorem d_D_make_26 : decode b_D_make 26 = .ok (.iconst 1, 1) := by decide +kernel
theorem d_D_make_27 : decode b_D_make 27 = .ok (.goto 4, 3) := by decide +kernel
theorem d_D_make_30 : decode b_D_make 30 = .ok (.iconst 0, 1) := by decide +kernel
theorem d_D_make_31 : decode b_D_make 31 = .ok (.istore_n 3, 1) := by decide +kernel
theorem d_D_make_32 : decode b_D_make 32 = .ok (.aload_n 0, 1) := by decide +kernel
theorem d_D_make_33 : decode b_D_make 33 = .ok (.iload_n 3, 1) := by decide +kernel
theorem d_D_make_34 : decode b_D_make 34 = .ok (.ifCond .ne 7, 3) := by decide +kernel
theorem d_D_make_37 : decode b_D_make 37 = .ok (.iconst 1, 1) := by decide +kernel
theorem d_D_make_38 : decode b_D_make 38 = .ok (.goto 32, 3) := by decide +kernel
theorem d_D_make_41 : decode b_D_make 41 = .ok (.aload_n 0, 1) := by decide +kernel
theorem d_D_make_42 : decode b_D_make 42 = .ok (.getfield 32, 3) := by decide +kernel
theorem d_D_make_45 : decode b_D_make 45 = .ok (.bipush 24, 2) := by decide +kernel
theorem d_D_make_47 : decode b_D_make 47 = .ok (.if_icmp .ne 7, 3) := by decide +kernel
theorem d_D_make_50 : decode b_D_make 50 = .ok (.iconst 2, 1) := by decide +kernel
theorem d_D_make_51 : decode b_D_make 51 = .ok (.goto 19, 3) := by decide +kernel
theorem d_D_make_54 : decode b_D_make 54 = .ok (.aload_n 0, 1) := by decide +kernel
theorem d_D_make_55 : decode b_D_make 55 = .ok (.getfield 35, 3) := by decide +kernel
theorem d_D_make_58 : decode b_D_make 58 = .ok (.iload_n 1, 1) := by decide +kernel
theorem d_D_make_59 : decode b_D_make 59 = .ok (.iadd, 1) := by decide +kernel
theorem d_D_make_60 : decode b_D_make 60 = .ok (.bipush 16, 2) := by decide +kernel
theorem d_D_make_62 : decode b_D_make 62 = .ok (.if_icmp .le 7, 3) := by decide +kernel
theorem d_D_make_65 : decode b_D_make 65 = .ok (.iconst 3, 1) := by decide +kernel
theorem d_D_make_66 : decode b_D_make 66 = .ok (.goto 4, 3) := by decide +kernel
theorem d_D_make_69 : decode b_D_make 69 = .ok (.iconst 0, 1) := by decide +kernel
theorem d_D_make_70 : decode b_D_make 70 = .ok (.putfield 28, 3) := by decide +kernel
theorem d_D_make_73 : decode b_D_make 73 = .ok (.aload_n 0, 1) := by decide +kernel
theorem d_D_make_74 : decode b_D_make 74 = .ok (.getfield 28, 3) := by decide +kernel
theorem d_D_make_77 : decode b_D_make 77 = .ok (.ifCond .le 5, 3) := by decide +kernel
theorem d_D_make_80 : decode b_D_make 80 = .ok (.iconst 0, 1) := by decide +kernel
theorem d_D_make_81 : decode b_D_make 81 = .ok (.ireturn, 1) := by decide +kernel
theorem d_D_make_82 : decode b_D_make 82 = .ok (.iconst 0, 1) := by decide +kernel
theorem d_D_make_83 : decode b_D_make 83 = .ok (.istore 4, 2) := by decide +kernel
theorem d_D_make_85 : decode b_D_make 85 = .ok (.iload 4, 2) := by decide +kernel
theorem d_D_make_87 : decode b_D_make 87 = .ok (.iload_n 1, 1) := by decide +kernel
theorem d_D_make_88 : decode b_D_make 88 = .ok (.if_icmp .ge 19, 3) := by decide +kernel
theorem d_D_make_91 : decode b_D_make 91 = .ok (.aload_n 0, 1) := by decide +kernel
theorem d_D_make_92 : decode b_D_make 92 = .ok (.aload_n 0, 1) := by decide +kernel
theorem d_D_make_93 : decode b_D_make 93 = .ok (.getfield 32, 3) := by decide +kernel
theorem d_D_make_96 : decode b_D_make 96 = .ok (.iload 4, 2) := by decide +kernel
theorem d_D_make_98 : decode b_D_make 98 = .ok (.invokevirtual 47, 3) := by decide +kernel
theorem d_D_make_101 : decode b_D_make 101 = .ok (.iinc 4 1, 3) := by decide +kernel
theorem d_D_make_104 : decode b_D_make 104 = .ok (.goto (-19), 3) := by decide +kernel
theorem d_D_make_107 : decode b_D_make 107 = .ok (.aload_n 0, 1) := by decide +kernel
theorem d_D_make_108 : decode b_D_make 108 = .ok (.getfield 9, 3) := by decide +kernel
theorem d_D_make_111 : decode b_D_make 111 = .ok (.aload_n 0, 1) := by decide +kernel
theorem d_D_make_112 : decode b_D_make 112 = .ok (.getfield 32, 3) := by decide +kernel
theorem d_D_make_115 : decode b_D_make 115 = .ok (.iload_n 2, 1) := by decide +kernel
theorem d_D_make_116 : decode b_D_make 116 = .ok (.iastore, 1) := by decide +kernel
theorem d_D_make_117 : decode b_D_make 117 = .ok (.aload_n 0, 1) := by decide +kernel
theorem d_D_make_118 : decode b_D_make 118 = .ok (.dup, 1) := by decide +kernel
theorem d_D_make_119 : decode b_D_make 119 = .ok (.getfield 32, 3) := by decide +kernel
theorem d_D_make_122 : decode b_D_make 122 = .ok (.iconst 1, 1) := by decide +kernel
theorem d_D_make_123 : decode b_D_make 123 = .ok (.iadd, 1) := by decide +kernel
theorem d_D_make_124 : decode b_D_make 124 = .ok (.putfield 32, 3) := by decide +kernel
theorem d_D_make_127 : decode b_D_make 127 = .ok (.aload_n 0, 1) := by decide +kernel
theorem d_D_make_128 : decode b_D_make 128 = .ok (.getfield 32, 3) := by decide +kernel
theorem d_D_make_131 : decode b_D_make 131 = .ok (.iconst 1, 1) := by decide +kernel
theorem d_D_make_132 : decode b_D_make 132 = .ok (.isub, 1) := by decide +kernel
theorem d_D_make_133 : decode b_D_make 133 = .ok (.ireturn, 1) := by decide +kernel
theorem d_D_pages_0 : decode b_D_pages 0 = .ok (.aload_n 0, 1) := by decide +kernel
theorem d_D_pages_1 : decode b_D_pages 1 = .ok (.aload_n 0, 1) := by decide +kernel
theorem d_D_pages_2 : decode b_D_pages 2 = .ok (.iload_n 1, 1) := by decide +kernel
theorem d_D_pages_3 : decode b_D_pages 3 = .ok (.invokevirtual 51, 3) := by decide +kernel
theorem d_D_pages_6 : decode b_D_pages 6 = .ok (.ifCond .eq 7, 3) := by decide +kernel
theorem d_D_pages_9 : decode b_D_pages 9 = .ok (.iconst 0, 1) := by decide +kernel
theorem d_D_pages_10 : decode b_D_pages 10 = .ok (.goto 4, 3) := by decide +kernel
theorem d_D_pages_13 : decode b_D_pages 13 = .ok (.iconst 1, 1) := by decide +kernel
theorem d_D_pages_14 : decode b_D_pages 14 = .ok (.putfield 28, 3) := by decide +kernel
theorem d_D_pages_17 : decode b_D_pages 17 = .ok (.aload_n 0, 1) := by decide +kernel
theorem d_D_pages_18 : decode b_D_pages 18 = .ok (.getfield 28, 3) := by decide +kernel
theorem d_D_pages_21 : decode b_D_pages 21 = .ok (.ifCond .le 7, 3) := by decide +kernel
theorem d_D_pages_24 : decode b_D_pages 24 = .ok (.iconst 0, 1) := by decide +kernel
theorem d_D_pages_25 : decode b_D_pages 25 = .ok (.goto 8, 3) := by decide +kernel
theorem d_D_pages_28 : decode b_D_pages 28 = .ok (.aload_n 0, 1) := by decide +kernel
theorem d_D_pages_29 : decode b_D_pages 29 = .ok (.iload_n 1, 1) := by decide +kernel
theorem d_D_pages_30 : decode b_D_pages 30 = .ok (.invokevirtual 55, 3) := by decide +kernel
theorem d_D_pages_33 : decode b_D_pages 33 = .ok (.ireturn, 1) := by decide +kernel
theorem d_D_grow_0 : decode b_D_grow 0 = .ok (.aload_n 0, 1) := by decide +kernel
theorem d_D_grow_1 : decode b_D_grow 1 = .ok (.aload_n 0, 1) := by decide +kernel
theorem d_D_grow_2 : decode b_D_grow 2 = .ok (.iload_n 1, 1) := by decide +kernel
theorem d_D_grow_3 : decode b_D_grow 3 = .ok (.invokevirtual 51, 3) := by decide +kernel
theorem d_D_grow_6 : decode b_D_grow 6 = .ok (.ifCond .eq 7, 3) := by decide +kernel
theorem d_D_grow_9 : decode b_D_grow 9 = .ok (.iconst 0, 1) := by decide +kernel
theorem d_D_grow_10 : decode b_D_grow 10 = .ok (.goto 4, 3) := by decide +kernel
theorem d_D_grow_13 : decode b_D_grow 13 = .ok (.iconst 1, 1) := by decide +kernel
theorem d_D_grow_14 : decode b_D_grow 14 = .ok (.putfield 28, 3) := by decide +kernel
theorem d_D_grow_17 : decode b_D_grow 17 = .ok (.aload_n 0, 1) := by decide +kernel
theorem d_D_grow_18 : decode b_D_grow 18 = .ok (.getfield 28, 3) := by decide +kernel
theorem d_D_grow_21 : decode b_D_grow 21 = .ok (.ifCond .le 5, 3) := by decide +kernel
theorem d_D_grow_24 : decode b_D_grow 24 = .ok (.iconst 0, 1) := by decide +kernel
theorem d_D_grow_25 : decode b_D_grow 25 = .ok (.ireturn, 1) := by decide +kernel
theorem d_D_grow_26 : decode b_D_grow 26 = .ok (.aload_n 0, 1) := by decide +kernel
theorem d_D_grow_27 : decode b_D_grow 27 = .ok (.iload_n 1, 1) := by decide +kernel
theorem d_D_grow_28 : decode b_D_grow 28 = .ok (.invokevirtual 55, 3) := by decide +kernel
theorem d_D_grow_31 : decode b_D_grow 31 = .ok (.istore_n 3, 1) := by decide +kernel
theorem d_D_grow_32 : decode b_D_grow 32 = .ok (.iload_n 2, 1) := by decide +kernel
theorem d_D_grow_33 : decode b_D_grow 33 = .ok (.ifCond .ge 12, 3) := by decide +kernel
theorem d_D_grow_36 : decode b_D_grow 36 = .ok (.iload_n 2, 1) := by decide +kernel
theorem d_D_grow_37 : decode b_D_grow 37 = .ok (.i2l, 1) := by decide +kernel
theorem d_D_grow_38 : decode b_D_grow 38 = .ok (.ldc2_w 59, 3) := by decide +kernel
theorem d_D_grow_41 : decode b_D_grow 41 = .ok (.ladd, 1) := by decide +kernel
theorem d_D_grow_42 : decode b_D_grow 42 = .ok (.goto 5, 3) := by decide +kernel
theorem d_D_grow_45 : decode b_D_grow 45 = .ok (.iload_n 2, 1) := by decide +kernel
theorem d_D_grow_46 : decode b_D_grow 46 = .ok (.i2l, 1) := by decide +kernel
theorem d_D_grow_47 : decode b_D_grow 47 = .ok (.lstore 4, 2) := by decide +kernel
theorem d_D_grow_49 : decode b_D_grow 49 = .ok (.iload_n 3, 1) := by decide +kernel
theorem d_D_grow_50 : decode b_D_grow 50 = .ok (.i2l, 1) := by decide +kernel
theorem d_D_grow_51 : decode b_D_grow 51 = .ok (.lload 4, 2) := by decide +kernel
theorem d_D_grow_53 : decode b_D_grow 53 = .ok (.ladd, 1) := by decide +kernel
theorem d_D_grow_54 : decode b_D_grow 54 = .ok (.aload_n 0, 1) := by decide +kernel
theorem d_D_grow_55 : decode b_D_grow 55 = .ok (.getfield 9, 3) := by decide +kernel
theorem d_D_grow_58 : decode b_D_grow 58 = .ok (.iload_n 1, 1) := by decide +kernel
theorem d_D_grow_59 : decode b_D_grow 59 = .ok (.iaload, 1) := by decide +kernel
theorem d_D_grow_60 : decode b_D_grow 60 = .ok (.iconst (-1), 1) := by decide +kernel
theorem d_D_grow_61 : decode b_D_grow 61 = .ok (.if_icmp .ne 8, 3) := by decide +kernel
theorem d_D_grow_64 : decode b_D_grow 64 = .ok (.ldc 46, 2) := by decide +kernel
theorem d_D_grow_66 : decode b_D_grow 66 = .ok (.goto 9, 3) := by decide +kernel
theorem d_D_grow_69 : decode b_D_grow 69 = .ok (.aload_n 0, 1) := by decide +kernel
theorem d_D_grow_70 : decode b_D_grow 70 = .ok (.getfield 9, 3) := by decide +kernel
theorem d_D_grow_73 : decode b_D_grow 73 = .ok (.iload_n 1, 1) := by decide +kernel
theorem d_D_grow_74 : decode b_D_grow 74 = .ok (.iaload, 1) := by decide +kernel
theorem d_D_grow_75 : decode b_D_grow 75 = .ok (.i2l, 1) := by decide +kernel
theorem d_D_grow_76 : decode b_D_grow 76 = .ok (.lcmp, 1) := by decide +kernel
theorem d_D_grow_77 : decode b_D_grow 77 = .ok (.ifCond .gt 18, 3) := by decide +kernel
theorem d_D_grow_80 : decode b_D_grow 80 = .ok (.aload_n 0, 1) := by decide +kernel
theorem d_D_grow_81 : decode b_D_grow 81 = .ok (.getfield 35, 3) := by decide +kernel
theorem d_D_grow_84 : decode b_D_grow 84 = .ok (.i2l, 1) := by decide +kernel
theorem d_D_grow_85 : decode b_D_grow 85 = .ok (.lload 4, 2) := by decide +kernel
theorem d_D_grow_87 : decode b_D_grow 87 = .ok (.ladd, 1) := by decide +kernel
theorem d_D_grow_88 : decode b_D_grow 88 = .ok (.ldc2_w 61, 3) := by decide +kernel
theorem d_D_grow_91 : decode b_D_grow 91 = .ok (.lcmp, 1) := by decide +kernel
theorem d_D_grow_92 : decode b_D_grow 92 = .ok (.ifCond .le 5, 3) := by decide +kernel
theorem d_D_grow_95 : decode b_D_grow 95 = .ok (.iconst (-1), 1) := by decide +kernel
theorem d_D_grow_96 : decode b_D_grow 96 = .ok (.ireturn, 1) := by decide +kernel
theorem d_D_grow_97 : decode b_D_grow 97 = .ok (.iconst 0, 1) := by decide +kernel
theorem d_D_grow_98 : decode b_D_grow 98 = .ok (.istore 6, 2) := by decide +kernel
theorem d_D_grow_100 : decode b_D_grow 100 = .ok (.iload 6, 2) := by decide +kernel
theorem d_D_grow_102 : decode b_D_grow 102 = .ok (.iload_n 2, 1) := by decide +kernel
theorem d_D_grow_103 : decode b_D_grow 103 = .ok (.if_icmp .ge 18, 3) := by decide +kernel
theorem d_D_grow_106 : decode b_D_grow 106 = .ok (.aload_n 0, 1) := by decide +kernel
theorem d_D_grow_107 : decode b_D_grow 107 = .ok (.iload_n 1, 1) := by decide +kernel
theorem d_D_grow_108 : decode b_D_grow 108 = .ok (.iload_n 3, 1) := by decide +kernel
theorem d_D_grow_109 : decode b_D_grow 109 = .ok (.iload 6, 2) := by decide +kernel
theorem d_D_grow_111 : decode b_D_grow 111 = .ok (.iadd, 1) := by decide +kernel
theorem d_D_grow_112 : decode b_D_grow 112 = .ok (.invokevirtual 47, 3) := by decide +kernel
theorem d_D_grow_115 : decode b_D_grow 115 = .ok (.iinc 6 1, 3) := by decide +kernel
theorem d_D_grow_118 : decode b_D_grow 118 = .ok (.goto (-18), 3) := by decide +kernel
theorem d_D_grow_121 : decode b_D_grow 121 = .ok (.iload_n 3, 1) := by decide +kernel
theorem d_D_grow_122 : decode b_D_grow 122 = .ok (.ireturn, 1) := by decide +kernel
theorem d_D_fits_0 : decode b_D_fits 0 = .ok (.aload_n 0, 1) := by decide +kernel
theorem d_D_fits_1 : decode b_D_fits 1 = .ok (.aload_n 0, 1) := by decide +kernel
theorem d_D_fits_2 : decode b_D_fits 2 = .ok (.iload_n 1, 1) := by decide +kernel
theorem d_D_fits_3 : decode b_D_fits 3 = .ok (.invokevirtual 51, 3) := by decide +kernel
theorem d_D_fits_6 : decode b_D_fits 6 = .ok (.ifCond .eq 7, 3) := by decide +kernel
theorem d_D_fits_9 : decode b_D_fits 9 = .ok (.iconst 0, 1) := by decide +kernel
theorem d_D_fits_10 : decode b_D_fits 10 = .ok (.goto 4, 3) := by decide +kernel
theorem d_D_fits_13 : decode b_D_fits 13 = .ok (.iconst 1, 1) := by decide +kernel
theorem d_D_fits_14 : decode b_D_fits 14 = .ok (.putfield 28, 3) := by decide +kernel
theorem d_D_fits_17 : decode b_D_fits 17 = .ok (.aload_n 0, 1) := by decide +kernel
theorem d_D_fits_18 : decode b_D_fits 18 = .ok (.getfield 28, 3) := by decide +kernel
theorem d_D_fits_21 : decode b_D_fits 21 = .ok (.ifCond .ne 41, 3) := by decide +kernel
theorem d_D_fits_24 : decode b_D_fits 24 = .ok (.aload_n 0, 1) := by decide +kernel
theorem d_D_fits_25 : decode b_D_fits 25 = .ok (.iload_n 1, 1) := by decide +kernel
theorem d_D_fits_26 : decode b_D_fits 26 = .ok (.invokevirtual 55, 3) := by decide +kernel
theorem d_D_fits_29 : decode b_D_fits 29 = .ok (.iload_n 2, 1) := by decide +kernel
theorem d_D_fits_30 : decode b_D_fits 30 = .ok (.if_icmp .lt 32, 3) := by decide +kernel
theorem d_D_fits_33 : decode b_D_fits 33 = .ok (.iload_n 3, 1) := by decide +kernel
theorem d_D_fits_34 : decode b_D_fits 34 = .ok (.iconst (-1), 1) := by decide +kernel
theorem d_D_fits_35 : decode b_D_fits 35 = .ok (.if_icmp .eq 23, 3) := by decide +kernel
theorem d_D_fits_38 : decode b_D_fits 38 = .ok (.aload_n 0, 1) := by decide +kernel
theorem d_D_fits_39 : decode b_D_fits 39 = .ok (.getfield 9, 3) := by decide +kernel
theorem d_D_fits_42 : decode b_D_fits 42 = .ok (.iload_n 1, 1) := by decide +kernel
theorem d_D_fits_43 : decode b_D_fits 43 = .ok (.iaload, 1) := by decide +kernel
theorem d_D_fits_44 : decode b_D_fits 44 = .ok (.iconst (-1), 1) := by decide +kernel
theorem d_D_fits_45 : decode b_D_fits 45 = .ok (.if_icmp .eq 17, 3) := by decide +kernel
theorem d_D_fits_48 : decode b_D_fits 48 = .ok (.aload_n 0, 1) := by decide +kernel
theorem d_D_fits_49 : decode b_D_fits 49 = .ok (.getfield 9, 3) := by decide +kernel
theorem d_D_fits_52 : decode b_D_fits 52 = .ok (.iload_n 1, 1) := by decide +kernel
theorem d_D_fits_53 : decode b_D_fits 53 = .ok (.iaload, 1) := by decide +kernel
theorem d_D_fits_54 : decode b_D_fits 54 = .ok (.iload_n 3, 1) := by decide +kernel
theorem d_D_fits_55 : decode b_D_fits 55 = .ok (.if_icmp .gt 7, 3) := by decide +kernel
theorem d_D_fits_58 : decode b_D_fits 58 = .ok (.iconst 1, 1) := by decide +kernel
theorem d_D_fits_59 : decode b_D_fits 59 = .ok (.goto 4, 3) := by decide +kernel
theorem d_D_fits_62 : decode b_D_fits 62 = .ok (.iconst 0, 1) := by decide +kernel
theorem d_D_fits_63 : decode b_D_fits 63 = .ok (.ireturn, 1) := by decide +kernel
theorem d_D_size_0 : decode b_D_size 0 = .ok (.iload_n 0, 1) := by decide +kernel
theorem d_D_size_1 : decode b_D_size 1 = .ok (.tableswitch 114 40 62 #[110, 107, 110, 107, 114, 114, 112, 112, 114, 114, 112, 112, 110, 110, 110, 107, 110, 107, 114, 112, 114, 112, 110], 107) := by decide +kernel
theorem d_D_size_108 : decode b_D_size 108 = .ok (.bipush 8, 2) := by decide +kernel
theorem d_D_size_110 : decode b_D_size 110 = .ok (.ireturn, 1) := by decide +kernel
theorem d_D_size_111 : decode b_D_size 111 = .ok (.iconst 4, 1) := by decide +kernel
theorem d_D_size_112 : decode b_D_size 112 = .ok (.ireturn, 1) := by decide +kernel
theorem d_D_size_113 : decode b_D_size 113 = .ok (.iconst 2, 1) := by decide +kernel
theorem d_D_size_114 : decode b_D_size 114 = .ok (.ireturn, 1) := by decide +kernel
theorem d_D_size_115 : decode b_D_size 115 = .ok (.iconst 1, 1) := by decide +kernel
theorem d_D_size_116 : decode b_D_size 116 = .ok (.ireturn, 1) := by decide +kernel
theorem d_D_isWhole_0 : decode b_D_isWhole 0 = .ok (.iload_n 1, 1) := by decide +kernel
theorem d_D_isWhole_1 : decode b_D_isWhole 1 = .ok (.ifCond .eq 23, 3) := by decide +kernel
theorem d_D_isWhole_4 : decode b_D_isWhole 4 = .ok (.iload_n 0, 1) := by decide +kernel
theorem d_D_isWhole_5 : decode b_D_isWhole 5 = .ok (.bipush 54, 2) := by decide +kernel
theorem d_D_isWhole_7 : decode b_D_isWhole 7 = .ok (.if_icmp .lt 13, 3) := by decide +kernel
theorem d_D_isWhole_10 : decode b_D_isWhole 10 = .ok (.iload_n 0, 1) := by decide +kernel
theorem d_D_isWhole_11 : decode b_D_isWhole 11 = .ok (.bipush 62, 2) := by decide +kernel
theorem d_D_isWhole_13 : decode b_D_isWhole 13 = .ok (.if_icmp .gt 7, 3) := by decide +kernel
theorem d_D_isWhole_16 : decode b_D_isWhole 16 = .ok (.iconst 1, 1) := by decide +kernel
theorem d_D_isWhole_17 : decode b_D_isWhole 17 = .ok (.goto 24, 3) := by decide +kernel
theorem d_D_isWhole_20 : decode b_D_isWhole 20 = .ok (.iconst 0, 1) := by decide +kernel
theorem d_D_isWhole_21 : decode b_D_isWhole 21 = .ok (.goto 20, 3) := by decide +kernel
theorem d_D_isWhole_24 : decode b_D_isWhole 24 = .ok (.iload_n 0, 1) := by decide +kernel
theorem d_D_isWhole_25 : decode b_D_isWhole 25 = .ok (.bipush 40, 2) := by decide +kernel
theorem d_D_isWhole_27 : decode b_D_isWhole 27 = .ok (.if_icmp .lt 13, 3) := by decide +kernel
theorem d_D_isWhole_30 : decode b_D_isWhole 30 = .ok (.iload_n 0, 1) := by decide +kernel
theorem d_D_isWhole_31 : decode b_D_isWhole 31 = .ok (.bipush 53, 2) := by decide +kernel
theorem d_D_isWhole_33 : decode b_D_isWhole 33 = .ok (.if_icmp .gt 7, 3) := by decide +kernel
theorem d_D_isWhole_36 : decode b_D_isWhole 36 = .ok (.iconst 1, 1) := by decide +kernel
theorem d_D_isWhole_37 : decode b_D_isWhole 37 = .ok (.goto 4, 3) := by decide +kernel
theorem d_D_isWhole_40 : decode b_D_isWhole 40 = .ok (.iconst 0, 1) := by decide +kernel
theorem d_D_isWhole_41 : decode b_D_isWhole 41 = .ok (.ireturn, 1) := by decide +kernel
theorem d_D_place_0 : decode b_D_place 0 = .ok (.iload_n 0, 1) := by decide +kernel
theorem d_D_place_1 : decode b_D_place 1 = .ok (.i2l, 1) := by decide +kernel
theorem d_D_place_2 : decode b_D_place 2 = .ok (.ldc2_w 63, 3) := by decide +kernel
theorem d_D_place_5 : decode b_D_place 5 = .ok (.land, 1) := by decide +kernel
theorem d_D_place_6 : decode b_D_place 6 = .ok (.iload_n 1, 1) := by decide +kernel
theorem d_D_place_7 : decode b_D_place 7 = .ok (.i2l, 1) := by decide +kernel
theorem d_D_place_8 : decode b_D_place 8 = .ok (.ldc2_w 63, 3) := by decide +kernel
theorem d_D_place_11 : decode b_D_place 11 = .ok (.land, 1) := by decide +kernel
theorem d_D_place_12 : decode b_D_place 12 = .ok (.ladd, 1) := by decide +kernel
theorem d_D_place_13 : decode b_D_place 13 = .ok (.lreturn, 1) := by decide +kernel
theorem d_D_isThere_0 : decode b_D_isThere 0 = .ok (.iload 4, 2) := by decide +kernel
theorem d_D_isThere_2 : decode b_D_isThere 2 = .ok (.ifCond .eq 28, 3) := by decide +kernel
theorem d_D_isThere_5 : decode b_D_isThere 5 = .ok (.lload_n 2, 1) := by decide +kernel
theorem d_D_isThere_6 : decode b_D_isThere 6 = .ok (.lconst 0, 1) := by decide +kernel
theorem d_D_isThere_7 : decode b_D_isThere 7 = .ok (.lcmp, 1) := by decide +kernel
theorem d_D_isThere_8 : decode b_D_isThere 8 = .ok (.ifCond .lt 26, 3) := by decide +kernel
theorem d_D_isThere_11 : decode b_D_isThere 11 = .ok (.lload_n 2, 1) := by decide +kernel
theorem d_D_isThere_12 : decode b_D_isThere 12 = .ok (.iload 4, 2) := by decide +kernel
theorem d_D_isThere_14 : decode b_D_isThere 14 = .ok (.i2l, 1) := by decide +kernel
theorem d_D_isThere_15 : decode b_D_isThere 15 = .ok (.ladd, 1) := by decide +kernel
theorem d_D_isThere_16 : decode b_D_isThere 16 = .ok (.ldc2_w 38, 3) := by decide +kernel
theorem d_D_isThere_19 : decode b_D_isThere 19 = .ok (.aload_n 0, 1) := by decide +kernel
theorem d_D_isThere_20 : decode b_D_isThere 20 = .ok (.iload_n 1, 1) := by decide +kernel
theorem d_D_isThere_21 : decode b_D_isThere 21 = .ok (.invokevirtual 55, 3) := by decide +kernel
theorem d_D_isThere_24 : decode b_D_isThere 24 = .ok (.i2l, 1) := by decide +kernel
theorem d_D_isThere_25 : decode b_D_isThere 25 = .ok (.lmul, 1) := by decide +kernel
theorem d_D_isThere_26 : decode b_D_isThere 26 = .ok (.lcmp, 1) := by decide +kernel
theorem d_D_isThere_27 : decode b_D_isThere 27 = .ok (.ifCond .gt 7, 3) := by decide +kernel
theorem d_D_isThere_30 : decode b_D_isThere 30 = .ok (.iconst 1, 1) := by decide +kernel
theorem d_D_isThere_31 : decode b_D_isThere 31 = .ok (.goto 4, 3) := by decide +kernel
theorem d_D_isThere_34 : decode b_D_isThere 34 = .ok (.iconst 0, 1) := by decide +kernel
theorem d_D_isThere_35 : decode b_D_isThere 35 = .ok (.ireturn, 1) := by decide +kernel
theorem d_D_load_0 : decode b_D_load 0 = .ok (.iload_n 3, 1) := by decide +kernel
theorem d_D_load_1 : decode b_D_load 1 = .ok (.iload 4, 2) := by decide +kernel
theorem d_D_load_3 : decode b_D_load 3 = .ok (.invokestatic 65, 3) := by decide +kernel
theorem d_D_load_6 : decode b_D_load 6 = .ok (.lstore 5, 2) := by decide +kernel
theorem d_D_load_8 : decode b_D_load 8 = .ok (.iload_n 2, 1) := by decide +kernel
theorem d_D_load_9 : decode b_D_load 9 = .ok (.invokestatic 69, 3) := by decide +kernel
theorem d_D_load_12 : decode b_D_load 12 = .ok (.istore 7, 2) := by decide +kernel
theorem d_D_load_14 : decode b_D_load 14 = .ok (.aload_n 0, 1) := by decide +kernel
theorem d_D_load_15 : decode b_D_load 15 = .ok (.aload_n 0, 1) := by decide +kernel
theorem d_D_load_16 : decode b_D_load 16 = .ok (.iload_n 1, 1) := by decide +kernel
theorem d_D_load_17 : decode b_D_load 17 = .ok (.invokevirtual 51, 3) := by decide +kernel
theorem d_D_load_20 : decode b_D_load 20 = .ok (.ifCond .eq 11, 3) := by decide +kernel
theorem d_D_load_23 : decode b_D_load 23 = .ok (.iload_n 2, 1) := by decide +kernel
theorem d_D_load_24 : decode b_D_load 24 = .ok (.iconst 0, 1) := by decide +kernel
theorem d_D_load_25 : decode b_D_load 25 = .ok (.invokestatic 72, 3) := by decide +kernel
theorem d_D_load_28 : decode b_D_load 28 = .ok (.ifCond .ne 7, 3) := by decide +kernel
theorem d_D_load_31 : decode b_D_load 31 = .ok (.iconst 1, 1) := by decide +kernel
theorem d_D_load_32 : decode b_D_load 32 = .ok (.goto 20, 3) := by decide +kernel
theorem d_D_load_35 : decode b_D_load 35 = .ok (.aload_n 0, 1) := by decide +kernel
theorem d_D_load_36 : decode b_D_load 36 = .ok (.iload_n 1, 1) := by decide +kernel
theorem d_D_load_37 : decode b_D_load 37 = .ok (.lload 5, 2) := by decide +kernel
theorem d_D_load_39 : decode b_D_load 39 = .ok (.iload 7, 2) := by decide +kernel
theorem d_D_load_41 : decode b_D_load 41 = .ok (.invokevirtual 76, 3) := by decide +kernel
theorem d_D_load_44 : decode b_D_load 44 = .ok (.ifCond .ne 7, 3) := by decide +kernel
theorem d_D_load_47 : decode b_D_load 47 = .ok (.iconst 2, 1) := by decide +kernel
theorem d_D_load_48 : decode b_D_load 48 = .ok (.goto 4, 3) := by decide +kernel
theorem d_D_load_51 : decode b_D_load 51 = .ok (.iconst 0, 1) := by decide +kernel
theorem d_D_load_52 : decode b_D_load 52 = .ok (.putfield 28, 3) := by decide +kernel
theorem d_D_load_55 : decode b_D_load 55 = .ok (.aload_n 0, 1) := by decide +kernel
theorem d_D_load_56 : decode b_D_load 56 = .ok (.getfield 28, 3) := by decide +kernel
theorem d_D_load_59 : decode b_D_load 59 = .ok (.ifCond .le 5, 3) := by decide +kernel
theorem d_D_load_62 : decode b_D_load 62 = .ok (.lconst 0, 1) := by decide +kernel
theorem d_D_load_63 : decode b_D_load 63 = .ok (.lreturn, 1) := by decide +kernel
theorem d_D_load_64 : decode b_D_load 64 = .ok (.lconst 0, 1) := by decide +kernel
theorem d_D_load_65 : decode b_D_load 65 = .ok (.lstore 8, 2) := by decide +kernel
theorem d_D_load_67 : decode b_D_load 67 = .ok (.iconst 0, 1) := by decide +kernel
theorem d_D_load_68 : decode b_D_load 68 = .ok (.istore 10, 2) := by decide +kernel
theorem d_D_load_70 : decode b_D_load 70 = .ok (.iload 10, 2) := by decide +kernel
theorem d_D_load_72 : decode b_D_load 72 = .ok (.iload 7, 2) := by decide +kernel
theorem d_D_load_74 : decode b_D_load 74 = .ok (.if_icmp .ge 32, 3) := by decide +kernel
theorem d_D_load_77 : decode b_D_load 77 = .ok (.lload 8, 2) := by decide +kernel
theorem d_D_load_79 : decode b_D_load 79 = .ok (.aload_n 0, 1) := by decide +kernel
theorem d_D_load_80 : decode b_D_load 80 = .ok (.iload_n 1, 1) := by decide +kernel
theorem d_D_load_81 : decode b_D_load 81 = .ok (.lload 5, 2) := by decide +kernel
theorem d_D_load_83 : decode b_D_load 83 = .ok (.iload 10, 2) := by decide +kernel
theorem d_D_load_85 : decode b_D_load 85 = .ok (.i2l, 1) := by decide +kernel
theorem d_D_load_86 : decode b_D_load 86 = .ok (.ladd, 1) := by decide +kernel
theorem d_D_load_87 : decode b_D_load 87 = .ok (.invokevirtual 80, 3) := by decide +kernel
theorem d_D_load_90 : decode b_D_load 90 = .ok (.i2l, 1) := by decide +kernel
theorem d_D_load_91 : decode b_D_load 91 = .ok (.bipush 8, 2) := by decide +kernel
theorem d_D_load_93 : decode b_D_load 93 = .ok (.iload 10, 2) := by decide +kernel
theorem d_D_load_95 : decode b_D_load 95 = .ok (.imul, 1) := by decide +kernel
theorem d_D_load_96 : decode b_D_load 96 = .ok (.lshl, 1) := by decide +kernel
theorem d_D_load_97 : decode b_D_load 97 = .ok (.ladd, 1) := by decide +kernel
theorem d_D_load_98 : decode b_D_load 98 = .ok (.lstore 8, 2) := by decide +kernel
theorem d_D_load_100 : decode b_D_load 100 = .ok (.iinc 10 1, 3) := by decide +kernel
theorem d_D_load_103 : decode b_D_load 103 = .ok (.goto (-33), 3) := by decide +kernel
theorem d_D_load_106 : decode b_D_load 106 = .ok (.iload_n 2, 1) := by decide +kernel
theorem d_D_load_107 : decode b_D_load 107 = .ok (.bipush 44, 2) := by decide +kernel
theorem d_D_load_109 : decode b_D_load 109 = .ok (.if_icmp .lt 13, 3) := by decide +kernel
theorem d_D_load_112 : decode b_D_load 112 = .ok (.iload_n 2, 1) := by decide +kernel
theorem d_D_load_113 : decode b_D_load 113 = .ok (.iconst 2, 1) := by decide +kernel
theorem d_D_load_114 : decode b_D_load 114 = .ok (.irem, 1) := by decide +kernel
theorem d_D_load_115 : decode b_D_load 115 = .ok (.ifCond .ne 7, 3) := by decide +kernel
theorem d_D_load_118 : decode b_D_load 118 = .ok (.iconst 1, 1) := by decide +kernel
theorem d_D_load_119 : decode b_D_load 119 = .ok (.goto 4, 3) := by decide +kernel
theorem d_D_load_122 : decode b_D_load 122 = .ok (.iconst 0, 1) := by decide +kernel
theorem d_D_load_123 : decode b_D_load 123 = .ok (.istore 10, 2) := by decide +kernel
theorem d_D_load_125 : decode b_D_load 125 = .ok (.iload 10, 2) := by decide +kernel
theorem d_D_load_127 : decode b_D_load 127 = .ok (.ifCond .eq 24, 3) := by decide +kernel
theorem d_D_load_130 : decode b_D_load 130 = .ok (.lload 8, 2) := by decide +kernel
theorem d_D_load_132 : decode b_D_load 132 = .ok (.bipush 8, 2) := by decide +kernel
theorem d_D_load_134 : decode b_D_load 134 = .ok (.iload 7, 2) := by decide +kernel
theorem d_D_load_136 : decode b_D_load 136 = .ok (.imul, 1) := by decide +kernel
theorem d_D_load_137 : decode b_D_load 137 = .ok (.iconst 1, 1) := by decide +kernel
theorem d_D_load_138 : decode b_D_load 138 = .ok (.isub, 1) := by decide +kernel
theorem d_D_load_139 : decode b_D_load 139 = .ok (.lshr, 1) := by decide +kernel
theorem d_D_load_140 : decode b_D_load 140 = .ok (.lconst 1, 1) := by decide +kernel
theorem d_D_load_141 : decode b_D_load 141 = .ok (.land, 1) := by decide +kernel
theorem d_D_load_142 : decode b_D_load 142 = .ok (.lconst 1, 1) := by decide +kernel
theorem d_D_load_143 : decode b_D_load 143 = .ok (.lcmp, 1) := by decide +kernel
theorem d_D_load_144 : decode b_D_load 144 = .ok (.ifCond .ne 7, 3) := by decide +kernel
theorem d_D_load_147 : decode b_D_load 147 = .ok (.iconst 1, 1) := by decide +kernel
theorem d_D_load_148 : decode b_D_load 148 = .ok (.goto 4, 3) := by decide +kernel
theorem d_D_load_151 : decode b_D_load 151 = .ok (.iconst 0, 1) := by decide +kernel
theorem d_D_load_152 : decode b_D_load 152 = .ok (.istore 11, 2) := by decide +kernel
theorem d_D_load_154 : decode b_D_load 154 = .ok (.iload 11, 2) := by decide +kernel
theorem d_D_load_156 : decode b_D_load 156 = .ok (.ifCond .eq 16, 3) := by decide +kernel
theorem d_D_load_159 : decode b_D_load 159 = .ok (.lload 8, 2) := by decide +kernel
theorem d_D_load_161 : decode b_D_load 161 = .ok (.lconst 1, 1) := by decide +kernel
theorem d_D_load_162 : decode b_D_load 162 = .ok (.bipush 8, 2) := by decide +kernel
theorem d_D_load_164 : decode b_D_load 164 = .ok (.iload 7, 2) := by decide +kernel
theorem d_D_load_166 : decode b_D_load 166 = .ok (.imul, 1) := by decide +kernel
theorem d_D_load_167 : decode b_D_load 167 = .ok (.lshl, 1) := by decide +kernel
theorem d_D_load_168 : decode b_D_load 168 = .ok (.lsub, 1) := by decide +kernel
theorem d_D_load_169 : decode b_D_load 169 = .ok (.goto 5, 3) := by decide +kernel
theorem d_D_load_172 : decode b_D_load 172 = .ok (.lload 8, 2) := by decide +kernel
theorem d_D_load_174 : decode b_D_load 174 = .ok (.lstore 8, 2) := by decide +kernel
theorem d_D_load_176 : decode b_D_load 176 = .ok (.iload_n 2, 1) := by decide +kernel
theorem d_D_load_177 : decode b_D_load 177 = .ok (.bipush 41, 2) := by decide +kernel
theorem d_D_load_179 : decode b_D_load 179 = .ok (.if_icmp .eq 15, 3) := by decide +kernel
theorem d_D_load_182 : decode b_D_load 182 = .ok (.iload_n 2, 1) := by decide +kernel
theorem d_D_load_183 : decode b_D_load 183 = .ok (.bipush 43, 2) := by decide +kernel
theorem d_D_load_185 : decode b_D_load 185 = .ok (.if_icmp .eq 9, 3) := by decide +kernel
theorem d_D_load_188 : decode b_D_load 188 = .ok (.iload_n 2, 1) := by decide +kernel
theorem d_D_load_189 : decode b_D_load 189 = .ok (.bipush 48, 2) := by decide +kernel
theorem d_D_load_191 : decode b_D_load 191 = .ok (.if_icmp .lt 7, 3) := by decide +kernel
theorem d_D_load_194 : decode b_D_load 194 = .ok (.iconst 1, 1) := by decide +kernel
theorem d_D_load_195 : decode b_D_load 195 = .ok (.goto 4, 3) := by decide +kernel
theorem d_D_load_198 : decode b_D_load 198 = .ok (.iconst 0, 1) := by decide +kernel
theorem d_D_load_199 : decode b_D_load 199 = .ok (.istore 12, 2) := by decide +kernel
theorem d_D_load_201 : decode b_D_load 201 = .ok (.iload 12, 2) := by decide +kernel
theorem d_D_load_203 : decode b_D_load 203 = .ok (.ifCond .eq 8, 3) := by decide +kernel
theorem d_D_load_206 : decode b_D_load 206 = .ok (.lload 8, 2) := by decide +kernel
theorem d_D_load_208 : decode b_D_load 208 = .ok (.goto 9, 3) := by decide +kernel
theorem d_D_load_211 : decode b_D_load 211 = .ok (.lload 8, 2) := by decide +kernel
theorem d_D_load_213 : decode b_D_load 213 = .ok (.ldc2_w 63, 3) := by decide +kernel
theorem d_D_load_216 : decode b_D_load 216 = .ok (.land, 1) := by decide +kernel
theorem d_D_load_217 : decode b_D_load 217 = .ok (.lreturn, 1) := by decide +kernel
theorem d_D_store_0 : decode b_D_store 0 = .ok (.iload_n 3, 1) := by decide +kernel
theorem d_D_store_1 : decode b_D_store 1 = .ok (.iload 4, 2) := by decide +kernel
theorem d_D_store_3 : decode b_D_store 3 = .ok (.invokestatic 65, 3) := by decide +kernel
theorem d_D_store_6 : decode b_D_store 6 = .ok (.lstore 7, 2) := by decide +kernel
theorem d_D_store_8 : decode b_D_store 8 = .ok (.iload_n 2, 1) := by decide +kernel
theorem d_D_store_9 : decode b_D_store 9 = .ok (.invokestatic 69, 3) := by decide +kernel
theorem d_D_store_12 : decode b_D_store 12 = .ok (.istore 9, 2) := by decide +kernel
theorem d_D_store_14 : decode b_D_store 14 = .ok (.aload_n 0, 1) := by decide +kernel
theorem d_D_store_15 : decode b_D_store 15 = .ok (.aload_n 0, 1) := by decide +kernel
theorem d_D_store_16 : decode b_D_store 16 = .ok (.iload_n 1, 1) := by decide +kernel
theorem d_D_store_17 : decode b_D_store 17 = .ok (.invokevirtual 51, 3) := by decide +kernel
theorem d_D_store_20 : decode b_D_store 20 = .ok (.ifCond .eq 11, 3) := by decide +kernel
theorem d_D_store_23 : decode b_D_store 23 = .ok (.iload_n 2, 1) := by decide +kernel
theorem d_D_store_24 : decode b_D_store 24 = .ok (.iconst 1, 1) := by decide +kernel
theorem d_D_store_25 : decode b_D_store 25 = .ok (.invokestatic 72, 3) := by decide +kernel
theorem d_D_store_28 : decode b_D_store 28 = .ok (.ifCond .ne 7, 3) := by decide +kernel
theorem d_D_store_31 : decode b_D_store 31 = .ok (.iconst 1, 1) := by decide +kernel
theorem d_D_store_32 : decode b_D_store 32 = .ok (.goto 20, 3) := by decide +kernel
theorem d_D_store_35 : decode b_D_store 35 = .ok (.aload_n 0, 1) := by decide +kernel
theorem d_D_store_36 : decode b_D_store 36 = .ok (.iload_n 1, 1) := by decide +kernel
theorem d_D_store_37 : decode b_D_store 37 = .ok (.lload 7, 2) := by decide +kernel
theorem d_D_store_39 : decode b_D_store 39 = .ok (.iload 9, 2) := by decide +kernel
theorem d_D_store_41 : decode b_D_store 41 = .ok (.invokevirtual 76, 3) := by decide +kernel
theorem d_D_store_44 : decode b_D_store 44 = .ok (.ifCond .ne 7, 3) := by decide +kernel
theorem d_D_store_47 : decode b_D_store 47 = .ok (.iconst 2, 1) := by decide +kernel
theorem d_D_store_48 : decode b_D_store 48 = .ok (.goto 4, 3) := by decide +kernel
theorem d_D_store_51 : decode b_D_store 51 = .ok (.iconst 0, 1) := by decide +kernel
theorem d_D_store_52 : decode b_D_store 52 = .ok (.putfield 28, 3) := by decide +kernel
theorem d_D_store_55 : decode b_D_store 55 = .ok (.iconst 0, 1) := by decide +kernel
theorem d_D_store_56 : decode b_D_store 56 = .ok (.istore 10, 2) := by decide +kernel
theorem d_D_store_58 : decode b_D_store 58 = .ok (.iload 10, 2) := by decide +kernel
theorem d_D_store_60 : decode b_D_store 60 = .ok (.iload 9, 2) := by decide +kernel
theorem d_D_store_62 : decode b_D_store 62 = .ok (.if_icmp .ge 40, 3) := by decide +kernel
theorem d_D_store_65 : decode b_D_store 65 = .ok (.aload_n 0, 1) := by decide +kernel
theorem d_D_store_66 : decode b_D_store 66 = .ok (.getfield 28, 3) := by decide +kernel
theorem d_D_store_69 : decode b_D_store 69 = .ok (.ifCond .ne 33, 3) := by decide +kernel
theorem d_D_store_72 : decode b_D_store 72 = .ok (.aload_n 0, 1) := by decide +kernel
theorem d_D_store_73 : decode b_D_store 73 = .ok (.iload_n 1, 1) := by decide +kernel
theorem d_D_store_74 : decode b_D_store 74 = .ok (.lload 7, 2) := by decide +kernel
theorem d_D_store_76 : decode b_D_store 76 = .ok (.iload 10, 2) := by decide +kernel
theorem d_D_store_78 : decode b_D_store 78 = .ok (.i2l, 1) := by decide +kernel
theorem d_D_store_79 : decode b_D_store 79 = .ok (.ladd, 1) := by decide +kernel
theorem d_D_store_80 : decode b_D_store 80 = .ok (.lload 5, 2) := by decide +kernel
theorem d_D_store_82 : decode b_D_store 82 = .ok (.bipush 8, 2) := by decide +kernel
theorem d_D_store_84 : decode b_D_store 84 = .ok (.iload 10, 2) := by decide +kernel
theorem d_D_store_86 : decode b_D_store 86 = .ok (.imul, 1) := by decide +kernel
theorem d_D_store_87 : decode b_D_store 87 = .ok (.lshr, 1) := by decide +kernel
theorem d_D_store_88 : decode b_D_store 88 = .ok (.ldc2_w 83, 3) := by decide +kernel
theorem d_D_store_91 : decode b_D_store 91 = .ok (.land, 1) := by decide +kernel
theorem d_D_store_92 : decode b_D_store 92 = .ok (.l2i, 1) := by decide +kernel
theorem d_D_store_93 : decode b_D_store 93 = .ok (.invokevirtual 85, 3) := by decide +kernel
theorem d_D_store_96 : decode b_D_store 96 = .ok (.iinc 10 1, 3) := by decide +kernel
theorem d_D_store_99 : decode b_D_store 99 = .ok (.goto (-41), 3) := by decide +kernel
theorem d_D_store_102 : decode b_D_store 102 = .ok (.return_, 1) := by decide +kernel
theorem d_D_copy_0 : decode b_D_copy 0 = .ok (.aload_n 0, 1) := by decide +kernel
theorem d_D_copy_1 : decode b_D_copy 1 = .ok (.iload_n 1, 1) := by decide +kernel
theorem d_D_copy_2 : decode b_D_copy 2 = .ok (.invokevirtual 51, 3) := by decide +kernel
theorem d_D_copy_5 : decode b_D_copy 5 = .ok (.ifCond .eq 28, 3) := by decide +kernel
theorem d_D_copy_8 : decode b_D_copy 8 = .ok (.aload_n 0, 1) := by decide +kernel
theorem d_D_copy_9 : decode b_D_copy 9 = .ok (.iload_n 3, 1) := by decide +kernel
theorem d_D_copy_10 : decode b_D_copy 10 = .ok (.invokevirtual 51, 3) := by decide +kernel
theorem d_D_copy_13 : decode b_D_copy 13 = .ok (.ifCond .eq 20, 3) := by decide +kernel
theorem d_D_copy_16 : decode b_D_copy 16 = .ok (.iload 5, 2) := by decide +kernel
theorem d_D_copy_18 : decode b_D_copy 18 = .ok (.ifCond .lt 15, 3) := by decide +kernel
theorem d_D_copy_21 : decode b_D_copy 21 = .ok (.iload 5, 2) := by decide +kernel
theorem d_D_copy_23 : decode b_D_copy 23 = .ok (.sipush 4096, 3) := by decide +kernel
theorem d_D_copy_26 : decode b_D_copy 26 = .ok (.if_icmp .gt 7, 3) := by decide +kernel
theorem d_D_copy_29 : decode b_D_copy 29 = .ok (.iconst 1, 1) := by decide +kernel
theorem d_D_copy_30 : decode b_D_copy 30 = .ok (.goto 4, 3) := by decide +kernel
theorem d_D_copy_33 : decode b_D_copy 33 = .ok (.iconst 0, 1) := by decide +kernel
theorem d_D_copy_34 : decode b_D_copy 34 = .ok (.istore 6, 2) := by decide +kernel
theorem d_D_copy_36 : decode b_D_copy 36 = .ok (.aload_n 0, 1) := by decide +kernel
theorem d_D_copy_37 : decode b_D_copy 37 = .ok (.iload 6, 2) := by decide +kernel
theorem d_D_copy_39 : decode b_D_copy 39 = .ok (.ifCond .ne 7, 3) := by decide +kernel
theorem d_D_copy_42 : decode b_D_copy 42 = .ok (.iconst 1, 1) := by decide +kernel
theorem d_D_copy_43 : decode b_D_copy 43 = .ok (.goto 33, 3) := by decide +kernel
theorem d_D_copy_46 : decode b_D_copy 46 = .ok (.aload_n 0, 1) := by decide +kernel
theorem d_D_copy_47 : decode b_D_copy 47 = .ok (.iload_n 1, 1) := by decide +kernel
theorem d_D_copy_48 : decode b_D_copy 48 = .ok (.iload_n 2, 1) := by decide +kernel
theorem d_D_copy_49 : decode b_D_copy 49 = .ok (.i2l, 1) := by decide +kernel
theorem d_D_copy_50 : decode b_D_copy 50 = .ok (.iload 5, 2) := by decide +kernel
theorem d_D_copy_52 : decode b_D_copy 52 = .ok (.invokevirtual 76, 3) := by decide +kernel
theorem d_D_copy_55 : decode b_D_copy 55 = .ok (.ifCond .eq 16, 3) := by decide +kernel
theorem d_D_copy_58 : decode b_D_copy 58 = .ok (.aload_n 0, 1) := by decide +kernel
theorem d_D_copy_59 : decode b_D_copy 59 = .ok (.iload_n 3, 1) := by decide +kernel
theorem d_D_copy_60 : decode b_D_copy 60 = .ok (.iload 4, 2) := by decide +kernel
theorem d_D_copy_62 : decode b_D_copy 62 = .ok (.i2l, 1) := by decide +kernel
theorem d_D_copy_63 : decode b_D_copy 63 = .ok (.iload 5, 2) := by decide +kernel
theorem d_D_copy_65 : decode b_D_copy 65 = .ok (.invokevirtual 76, 3) := by decide +kernel
theorem d_D_copy_68 : decode b_D_copy 68 = .ok (.ifCond .ne 7, 3) := by decide +kernel
theorem d_D_copy_71 : decode b_D_copy 71 = .ok (.iconst 2, 1) := by decide +kernel
theorem d_D_copy_72 : decode b_D_copy 72 = .ok (.goto 4, 3) := by decide +kernel
theorem d_D_copy_75 : decode b_D_copy 75 = .ok (.iconst 0, 1) := by decide +kernel
theorem d_D_copy_76 : decode b_D_copy 76 = .ok (.putfield 28, 3) := by decide +kernel
theorem d_D_copy_79 : decode b_D_copy 79 = .ok (.aload_n 0, 1) := by decide +kernel
theorem d_D_copy_80 : decode b_D_copy 80 = .ok (.getfield 28, 3) := by decide +kernel
theorem d_D_copy_83 : decode b_D_copy 83 = .ok (.ifCond .le 4, 3) := by decide +kernel
theorem d_D_copy_86 : decode b_D_copy 86 = .ok (.return_, 1) := by decide +kernel
theorem d_D_copy_87 : decode b_D_copy 87 = .ok (.iconst 0, 1) := by decide +kernel
theorem d_D_copy_88 : decode b_D_copy 88 = .ok (.istore 7, 2) := by decide +kernel
theorem d_D_copy_90 : decode b_D_copy 90 = .ok (.iload 7, 2) := by decide +kernel
theorem d_D_copy_92 : decode b_D_copy 92 = .ok (.iload 5, 2) := by decide +kernel
theorem d_D_copy_94 : decode b_D_copy 94 = .ok (.if_icmp .ge 27, 3) := by decide +kernel
theorem d_D_copy_97 : decode b_D_copy 97 = .ok (.aload_n 0, 1) := by decide +kernel
theorem d_D_copy_98 : decode b_D_copy 98 = .ok (.getfield 25, 3) := by decide +kernel
theorem d_D_copy_101 : decode b_D_copy 101 = .ok (.iload 7, 2) := by decide +kernel
theorem d_D_copy_103 : decode b_D_copy 103 = .ok (.aload_n 0, 1) := by decide +kernel
theorem d_D_copy_104 : decode b_D_copy 104 = .ok (.iload_n 1, 1) := by decide +kernel
theorem d_D_copy_105 : decode b_D_copy 105 = .ok (.iload_n 2, 1) := by decide +kernel
theorem d_D_copy_106 : decode b_D_copy 106 = .ok (.i2l, 1) := by decide +kernel
theorem d_D_copy_107 : decode b_D_copy 107 = .ok (.iload 7, 2) := by decide +kernel
theorem d_D_copy_109 : decode b_D_copy 109 = .ok (.i2l, 1) := by decide +kernel
theorem d_D_copy_110 : decode b_D_copy 110 = .ok (.ladd, 1) := by decide +kernel
theorem d_D_copy_111 : decode b_D_copy 111 = .ok (.invokevirtual 80, 3) := by decide +kernel
theorem d_D_copy_114 : decode b_D_copy 114 = .ok (.iastore, 1) := by decide +kernel
theorem d_D_copy_115 : decode b_D_copy 115 = .ok (.iinc 7 1, 3) := by decide +kernel
theorem d_D_copy_118 : decode b_D_copy 118 = .ok (.goto (-28), 3) := by decide +kernel
theorem d_D_copy_121 : decode b_D_copy 121 = .ok (.iconst 0, 1) := by decide +kernel
theorem d_D_copy_122 : decode b_D_copy 122 = .ok (.istore 7, 2) := by decide +kernel
theorem d_D_copy_124 : decode b_D_copy 124 = .ok (.iload 7, 2) := by decide +kernel
theorem d_D_copy_126 : decode b_D_copy 126 = .ok (.iload 5, 2) := by decide +kernel
theorem d_D_copy_128 : decode b_D_copy 128 = .ok (.if_icmp .ge 28, 3) := by decide +kernel
theorem d_D_copy_131 : decode b_D_copy 131 = .ok (.aload_n 0, 1) := by decide +kernel
theorem d_D_copy_132 : decode b_D_copy 132 = .ok (.iload_n 3, 1) := by decide +kernel
theorem d_D_copy_133 : decode b_D_copy 133 = .ok (.iload 4, 2) := by decide +kernel
theorem d_D_copy_135 : decode b_D_copy 135 = .ok (.i2l, 1) := by decide +kernel
theorem d_D_copy_136 : decode b_D_copy 136 = .ok (.iload 7, 2) := by decide +kernel
theorem d_D_copy_138 : decode b_D_copy 138 = .ok (.i2l, 1) := by decide +kernel
theorem d_D_copy_139 : decode b_D_copy 139 = .ok (.ladd, 1) := by decide +kernel
theorem d_D_copy_140 : decode b_D_copy 140 = .ok (.aload_n 0, 1) := by decide +kernel
theorem d_D_copy_141 : decode b_D_copy 141 = .ok (.getfield 25, 3) := by decide +kernel
theorem d_D_copy_144 : decode b_D_copy 144 = .ok (.iload 7, 2) := by decide +kernel
theorem d_D_copy_146 : decode b_D_copy 146 = .ok (.iaload, 1) := by decide +kernel
theorem d_D_copy_147 : decode b_D_copy 147 = .ok (.invokevirtual 85, 3) := by decide +kernel
theorem d_D_copy_150 : decode b_D_copy 150 = .ok (.iinc 7 1, 3) := by decide +kernel
theorem d_D_copy_153 : decode b_D_copy 153 = .ok (.goto (-29), 3) := by decide +kernel
theorem d_D_copy_156 : decode b_D_copy 156 = .ok (.return_, 1) := by decide +kernel
theorem d_D_sum_0 : decode b_D_sum 0 = .ok (.aload_n 0, 1) := by decide +kernel
theorem d_D_sum_1 : decode b_D_sum 1 = .ok (.aload_n 0, 1) := by decide +kernel
theorem d_D_sum_2 : decode b_D_sum 2 = .ok (.iload_n 1, 1) := by decide +kernel
theorem d_D_sum_3 : decode b_D_sum 3 = .ok (.invokevirtual 51, 3) := by decide +kernel
theorem d_D_sum_6 : decode b_D_sum 6 = .ok (.ifCond .eq 13, 3) := by decide +kernel
theorem d_D_sum_9 : decode b_D_sum 9 = .ok (.iload_n 3, 1) := by decide +kernel
theorem d_D_sum_10 : decode b_D_sum 10 = .ok (.ifCond .lt 9, 3) := by decide +kernel
theorem d_D_sum_13 : decode b_D_sum 13 = .ok (.iload_n 3, 1) := by decide +kernel
theorem d_D_sum_14 : decode b_D_sum 14 = .ok (.ldc 46, 2) := by decide +kernel
theorem d_D_sum_16 : decode b_D_sum 16 = .ok (.if_icmp .le 7, 3) := by decide +kernel
theorem d_D_sum_19 : decode b_D_sum 19 = .ok (.iconst 1, 1) := by decide +kernel
theorem d_D_sum_20 : decode b_D_sum 20 = .ok (.goto 19, 3) := by decide +kernel
theorem d_D_sum_23 : decode b_D_sum 23 = .ok (.aload_n 0, 1) := by decide +kernel
theorem d_D_sum_24 : decode b_D_sum 24 = .ok (.iload_n 1, 1) := by decide +kernel
theorem d_D_sum_25 : decode b_D_sum 25 = .ok (.iload_n 2, 1) := by decide +kernel
theorem d_D_sum_26 : decode b_D_sum 26 = .ok (.i2l, 1) := by decide +kernel
theorem d_D_sum_27 : decode b_D_sum 27 = .ok (.iload_n 3, 1) := by decide +kernel
theorem d_D_sum_28 : decode b_D_sum 28 = .ok (.invokevirtual 76, 3) := by decide +kernel
theorem d_D_sum_31 : decode b_D_sum 31 = .ok (.ifCond .ne 7, 3) := by decide +kernel
theorem d_D_sum_34 : decode b_D_sum 34 = .ok (.iconst 2, 1) := by decide +kernel
theorem d_D_sum_35 : decode b_D_sum 35 = .ok (.goto 4, 3) := by decide +kernel
theorem d_D_sum_38 : decode b_D_sum 38 = .ok (.iconst 0, 1) := by decide +kernel
theorem d_D_sum_39 : decode b_D_sum 39 = .ok (.putfield 28, 3) := by decide +kernel
theorem d_D_sum_42 : decode b_D_sum 42 = .ok (.iconst 0, 1) := by decide +kernel
theorem d_D_sum_43 : decode b_D_sum 43 = .ok (.istore 4, 2) := by decide +kernel
theorem d_D_sum_45 : decode b_D_sum 45 = .ok (.iconst 0, 1) := by decide +kernel
theorem d_D_sum_46 : decode b_D_sum 46 = .ok (.istore 5, 2) := by decide +kernel
theorem d_D_sum_48 : decode b_D_sum 48 = .ok (.iload 5, 2) := by decide +kernel
theorem d_D_sum_50 : decode b_D_sum 50 = .ok (.iload_n 3, 1) := by decide +kernel
theorem d_D_sum_51 : decode b_D_sum 51 = .ok (.if_icmp .ge 37, 3) := by decide +kernel
theorem d_D_sum_54 : decode b_D_sum 54 = .ok (.aload_n 0, 1) := by decide +kernel
theorem d_D_sum_55 : decode b_D_sum 55 = .ok (.getfield 28, 3) := by decide +kernel
theorem d_D_sum_58 : decode b_D_sum 58 = .ok (.ifCond .ne 30, 3) := by decide +kernel
theorem d_D_sum_61 : decode b_D_sum 61 = .ok (.iload 4, 2) := by decide +kernel
theorem d_D_sum_63 : decode b_D_sum 63 = .ok (.aload_n 0, 1) := by decide +kernel
theorem d_D_sum_64 : decode b_D_sum 64 = .ok (.iload_n 1, 1) := by decide +kernel
theorem d_D_sum_65 : decode b_D_sum 65 = .ok (.iload_n 2, 1) := by decide +kernel
theorem d_D_sum_66 : decode b_D_sum 66 = .ok (.i2l, 1) := by decide +kernel
theorem d_D_sum_67 : decode b_D_sum 67 = .ok (.iload 5, 2) := by decide +kernel
theorem d_D_sum_69 : decode b_D_sum 69 = .ok (.i2l, 1) := by decide +kernel
theorem d_D_sum_70 : decode b_D_sum 70 = .ok (.ladd, 1) := by decide +kernel
theorem d_D_sum_71 : decode b_D_sum 71 = .ok (.invokevirtual 80, 3) := by decide +kernel
theorem d_D_sum_74 : decode b_D_sum 74 = .ok (.iload_n 3, 1) := by decide +kernel
theorem d_D_sum_75 : decode b_D_sum 75 = .ok (.iload 5, 2) := by decide +kernel
theorem d_D_sum_77 : decode b_D_sum 77 = .ok (.isub, 1) := by decide +kernel
theorem d_D_sum_78 : decode b_D_sum 78 = .ok (.imul, 1) := by decide +kernel
theorem d_D_sum_79 : decode b_D_sum 79 = .ok (.iadd, 1) := by decide +kernel
theorem d_D_sum_80 : decode b_D_sum 80 = .ok (.istore 4, 2) := by decide +kernel
theorem d_D_sum_82 : decode b_D_sum 82 = .ok (.iinc 5 1, 3) := by decide +kernel
theorem d_D_sum_85 : decode b_D_sum 85 = .ok (.goto (-37), 3) := by decide +kernel
theorem d_D_sum_88 : decode b_D_sum 88 = .ok (.iload 4, 2) := by decide +kernel
theorem d_D_sum_90 : decode b_D_sum 90 = .ok (.ireturn, 1) := by decide +kernel
end
section
theorem d_L_make_0 : decode b_L_make 0 = .ok (.aload_n 3, 1) := by decide +kernel
theorem d_L_make_1 : decode b_L_make 1 = .ok (.iconst 0, 1) := by decide +kernel
theorem d_L_make_2 : decode b_L_make 2 = .ok (.aload_n 0, 1) := by decide +kernel
theorem d_L_make_3 : decode b_L_make 3 = .ok (.iload_n 1, 1) := by decide +kernel
theorem d_L_make_4 : decode b_L_make 4 = .ok (.iload_n 2, 1) := by decide +kernel
theorem d_L_make_5 : decode b_L_make 5 = .ok (.invokevirtual 7, 3) := by decide +kernel
theorem d_L_make_8 : decode b_L_make 8 = .ok (.i2l, 1) := by decide +kernel
theorem d_L_make_9 : decode b_L_make 9 = .ok (.lastore, 1) := by decide +kernel
theorem d_L_make_10 : decode b_L_make 10 = .ok (.goto 15, 3) := by decide +kernel
theorem d_L_make_13 : decode b_L_make 13 = .ok (.astore 4, 2) := by decide +kernel
theorem d_L_make_15 : decode b_L_make 15 = .ok (.iconst 1, 1) := by decide +kernel
theorem d_L_make_16 : decode b_L_make 16 = .ok (.ireturn, 1) := by decide +kernel
theorem d_L_make_17 : decode b_L_make 17 = .ok (.astore 4, 2) := by decide +kernel
theorem d_L_make_19 : decode b_L_make 19 = .ok (.iconst 2, 1) := by decide +kernel
theorem d_L_make_20 : decode b_L_make 20 = .ok (.ireturn, 1) := by decide +kernel
theorem d_L_make_21 : decode b_L_make 21 = .ok (.astore 4, 2) := by decide +kernel
theorem d_L_make_23 : decode b_L_make 23 = .ok (.iconst 3, 1) := by decide +kernel
theorem d_L_make_24 : decode b_L_make 24 = .ok (.ireturn, 1) := by decide +kernel
theorem d_L_make_25 : decode b_L_make 25 = .ok (.iconst 0, 1) := by decide +kernel
theorem d_L_make_26 : decode b_L_make 26 = .ok (.ireturn, 1) := by decide +kernel
theorem d_L_pages_0 : decode b_L_pages 0 = .ok (.aload_n 2, 1) := by decide +kernel
theorem d_L_pages_1 : decode b_L_pages 1 = .ok (.iconst 0, 1) := by decide +kernel
theorem d_L_pages_2 : decode b_L_pages 2 = .ok (.aload_n 0, 1) := by decide +kernel
theorem d_L_pages_3 : decode b_L_pages 3 = .ok (.iload_n 1, 1) := by decide +kernel
theorem d_L_pages_4 : decode b_L_pages 4 = .ok (.invokevirtual 19, 3) := by decide +kernel
theorem d_L_pages_7 : decode b_L_pages 7 = .ok (.i2l, 1) := by decide +kernel
theorem d_L_pages_8 : decode b_L_pages 8 = .ok (.lastore, 1) := by decide +kernel
theorem d_L_pages_9 : decode b_L_pages 9 = .ok (.goto 6, 3) := by decide +kernel
theorem d_L_pages_12 : decode b_L_pages 12 = .ok (.astore_n 3, 1) := by decide +kernel
theorem d_L_pages_13 : decode b_L_pages 13 = .ok (.iconst 1, 1) := by decide +kernel
theorem d_L_pages_14 : decode b_L_pages 14 = .ok (.ireturn, 1) := by decide +kernel
theorem d_L_pages_15 : decode b_L_pages 15 = .ok (.iconst 0, 1) := by decide +kernel
theorem d_L_pages_16 : decode b_L_pages 16 = .ok (.ireturn, 1) := by decide +kernel
theorem d_L_grow_0 : decode b_L_grow 0 = .ok (.aload_n 3, 1) := by decide +kernel
theorem d_L_grow_1 : decode b_L_grow 1 = .ok (.iconst 0, 1) := by decide +kernel
theorem d_L_grow_2 : decode b_L_grow 2 = .ok (.aload_n 0, 1) := by decide +kernel
theorem d_L_grow_3 : decode b_L_grow 3 = .ok (.iload_n 1, 1) := by decide +kernel
theorem d_L_grow_4 : decode b_L_grow 4 = .ok (.iload_n 2, 1) := by decide +kernel
theorem d_L_grow_5 : decode b_L_grow 5 = .ok (.invokevirtual 23, 3) := by decide +kernel
theorem d_L_grow_8 : decode b_L_grow 8 = .ok (.i2l, 1) := by decide +kernel
theorem d_L_grow_9 : decode b_L_grow 9 = .ok (.lastore, 1) := by decide +kernel
theorem d_L_grow_10 : decode b_L_grow 10 = .ok (.goto 7, 3) := by decide +kernel
theorem d_L_grow_13 : decode b_L_grow 13 = .ok (.astore 4, 2) := by decide +kernel
theorem d_L_grow_15 : decode b_L_grow 15 = .ok (.iconst 1, 1) := by decide +kernel
theorem d_L_grow_16 : decode b_L_grow 16 = .ok (.ireturn, 1) := by decide +kernel
theorem d_L_grow_17 : decode b_L_grow 17 = .ok (.iconst 0, 1) := by decide +kernel
theorem d_L_grow_18 : decode b_L_grow 18 = .ok (.ireturn, 1) := by decide +kernel
theorem d_L_fits_0 : decode b_L_fits 0 = .ok (.aload 4, 2) := by decide +kernel
theorem d_L_fits_2 : decode b_L_fits 2 = .ok (.iconst 0, 1) := by decide +kernel
theorem d_L_fits_3 : decode b_L_fits 3 = .ok (.aload_n 0, 1) := by decide +kernel
theorem d_L_fits_4 : decode b_L_fits 4 = .ok (.iload_n 1, 1) := by decide +kernel
theorem d_L_fits_5 : decode b_L_fits 5 = .ok (.iload_n 2, 1) := by decide +kernel
theorem d_L_fits_6 : decode b_L_fits 6 = .ok (.iload_n 3, 1) := by decide +kernel
theorem d_L_fits_7 : decode b_L_fits 7 = .ok (.invokevirtual 26, 3) := by decide +kernel
theorem d_L_fits_10 : decode b_L_fits 10 = .ok (.ifCond .eq 7, 3) := by decide +kernel
theorem d_L_fits_13 : decode b_L_fits 13 = .ok (.lconst 1, 1) := by decide +kernel
theorem d_L_fits_14 : decode b_L_fits 14 = .ok (.goto 4, 3) := by decide +kernel
theorem d_L_fits_17 : decode b_L_fits 17 = .ok (.lconst 0, 1) := by decide +kernel
theorem d_L_fits_18 : decode b_L_fits 18 = .ok (.lastore, 1) := by decide +kernel
theorem d_L_fits_19 : decode b_L_fits 19 = .ok (.goto 7, 3) := by decide +kernel
theorem d_L_fits_22 : decode b_L_fits 22 = .ok (.astore 5, 2) := by decide +kernel
theorem d_L_fits_24 : decode b_L_fits 24 = .ok (.iconst 1, 1) := by decide +kernel
theorem d_L_fits_25 : decode b_L_fits 25 = .ok (.ireturn, 1) := by decide +kernel
theorem d_L_fits_26 : decode b_L_fits 26 = .ok (.iconst 0, 1) := by decide +kernel
theorem d_L_fits_27 : decode b_L_fits 27 = .ok (.ireturn, 1) := by decide +kernel
theorem d_L_load_0 : decode b_L_load 0 = .ok (.aload 5, 2) := by decide +kernel
theorem d_L_load_2 : decode b_L_load 2 = .ok (.iconst 0, 1) := by decide +kernel
theorem d_L_load_3 : decode b_L_load 3 = .ok (.aload_n 0, 1) := by decide +kernel
theorem d_L_load_4 : decode b_L_load 4 = .ok (.iload_n 1, 1) := by decide +kernel
theorem d_L_load_5 : decode b_L_load 5 = .ok (.iload_n 2, 1) := by decide +kernel
theorem d_L_load_6 : decode b_L_load 6 = .ok (.iload_n 3, 1) := by decide +kernel
theorem d_L_load_7 : decode b_L_load 7 = .ok (.iload 4, 2) := by decide +kernel
theorem d_L_load_9 : decode b_L_load 9 = .ok (.invokevirtual 30, 3) := by decide +kernel
theorem d_L_load_12 : decode b_L_load 12 = .ok (.lastore, 1) := by decide +kernel
theorem d_L_load_13 : decode b_L_load 13 = .ok (.goto 11, 3) := by decide +kernel
theorem d_L_load_16 : decode b_L_load 16 = .ok (.astore 6, 2) := by decide +kernel
theorem d_L_load_18 : decode b_L_load 18 = .ok (.iconst 1, 1) := by decide +kernel
theorem d_L_load_19 : decode b_L_load 19 = .ok (.ireturn, 1) := by decide +kernel
theorem d_L_load_20 : decode b_L_load 20 = .ok (.astore 6, 2) := by decide +kernel
theorem d_L_load_22 : decode b_L_load 22 = .ok (.iconst 2, 1) := by decide +kernel
theorem d_L_load_23 : decode b_L_load 23 = .ok (.ireturn, 1) := by decide +kernel
theorem d_L_load_24 : decode b_L_load 24 = .ok (.iconst 0, 1) := by decide +kernel
theorem d_L_load_25 : decode b_L_load 25 = .ok (.ireturn, 1) := by decide +kernel
theorem d_L_store_0 : decode b_L_store 0 = .ok (.aload_n 0, 1) := by decide +kernel
theorem d_L_store_1 : decode b_L_store 1 = .ok (.iload_n 1, 1) := by decide +kernel
theorem d_L_store_2 : decode b_L_store 2 = .ok (.iload_n 2, 1) := by decide +kernel
theorem d_L_store_3 : decode b_L_store 3 = .ok (.iload_n 3, 1) := by decide +kernel
theorem d_L_store_4 : decode b_L_store 4 = .ok (.iload 4, 2) := by decide +kernel
theorem d_L_store_6 : decode b_L_store 6 = .ok (.lload 5, 2) := by decide +kernel
theorem d_L_store_8 : decode b_L_store 8 = .ok (.invokevirtual 36, 3) := by decide +kernel
theorem d_L_store_11 : decode b_L_store 11 = .ok (.goto 11, 3) := by decide +kernel
theorem d_L_store_14 : decode b_L_store 14 = .ok (.astore 7, 2) := by decide +kernel
theorem d_L_store_16 : decode b_L_store 16 = .ok (.iconst 1, 1) := by decide +kernel
theorem d_L_store_17 : decode b_L_store 17 = .ok (.ireturn, 1) := by decide +kernel
theorem d_L_store_18 : decode b_L_store 18 = .ok (.astore 7, 2) := by decide +kernel
theorem d_L_store_20 : decode b_L_store 20 = .ok (.iconst 2, 1) := by decide +kernel
theorem d_L_store_21 : decode b_L_store 21 = .ok (.ireturn, 1) := by decide +kernel
theorem d_L_store_22 : decode b_L_store 22 = .ok (.iconst 0, 1) := by decide +kernel
theorem d_L_store_23 : decode b_L_store 23 = .ok (.ireturn, 1) := by decide +kernel
theorem d_L_copy_0 : decode b_L_copy 0 = .ok (.aload_n 0, 1) := by decide +kernel
theorem d_L_copy_1 : decode b_L_copy 1 = .ok (.iload_n 1, 1) := by decide +kernel
theorem d_L_copy_2 : decode b_L_copy 2 = .ok (.iload_n 2, 1) := by decide +kernel
theorem d_L_copy_3 : decode b_L_copy 3 = .ok (.iload_n 3, 1) := by decide +kernel
theorem d_L_copy_4 : decode b_L_copy 4 = .ok (.iload 4, 2) := by decide +kernel
theorem d_L_copy_6 : decode b_L_copy 6 = .ok (.iload 5, 2) := by decide +kernel
theorem d_L_copy_8 : decode b_L_copy 8 = .ok (.invokevirtual 40, 3) := by decide +kernel
theorem d_L_copy_11 : decode b_L_copy 11 = .ok (.goto 11, 3) := by decide +kernel
theorem d_L_copy_14 : decode b_L_copy 14 = .ok (.astore 6, 2) := by decide +kernel
theorem d_L_copy_16 : decode b_L_copy 16 = .ok (.iconst 1, 1) := by decide +kernel
theorem d_L_copy_17 : decode b_L_copy 17 = .ok (.ireturn, 1) := by decide +kernel
theorem d_L_copy_18 : decode b_L_copy 18 = .ok (.astore 6, 2) := by decide +kernel
theorem d_L_copy_20 : decode b_L_copy 20 = .ok (.iconst 2, 1) := by decide +kernel
theorem d_L_copy_21 : decode b_L_copy 21 = .ok (.ireturn, 1) := by decide +kernel
theorem d_L_copy_22 : decode b_L_copy 22 = .ok (.iconst 0, 1) := by decide +kernel
theorem d_L_copy_23 : decode b_L_copy 23 = .ok (.ireturn, 1) := by decide +kernel
theorem d_L_sum_0 : decode b_L_sum 0 = .ok (.aload 4, 2) := by decide +kernel
theorem d_L_sum_2 : decode b_L_sum 2 = .ok (.iconst 0, 1) := by decide +kernel
theorem d_L_sum_3 : decode b_L_sum 3 = .ok (.aload_n 0, 1) := by decide +kernel
theorem d_L_sum_4 : decode b_L_sum 4 = .ok (.iload_n 1, 1) := by decide +kernel
theorem d_L_sum_5 : decode b_L_sum 5 = .ok (.iload_n 2, 1) := by decide +kernel
theorem d_L_sum_6 : decode b_L_sum 6 = .ok (.iload_n 3, 1) := by decide +kernel
theorem d_L_sum_7 : decode b_L_sum 7 = .ok (.invokevirtual 44, 3) := by decide +kernel
theorem d_L_sum_10 : decode b_L_sum 10 = .ok (.i2l, 1) := by decide +kernel
theorem d_L_sum_11 : decode b_L_sum 11 = .ok (.lastore, 1) := by decide +kernel
theorem d_L_sum_12 : decode b_L_sum 12 = .ok (.goto 11, 3) := by decide +kernel
theorem d_L_sum_15 : decode b_L_sum 15 = .ok (.astore 5, 2) := by decide +kernel
theorem d_L_sum_17 : decode b_L_sum 17 = .ok (.iconst 1, 1) := by decide +kernel
theorem d_L_sum_18 : decode b_L_sum 18 = .ok (.ireturn, 1) := by decide +kernel
theorem d_L_sum_19 : decode b_L_sum 19 = .ok (.astore 5, 2) := by decide +kernel
theorem d_L_sum_21 : decode b_L_sum 21 = .ok (.iconst 2, 1) := by decide +kernel
theorem d_L_sum_22 : decode b_L_sum 22 = .ok (.ireturn, 1) := by decide +kernel
theorem d_L_sum_23 : decode b_L_sum 23 = .ok (.iconst 0, 1) := by decide +kernel
theorem d_L_sum_24 : decode b_L_sum 24 = .ok (.ireturn, 1) := by decide +kernel
end
section
theorem d_M_init_0 : decode b_M_init 0 = .ok (.aload_n 0, 1) := by decide +kernel
theorem d_M_init_1 : decode b_M_init 1 = .ok (.invokespecial 3, 3) := by decide +kernel
theorem d_M_init_4 : decode b_M_init 4 = .ok (.aload_n 0, 1) := by decide +kernel
theorem d_M_init_5 : decode b_M_init 5 = .ok (.iload_n 2, 1) := by decide +kernel
theorem d_M_init_6 : decode b_M_init 6 = .ok (.putfield 9, 3) := by decide +kernel
theorem d_M_init_9 : decode b_M_init 9 = .ok (.aload_n 0, 1) := by decide +kernel
theorem d_M_init_10 : decode b_M_init 10 = .ok (.iload_n 1, 1) := by decide +kernel
theorem d_M_init_11 : decode b_M_init 11 = .ok (.putfield 15, 3) := by decide +kernel
theorem d_M_init_14 : decode b_M_init 14 = .ok (.iload_n 2, 1) := by decide +kernel
theorem d_M_init_15 : decode b_M_init 15 = .ok (.iconst (-1), 1) := by decide +kernel
theorem d_M_init_16 : decode b_M_init 16 = .ok (.if_icmp .ne 8, 3) := by decide +kernel
theorem d_M_init_19 : decode b_M_init 19 = .ok (.bipush 16, 2) := by decide +kernel
theorem d_M_init_21 : decode b_M_init 21 = .ok (.goto 9, 3) := by decide +kernel
theorem d_M_init_24 : decode b_M_init 24 = .ok (.iload_n 2, 1) := by decide +kernel
theorem d_M_init_25 : decode b_M_init 25 = .ok (.bipush 16, 2) := by decide +kernel
theorem d_M_init_27 : decode b_M_init 27 = .ok (.invokestatic 18, 3) := by decide +kernel
theorem d_M_init_30 : decode b_M_init 30 = .ok (.istore_n 3, 1) := by decide +kernel
theorem d_M_init_31 : decode b_M_init 31 = .ok (.aload_n 0, 1) := by decide +kernel
theorem d_M_init_32 : decode b_M_init 32 = .ok (.iload_n 3, 1) := by decide +kernel
theorem d_M_init_33 : decode b_M_init 33 = .ok (.iconst 0, 1) := by decide +kernel
theorem d_M_init_34 : decode b_M_init 34 = .ok (.invokestatic 24, 3) := by decide +kernel
theorem d_M_init_37 : decode b_M_init 37 = .ok (.bipush 64, 2) := by decide +kernel
theorem d_M_init_39 : decode b_M_init 39 = .ok (.imul, 1) := by decide +kernel
theorem d_M_init_40 : decode b_M_init 40 = .ok (.anewarray 27, 3) := by decide +kernel
theorem d_M_init_43 : decode b_M_init 43 = .ok (.putfield 29, 3) := by decide +kernel
theorem d_M_init_46 : decode b_M_init 46 = .ok (.return_, 1) := by decide +kernel
theorem d_M_pageLimit_0 : decode b_M_pageLimit 0 = .ok (.aload_n 0, 1) := by decide +kernel
theorem d_M_pageLimit_1 : decode b_M_pageLimit 1 = .ok (.getfield 9, 3) := by decide +kernel
theorem d_M_pageLimit_4 : decode b_M_pageLimit 4 = .ok (.iconst (-1), 1) := by decide +kernel
theorem d_M_pageLimit_5 : decode b_M_pageLimit 5 = .ok (.if_icmp .ne 8, 3) := by decide +kernel
theorem d_M_pageLimit_8 : decode b_M_pageLimit 8 = .ok (.ldc 33, 2) := by decide +kernel
theorem d_M_pageLimit_10 : decode b_M_pageLimit 10 = .ok (.goto 7, 3) := by decide +kernel
theorem d_M_pageLimit_13 : decode b_M_pageLimit 13 = .ok (.aload_n 0, 1) := by decide +kernel
theorem d_M_pageLimit_14 : decode b_M_pageLimit 14 = .ok (.getfield 9, 3) := by decide +kernel
theorem d_M_pageLimit_17 : decode b_M_pageLimit 17 = .ok (.ireturn, 1) := by decide +kernel
theorem d_M_size_0 : decode b_M_size 0 = .ok (.aload_n 0, 1) := by decide +kernel
theorem d_M_size_1 : decode b_M_size 1 = .ok (.getfield 15, 3) := by decide +kernel
theorem d_M_size_4 : decode b_M_size 4 = .ok (.i2l, 1) := by decide +kernel
theorem d_M_size_5 : decode b_M_size 5 = .ok (.ldc2_w 34, 3) := by decide +kernel
theorem d_M_size_8 : decode b_M_size 8 = .ok (.lmul, 1) := by decide +kernel
theorem d_M_size_9 : decode b_M_size 9 = .ok (.lreturn, 1) := by decide +kernel
theorem d_M_numberAt_0 : decode b_M_numberAt 0 = .ok (.lconst 0, 1) := by decide +kernel
theorem d_M_numberAt_1 : decode b_M_numberAt 1 = .ok (.lstore_n 3, 1) := by decide +kernel
theorem d_M_numberAt_2 : decode b_M_numberAt 2 = .ok (.iconst 0, 1) := by decide +kernel
theorem d_M_numberAt_3 : decode b_M_numberAt 3 = .ok (.istore 5, 2) := by decide +kernel
theorem d_M_numberAt_5 : decode b_M_numberAt 5 = .ok (.iload 5, 2) := by decide +kernel
theorem d_M_numberAt_7 : decode b_M_numberAt 7 = .ok (.iload_n 2, 1) := by decide +kernel
theorem d_M_numberAt_8 : decode b_M_numberAt 8 = .ok (.if_icmp .ge 27, 3) := by decide +kernel
theorem d_M_numberAt_11 : decode b_M_numberAt 11 = .ok (.lload_n 3, 1) := by decide +kernel
theorem d_M_numberAt_12 : decode b_M_numberAt 12 = .ok (.aload_n 0, 1) := by decide +kernel
theorem d_M_numberAt_13 : decode b_M_numberAt 13 = .ok (.iload_n 1, 1) := by decide +kernel
theorem d_M_numberAt_14 : decode b_M_numberAt 14 = .ok (.iload 5, 2) := by decide +kernel
theorem d_M_numberAt_16 : decode b_M_numberAt 16 = .ok (.iadd, 1) := by decide +kernel
theorem d_M_numberAt_17 : decode b_M_numberAt 17 = .ok (.invokevirtual 36, 3) := by decide +kernel
theorem d_M_numberAt_20 : decode b_M_numberAt 20 = .ok (.i2l, 1) := by decide +kernel
theorem d_M_numberAt_21 : decode b_M_numberAt 21 = .ok (.bipush 8, 2) := by decide +kernel
theorem d_M_numberAt_23 : decode b_M_numberAt 23 = .ok (.iload 5, 2) := by decide +kernel
theorem d_M_numberAt_25 : decode b_M_numberAt 25 = .ok (.imul, 1) := by decide +kernel
theorem d_M_numberAt_26 : decode b_M_numberAt 26 = .ok (.lshl, 1) := by decide +kernel
theorem d_M_numberAt_27 : decode b_M_numberAt 27 = .ok (.lor, 1) := by decide +kernel
theorem d_M_numberAt_28 : decode b_M_numberAt 28 = .ok (.lstore_n 3, 1) := by decide +kernel
theorem d_M_numberAt_29 : decode b_M_numberAt 29 = .ok (.iinc 5 1, 3) := by decide +kernel
theorem d_M_numberAt_32 : decode b_M_numberAt 32 = .ok (.goto (-27), 3) := by decide +kernel
theorem d_M_numberAt_35 : decode b_M_numberAt 35 = .ok (.lload_n 3, 1) := by decide +kernel
theorem d_M_numberAt_36 : decode b_M_numberAt 36 = .ok (.lreturn, 1) := by decide +kernel
theorem d_M_putNumber_0 : decode b_M_putNumber 0 = .ok (.iconst 0, 1) := by decide +kernel
theorem d_M_putNumber_1 : decode b_M_putNumber 1 = .ok (.istore 5, 2) := by decide +kernel
theorem d_M_putNumber_3 : decode b_M_putNumber 3 = .ok (.iload 5, 2) := by decide +kernel
theorem d_M_putNumber_5 : decode b_M_putNumber 5 = .ok (.iload_n 2, 1) := by decide +kernel
theorem d_M_putNumber_6 : decode b_M_putNumber 6 = .ok (.if_icmp .ge 26, 3) := by decide +kernel
theorem d_M_putNumber_9 : decode b_M_putNumber 9 = .ok (.aload_n 0, 1) := by decide +kernel
theorem d_M_putNumber_10 : decode b_M_putNumber 10 = .ok (.iload_n 1, 1) := by decide +kernel
theorem d_M_putNumber_11 : decode b_M_putNumber 11 = .ok (.iload 5, 2) := by decide +kernel
theorem d_M_putNumber_13 : decode b_M_putNumber 13 = .ok (.iadd, 1) := by decide +kernel
theorem d_M_putNumber_14 : decode b_M_putNumber 14 = .ok (.lload_n 3, 1) := by decide +kernel
theorem d_M_putNumber_15 : decode b_M_putNumber 15 = .ok (.bipush 8, 2) := by decide +kernel
theorem d_M_putNumber_17 : decode b_M_putNumber 17 = .ok (.iload 5, 2) := by decide +kernel
theorem d_M_putNumber_19 : decode b_M_putNumber 19 = .ok (.imul, 1) := by decide +kernel
theorem d_M_putNumber_20 : decode b_M_putNumber 20 = .ok (.lushr, 1) := by decide +kernel
theorem d_M_putNumber_21 : decode b_M_putNumber 21 = .ok (.l2i, 1) := by decide +kernel
theorem d_M_putNumber_22 : decode b_M_putNumber 22 = .ok (.i2b, 1) := by decide +kernel
theorem d_M_putNumber_23 : decode b_M_putNumber 23 = .ok (.invokevirtual 40, 3) := by decide +kernel
theorem d_M_putNumber_26 : decode b_M_putNumber 26 = .ok (.iinc 5 1, 3) := by decide +kernel
theorem d_M_putNumber_29 : decode b_M_putNumber 29 = .ok (.goto (-26), 3) := by decide +kernel
theorem d_M_putNumber_32 : decode b_M_putNumber 32 = .ok (.return_, 1) := by decide +kernel
theorem d_M_readInto_0 : decode b_M_readInto 0 = .ok (.iload_n 2, 1) := by decide +kernel
theorem d_M_readInto_1 : decode b_M_readInto 1 = .ok (.sipush 1024, 3) := by decide +kernel
theorem d_M_readInto_4 : decode b_M_readInto 4 = .ok (.idiv, 1) := by decide +kernel
theorem d_M_readInto_5 : decode b_M_readInto 5 = .ok (.istore 4, 2) := by decide +kernel
theorem d_M_readInto_7 : decode b_M_readInto 7 = .ok (.iload 4, 2) := by decide +kernel
theorem d_M_readInto_9 : decode b_M_readInto 9 = .ok (.iload_n 2, 1) := by decide +kernel
theorem d_M_readInto_10 : decode b_M_readInto 10 = .ok (.iload_n 3, 1) := by decide +kernel
theorem d_M_readInto_11 : decode b_M_readInto 11 = .ok (.iadd, 1) := by decide +kernel
theorem d_M_readInto_12 : decode b_M_readInto 12 = .ok (.iconst 1, 1) := by decide +kernel
theorem d_M_readInto_13 : decode b_M_readInto 13 = .ok (.isub, 1) := by decide +kernel
theorem d_M_readInto_14 : decode b_M_readInto 14 = .ok (.sipush 1024, 3) := by decide +kernel
theorem d_M_readInto_17 : decode b_M_readInto 17 = .ok (.idiv, 1) := by decide +kernel
theorem d_M_readInto_18 : decode b_M_readInto 18 = .ok (.if_icmp .gt 92, 3) := by decide +kernel
theorem d_M_readInto_21 : decode b_M_readInto 21 = .ok (.iload_n 2, 1) := by decide +kernel
theorem d_M_readInto_22 : decode b_M_readInto 22 = .ok (.iload 4, 2) := by decide +kernel
theorem d_M_readInto_24 : decode b_M_readInto 24 = .ok (.sipush 1024, 3) := by decide +kernel
theorem d_M_readInto_27 : decode b_M_readInto 27 = .ok (.imul, 1) := by decide +kernel
theorem d_M_readInto_28 : decode b_M_readInto 28 = .ok (.invokestatic 24, 3) := by decide +kernel
theorem d_M_readInto_31 : decode b_M_readInto 31 = .ok (.istore 5, 2) := by decide +kernel
theorem d_M_readInto_33 : decode b_M_readInto 33 = .ok (.iload_n 2, 1) := by decide +kernel
theorem d_M_readInto_34 : decode b_M_readInto 34 = .ok (.iload_n 3, 1) := by decide +kernel
theorem d_M_readInto_35 : decode b_M_readInto 35 = .ok (.iadd, 1) := by decide +kernel
theorem d_M_readInto_36 : decode b_M_readInto 36 = .ok (.iload 4, 2) := by decide +kernel
theorem d_M_readInto_38 : decode b_M_readInto 38 = .ok (.iconst 1, 1) := by decide +kernel
theorem d_M_readInto_39 : decode b_M_readInto 39 = .ok (.iadd, 1) := by decide +kernel
theorem d_M_readInto_40 : decode b_M_readInto 40 = .ok (.sipush 1024, 3) := by decide +kernel
theorem d_M_readInto_43 : decode b_M_readInto 43 = .ok (.imul, 1) := by decide +kernel
theorem d_M_readInto_44 : decode b_M_readInto 44 = .ok (.invokestatic 18, 3) := by decide +kernel
theorem d_M_readInto_47 : decode b_M_readInto 47 = .ok (.istore 6, 2) := by decide +kernel
theorem d_M_readInto_49 : decode b_M_readInto 49 = .ok (.aload_n 0, 1) := by decide +kernel
theorem d_M_readInto_50 : decode b_M_readInto 50 = .ok (.iload 4, 2) := by decide +kernel
theorem d_M_readInto_52 : decode b_M_readInto 52 = .ok (.invokevirtual 44, 3) := by decide +kernel
theorem d_M_readInto_55 : decode b_M_readInto 55 = .ok (.astore 7, 2) := by decide +kernel
theorem d_M_readInto_57 : decode b_M_readInto 57 = .ok (.aload 7, 2) := by decide +kernel
theorem d_M_readInto_59 : decode b_M_readInto 59 = .ok (.ifnonnull 18, 3) := by decide +kernel
theorem d_M_readInto_62 : decode b_M_readInto 62 = .ok (.aload_n 1, 1) := by decide +kernel
theorem d_M_readInto_63 : decode b_M_readInto 63 = .ok (.iload 5, 2) := by decide +kernel
theorem d_M_readInto_65 : decode b_M_readInto 65 = .ok (.iload_n 2, 1) := by decide +kernel
theorem d_M_readInto_66 : decode b_M_readInto 66 = .ok (.isub, 1) := by decide +kernel
theorem d_M_readInto_67 : decode b_M_readInto 67 = .ok (.iload 6, 2) := by decide +kernel
theorem d_M_readInto_69 : decode b_M_readInto 69 = .ok (.iload_n 2, 1) := by decide +kernel
theorem d_M_readInto_70 : decode b_M_readInto 70 = .ok (.isub, 1) := by decide +kernel
theorem d_M_readInto_71 : decode b_M_readInto 71 = .ok (.invokestatic 48, 3) := by decide +kernel
theorem d_M_readInto_74 : decode b_M_readInto 74 = .ok (.goto 30, 3) := by decide +kernel
theorem d_M_readInto_77 : decode b_M_readInto 77 = .ok (.aload 7, 2) := by decide +kernel
theorem d_M_readInto_79 : decode b_M_readInto 79 = .ok (.getfield 52, 3) := by decide +kernel
theorem d_M_readInto_82 : decode b_M_readInto 82 = .ok (.iload 5, 2) := by decide +kernel
theorem d_M_readInto_84 : decode b_M_readInto 84 = .ok (.iload 4, 2) := by decide +kernel
theorem d_M_readInto_86 : decode b_M_readInto 86 = .ok (.sipush 1024, 3) := by decide +kernel
theorem d_M_readInto_89 : decode b_M_readInto 89 = .ok (.imul, 1) := by decide +kernel
theorem d_M_readInto_90 : decode b_M_readInto 90 = .ok (.isub, 1) := by decide +kernel
theorem d_M_readInto_91 : decode b_M_readInto 91 = .ok (.aload_n 1, 1) := by decide +kernel
theorem d_M_readInto_92 : decode b_M_readInto 92 = .ok (.iload 5, 2) := by decide +kernel
theorem d_M_readInto_94 : decode b_M_readInto 94 = .ok (.iload_n 2, 1) := by decide +kernel
theorem d_M_readInto_95 : decode b_M_readInto 95 = .ok (.isub, 1) := by decide +kernel
theorem d_M_readInto_96 : decode b_M_readInto 96 = .ok (.iload 6, 2) := by decide +kernel
theorem d_M_readInto_98 : decode b_M_readInto 98 = .ok (.iload 5, 2) := by decide +kernel
theorem d_M_readInto_100 : decode b_M_readInto 100 = .ok (.isub, 1) := by decide +kernel
theorem d_M_readInto_101 : decode b_M_readInto 101 = .ok (.invokestatic 56, 3) := by decide +kernel
theorem d_M_readInto_104 : decode b_M_readInto 104 = .ok (.iinc 4 1, 3) := by decide +kernel
theorem d_M_readInto_107 : decode b_M_readInto 107 = .ok (.goto (-100), 3) := by decide +kernel
theorem d_M_readInto_110 : decode b_M_readInto 110 = .ok (.return_, 1) := by decide +kernel
theorem d_M_clear_0 : decode b_M_clear 0 = .ok (.iload_n 1, 1) := by decide +kernel
theorem d_M_clear_1 : decode b_M_clear 1 = .ok (.iconst 0, 1) := by decide +kernel
theorem d_M_clear_2 : decode b_M_clear 2 = .ok (.invokestatic 24, 3) := by decide +kernel
theorem d_M_clear_5 : decode b_M_clear 5 = .ok (.istore_n 3, 1) := by decide +kernel
theorem d_M_clear_6 : decode b_M_clear 6 = .ok (.iload_n 3, 1) := by decide +kernel
theorem d_M_clear_7 : decode b_M_clear 7 = .ok (.iload_n 2, 1) := by decide +kernel
theorem d_M_clear_8 : decode b_M_clear 8 = .ok (.aload_n 0, 1) := by decide +kernel
theorem d_M_clear_9 : decode b_M_clear 9 = .ok (.arraylength, 1) := by decide +kernel
theorem d_M_clear_10 : decode b_M_clear 10 = .ok (.invokestatic 18, 3) := by decide +kernel
theorem d_M_clear_13 : decode b_M_clear 13 = .ok (.if_icmp .ge 13, 3) := by decide +kernel
theorem d_M_clear_16 : decode b_M_clear 16 = .ok (.aload_n 0, 1) := by decide +kernel
theorem d_M_clear_17 : decode b_M_clear 17 = .ok (.iload_n 3, 1) := by decide +kernel
theorem d_M_clear_18 : decode b_M_clear 18 = .ok (.iconst 0, 1) := by decide +kernel
theorem d_M_clear_19 : decode b_M_clear 19 = .ok (.bastore, 1) := by decide +kernel
theorem d_M_clear_20 : decode b_M_clear 20 = .ok (.iinc 3 1, 3) := by decide +kernel
theorem d_M_clear_23 : decode b_M_clear 23 = .ok (.goto (-17), 3) := by decide +kernel
theorem d_M_clear_26 : decode b_M_clear 26 = .ok (.return_, 1) := by decide +kernel
theorem d_M_writeFrom_0 : decode b_M_writeFrom 0 = .ok (.iload_n 2, 1) := by decide +kernel
theorem d_M_writeFrom_1 : decode b_M_writeFrom 1 = .ok (.sipush 1024, 3) := by decide +kernel
theorem d_M_writeFrom_4 : decode b_M_writeFrom 4 = .ok (.idiv, 1) := by decide +kernel
theorem d_M_writeFrom_5 : decode b_M_writeFrom 5 = .ok (.istore 4, 2) := by decide +kernel
theorem d_M_writeFrom_7 : decode b_M_writeFrom 7 = .ok (.iload 4, 2) := by decide +kernel
theorem d_M_writeFrom_9 : decode b_M_writeFrom 9 = .ok (.iload_n 2, 1) := by decide +kernel
theorem d_M_writeFrom_10 : decode b_M_writeFrom 10 = .ok (.iload_n 3, 1) := by decide +kernel
theorem d_M_writeFrom_11 : decode b_M_writeFrom 11 = .ok (.iadd, 1) := by decide +kernel
theorem d_M_writeFrom_12 : decode b_M_writeFrom 12 = .ok (.iconst 1, 1) := by decide +kernel
theorem d_M_writeFrom_13 : decode b_M_writeFrom 13 = .ok (.isub, 1) := by decide +kernel
theorem d_M_writeFrom_14 : decode b_M_writeFrom 14 = .ok (.sipush 1024, 3) := by decide +kernel
theorem d_M_writeFrom_17 : decode b_M_writeFrom 17 = .ok (.idiv, 1) := by decide +kernel
theorem d_M_writeFrom_18 : decode b_M_writeFrom 18 = .ok (.if_icmp .gt 77, 3) := by decide +kernel
theorem d_M_writeFrom_21 : decode b_M_writeFrom 21 = .ok (.iload_n 2, 1) := by decide +kernel
theorem d_M_writeFrom_22 : decode b_M_writeFrom 22 = .ok (.iload 4, 2) := by decide +kernel
theorem d_M_writeFrom_24 : decode b_M_writeFrom 24 = .ok (.sipush 1024, 3) := by decide +kernel
theorem d_M_writeFrom_27 : decode b_M_writeFrom 27 = .ok (.imul, 1) := by decide +kernel
theorem d_M_writeFrom_28 : decode b_M_writeFrom 28 = .ok (.invokestatic 24, 3) := by decide +kernel
theorem d_M_writeFrom_31 : decode b_M_writeFrom 31 = .ok (.istore 5, 2) := by decide +kernel
theorem d_M_writeFrom_33 : decode b_M_writeFrom 33 = .ok (.iload_n 2, 1) := by decide +kernel
theorem d_M_writeFrom_34 : decode b_M_writeFrom 34 = .ok (.iload_n 3, 1) := by decide +kernel
theorem d_M_writeFrom_35 : decode b_M_writeFrom 35 = .ok (.iadd, 1) := by decide +kernel
theorem d_M_writeFrom_36 : decode b_M_writeFrom 36 = .ok (.iload 4, 2) := by decide +kernel
theorem d_M_writeFrom_38 : decode b_M_writeFrom 38 = .ok (.iconst 1, 1) := by decide +kernel
theorem d_M_writeFrom_39 : decode b_M_writeFrom 39 = .ok (.iadd, 1) := by decide +kernel
theorem d_M_writeFrom_40 : decode b_M_writeFrom 40 = .ok (.sipush 1024, 3) := by decide +kernel
theorem d_M_writeFrom_43 : decode b_M_writeFrom 43 = .ok (.imul, 1) := by decide +kernel
theorem d_M_writeFrom_44 : decode b_M_writeFrom 44 = .ok (.invokestatic 18, 3) := by decide +kernel
theorem d_M_writeFrom_47 : decode b_M_writeFrom 47 = .ok (.istore 6, 2) := by decide +kernel
theorem d_M_writeFrom_49 : decode b_M_writeFrom 49 = .ok (.aload_n 0, 1) := by decide +kernel
theorem d_M_writeFrom_50 : decode b_M_writeFrom 50 = .ok (.iload 4, 2) := by decide +kernel
theorem d_M_writeFrom_52 : decode b_M_writeFrom 52 = .ok (.invokevirtual 62, 3) := by decide +kernel
theorem d_M_writeFrom_55 : decode b_M_writeFrom 55 = .ok (.astore 7, 2) := by decide +kernel
theorem d_M_writeFrom_57 : decode b_M_writeFrom 57 = .ok (.aload 7, 2) := by decide +kernel
theorem d_M_writeFrom_59 : decode b_M_writeFrom 59 = .ok (.ifnull 30, 3) := by decide +kernel
theorem d_M_writeFrom_62 : decode b_M_writeFrom 62 = .ok (.aload_n 1, 1) := by decide +kernel
theorem d_M_writeFrom_63 : decode b_M_writeFrom 63 = .ok (.iload 5, 2) := by decide +kernel
theorem d_M_writeFrom_65 : decode b_M_writeFrom 65 = .ok (.iload_n 2, 1) := by decide +kernel
theorem d_M_writeFrom_66 : decode b_M_writeFrom 66 = .ok (.isub, 1) := by decide +kernel
theorem d_M_writeFrom_67 : decode b_M_writeFrom 67 = .ok (.aload 7, 2) := by decide +kernel
theorem d_M_writeFrom_69 : decode b_M_writeFrom 69 = .ok (.getfield 52, 3) := by decide +kernel
theorem d_M_writeFrom_72 : decode b_M_writeFrom 72 = .ok (.iload 5, 2) := by decide +kernel
theorem d_M_writeFrom_74 : decode b_M_writeFrom 74 = .ok (.iload 4, 2) := by decide +kernel
theorem d_M_writeFrom_76 : decode b_M_writeFrom 76 = .ok (.sipush 1024, 3) := by decide +kernel
theorem d_M_writeFrom_79 : decode b_M_writeFrom 79 = .ok (.imul, 1) := by decide +kernel
theorem d_M_writeFrom_80 : decode b_M_writeFrom 80 = .ok (.isub, 1) := by decide +kernel
theorem d_M_writeFrom_81 : decode b_M_writeFrom 81 = .ok (.iload 6, 2) := by decide +kernel
theorem d_M_writeFrom_83 : decode b_M_writeFrom 83 = .ok (.iload 5, 2) := by decide +kernel
theorem d_M_writeFrom_85 : decode b_M_writeFrom 85 = .ok (.isub, 1) := by decide +kernel
theorem d_M_writeFrom_86 : decode b_M_writeFrom 86 = .ok (.invokestatic 56, 3) := by decide +kernel
theorem d_M_writeFrom_89 : decode b_M_writeFrom 89 = .ok (.iinc 4 1, 3) := by decide +kernel
theorem d_M_writeFrom_92 : decode b_M_writeFrom 92 = .ok (.goto (-85), 3) := by decide +kernel
theorem d_M_writeFrom_95 : decode b_M_writeFrom 95 = .ok (.return_, 1) := by decide +kernel
theorem d_M_weighedSum_0 : decode b_M_weighedSum 0 = .ok (.iconst 0, 1) := by decide +kernel
theorem d_M_weighedSum_1 : decode b_M_weighedSum 1 = .ok (.istore_n 3, 1) := by decide +kernel
theorem d_M_weighedSum_2 : decode b_M_weighedSum 2 = .ok (.iload_n 1, 1) := by decide +kernel
theorem d_M_weighedSum_3 : decode b_M_weighedSum 3 = .ok (.sipush 1024, 3) := by decide +kernel
theorem d_M_weighedSum_6 : decode b_M_weighedSum 6 = .ok (.idiv, 1) := by decide +kernel
theorem d_M_weighedSum_7 : decode b_M_weighedSum 7 = .ok (.istore 4, 2) := by decide +kernel
theorem d_M_weighedSum_9 : decode b_M_weighedSum 9 = .ok (.iload 4, 2) := by decide +kernel
theorem d_M_weighedSum_11 : decode b_M_weighedSum 11 = .ok (.iload_n 1, 1) := by decide +kernel
theorem d_M_weighedSum_12 : decode b_M_weighedSum 12 = .ok (.iload_n 2, 1) := by decide +kernel
theorem d_M_weighedSum_13 : decode b_M_weighedSum 13 = .ok (.iadd, 1) := by decide +kernel
theorem d_M_weighedSum_14 : decode b_M_weighedSum 14 = .ok (.iconst 1, 1) := by decide +kernel
theorem d_M_weighedSum_15 : decode b_M_weighedSum 15 = .ok (.isub, 1) := by decide +kernel
theorem d_M_weighedSum_16 : decode b_M_weighedSum 16 = .ok (.sipush 1024, 3) := by decide +kernel
theorem d_M_weighedSum_19 : decode b_M_weighedSum 19 = .ok (.idiv, 1) := by decide +kernel
theorem d_M_weighedSum_20 : decode b_M_weighedSum 20 = .ok (.if_icmp .gt 82, 3) := by decide +kernel
theorem d_M_weighedSum_23 : decode b_M_weighedSum 23 = .ok (.aload_n 0, 1) := by decide +kernel
theorem d_M_weighedSum_24 : decode b_M_weighedSum 24 = .ok (.iload 4, 2) := by decide +kernel
theorem d_M_weighedSum_26 : decode b_M_weighedSum 26 = .ok (.invokevirtual 44, 3) := by decide +kernel
theorem d_M_weighedSum_29 : decode b_M_weighedSum 29 = .ok (.astore 5, 2) := by decide +kernel
theorem d_M_weighedSum_31 : decode b_M_weighedSum 31 = .ok (.aload 5, 2) := by decide +kernel
theorem d_M_weighedSum_33 : decode b_M_weighedSum 33 = .ok (.ifnull 63, 3) := by decide +kernel
theorem d_M_weighedSum_36 : decode b_M_weighedSum 36 = .ok (.iload_n 1, 1) := by decide +kernel
theorem d_M_weighedSum_37 : decode b_M_weighedSum 37 = .ok (.iload 4, 2) := by decide +kernel
theorem d_M_weighedSum_39 : decode b_M_weighedSum 39 = .ok (.sipush 1024, 3) := by decide +kernel
theorem d_M_weighedSum_42 : decode b_M_weighedSum 42 = .ok (.imul, 1) := by decide +kernel
theorem d_M_weighedSum_43 : decode b_M_weighedSum 43 = .ok (.invokestatic 24, 3) := by decide +kernel
theorem d_M_weighedSum_46 : decode b_M_weighedSum 46 = .ok (.istore 6, 2) := by decide +kernel
theorem d_M_weighedSum_48 : decode b_M_weighedSum 48 = .ok (.iload_n 1, 1) := by decide +kernel
theorem d_M_weighedSum_49 : decode b_M_weighedSum 49 = .ok (.iload_n 2, 1) := by decide +kernel
theorem d_M_weighedSum_50 : decode b_M_weighedSum 50 = .ok (.iadd, 1) := by decide +kernel
theorem d_M_weighedSum_51 : decode b_M_weighedSum 51 = .ok (.iload 4, 2) := by decide +kernel
theorem d_M_weighedSum_53 : decode b_M_weighedSum 53 = .ok (.iconst 1, 1) := by decide +kernel
theorem d_M_weighedSum_54 : decode b_M_weighedSum 54 = .ok (.iadd, 1) := by decide +kernel
theorem d_M_weighedSum_55 : decode b_M_weighedSum 55 = .ok (.sipush 1024, 3) := by decide +kernel
theorem d_M_weighedSum_58 : decode b_M_weighedSum 58 = .ok (.imul, 1) := by decide +kernel
theorem d_M_weighedSum_59 : decode b_M_weighedSum 59 = .ok (.invokestatic 18, 3) := by decide +kernel
theorem d_M_weighedSum_62 : decode b_M_weighedSum 62 = .ok (.istore 7, 2) := by decide +kernel
theorem d_M_weighedSum_64 : decode b_M_weighedSum 64 = .ok (.iload_n 3, 1) := by decide +kernel
theorem d_M_weighedSum_65 : decode b_M_weighedSum 65 = .ok (.aload 5, 2) := by decide +kernel
theorem d_M_weighedSum_67 : decode b_M_weighedSum 67 = .ok (.iload 6, 2) := by decide +kernel
theorem d_M_weighedSum_69 : decode b_M_weighedSum 69 = .ok (.iload 4, 2) := by decide +kernel
theorem d_M_weighedSum_71 : decode b_M_weighedSum 71 = .ok (.sipush 1024, 3) := by decide +kernel
theorem d_M_weighedSum_74 : decode b_M_weighedSum 74 = .ok (.imul, 1) := by decide +kernel
theorem d_M_weighedSum_75 : decode b_M_weighedSum 75 = .ok (.isub, 1) := by decide +kernel
theorem d_M_weighedSum_76 : decode b_M_weighedSum 76 = .ok (.iload 7, 2) := by decide +kernel
theorem d_M_weighedSum_78 : decode b_M_weighedSum 78 = .ok (.iload 4, 2) := by decide +kernel
theorem d_M_weighedSum_80 : decode b_M_weighedSum 80 = .ok (.sipush 1024, 3) := by decide +kernel
theorem d_M_weighedSum_83 : decode b_M_weighedSum 83 = .ok (.imul, 1) := by decide +kernel
theorem d_M_weighedSum_84 : decode b_M_weighedSum 84 = .ok (.isub, 1) := by decide +kernel
theorem d_M_weighedSum_85 : decode b_M_weighedSum 85 = .ok (.iload_n 1, 1) := by decide +kernel
theorem d_M_weighedSum_86 : decode b_M_weighedSum 86 = .ok (.iload_n 2, 1) := by decide +kernel
theorem d_M_weighedSum_87 : decode b_M_weighedSum 87 = .ok (.iadd, 1) := by decide +kernel
theorem d_M_weighedSum_88 : decode b_M_weighedSum 88 = .ok (.iload 6, 2) := by decide +kernel
theorem d_M_weighedSum_90 : decode b_M_weighedSum 90 = .ok (.isub, 1) := by decide +kernel
theorem d_M_weighedSum_91 : decode b_M_weighedSum 91 = .ok (.invokevirtual 65, 3) := by decide +kernel
theorem d_M_weighedSum_94 : decode b_M_weighedSum 94 = .ok (.iadd, 1) := by decide +kernel
theorem d_M_weighedSum_95 : decode b_M_weighedSum 95 = .ok (.istore_n 3, 1) := by decide +kernel
theorem d_M_weighedSum_96 : decode b_M_weighedSum 96 = .ok (.iinc 4 1, 3) := by decide +kernel
theorem d_M_weighedSum_99 : decode b_M_weighedSum 99 = .ok (.goto (-90), 3) := by decide +kernel
theorem d_M_weighedSum_102 : decode b_M_weighedSum 102 = .ok (.iload_n 3, 1) := by decide +kernel
theorem d_M_weighedSum_103 : decode b_M_weighedSum 103 = .ok (.ireturn, 1) := by decide +kernel
theorem d_M_byteAt_0 : decode b_M_byteAt 0 = .ok (.aload_n 0, 1) := by decide +kernel
theorem d_M_byteAt_1 : decode b_M_byteAt 1 = .ok (.iload_n 1, 1) := by decide +kernel
theorem d_M_byteAt_2 : decode b_M_byteAt 2 = .ok (.sipush 1024, 3) := by decide +kernel
theorem d_M_byteAt_5 : decode b_M_byteAt 5 = .ok (.idiv, 1) := by decide +kernel
theorem d_M_byteAt_6 : decode b_M_byteAt 6 = .ok (.invokevirtual 44, 3) := by decide +kernel
theorem d_M_byteAt_9 : decode b_M_byteAt 9 = .ok (.astore_n 2, 1) := by decide +kernel
theorem d_M_byteAt_10 : decode b_M_byteAt 10 = .ok (.aload_n 2, 1) := by decide +kernel
theorem d_M_byteAt_11 : decode b_M_byteAt 11 = .ok (.ifnull 7, 3) := by decide +kernel
theorem d_M_byteAt_14 : decode b_M_byteAt 14 = .ok (.iload_n 1, 1) := by decide +kernel
theorem d_M_byteAt_15 : decode b_M_byteAt 15 = .ok (.ifCond .ge 7, 3) := by decide +kernel
theorem d_M_byteAt_18 : decode b_M_byteAt 18 = .ok (.iconst 0, 1) := by decide +kernel
theorem d_M_byteAt_19 : decode b_M_byteAt 19 = .ok (.goto 17, 3) := by decide +kernel
theorem d_M_byteAt_22 : decode b_M_byteAt 22 = .ok (.aload_n 2, 1) := by decide +kernel
theorem d_M_byteAt_23 : decode b_M_byteAt 23 = .ok (.getfield 52, 3) := by decide +kernel
theorem d_M_byteAt_26 : decode b_M_byteAt 26 = .ok (.iload_n 1, 1) := by decide +kernel
theorem d_M_byteAt_27 : decode b_M_byteAt 27 = .ok (.sipush 1024, 3) := by decide +kernel
theorem d_M_byteAt_30 : decode b_M_byteAt 30 = .ok (.irem, 1) := by decide +kernel
theorem d_M_byteAt_31 : decode b_M_byteAt 31 = .ok (.baload, 1) := by decide +kernel
theorem d_M_byteAt_32 : decode b_M_byteAt 32 = .ok (.sipush 255, 3) := by decide +kernel
theorem d_M_byteAt_35 : decode b_M_byteAt 35 = .ok (.iand, 1) := by decide +kernel
theorem d_M_byteAt_36 : decode b_M_byteAt 36 = .ok (.ireturn, 1) := by decide +kernel
theorem d_M_putByte_0 : decode b_M_putByte 0 = .ok (.aload_n 0, 1) := by decide +kernel
theorem d_M_putByte_1 : decode b_M_putByte 1 = .ok (.iload_n 1, 1) := by decide +kernel
theorem d_M_putByte_2 : decode b_M_putByte 2 = .ok (.sipush 1024, 3) := by decide +kernel
theorem d_M_putByte_5 : decode b_M_putByte 5 = .ok (.idiv, 1) := by decide +kernel
theorem d_M_putByte_6 : decode b_M_putByte 6 = .ok (.invokevirtual 62, 3) := by decide +kernel
theorem d_M_putByte_9 : decode b_M_putByte 9 = .ok (.astore_n 3, 1) := by decide +kernel
theorem d_M_putByte_10 : decode b_M_putByte 10 = .ok (.aload_n 3, 1) := by decide +kernel
theorem d_M_putByte_11 : decode b_M_putByte 11 = .ok (.ifnull 18, 3) := by decide +kernel
theorem d_M_putByte_14 : decode b_M_putByte 14 = .ok (.iload_n 1, 1) := by decide +kernel
theorem d_M_putByte_15 : decode b_M_putByte 15 = .ok (.ifCond .lt 14, 3) := by decide +kernel
theorem d_M_putByte_18 : decode b_M_putByte 18 = .ok (.aload_n 3, 1) := by decide +kernel
theorem d_M_putByte_19 : decode b_M_putByte 19 = .ok (.getfield 52, 3) := by decide +kernel
theorem d_M_putByte_22 : decode b_M_putByte 22 = .ok (.iload_n 1, 1) := by decide +kernel
theorem d_M_putByte_23 : decode b_M_putByte 23 = .ok (.sipush 1024, 3) := by decide +kernel
theorem d_M_putByte_26 : decode b_M_putByte 26 = .ok (.irem, 1) := by decide +kernel
theorem d_M_putByte_27 : decode b_M_putByte 27 = .ok (.iload_n 2, 1) := by decide +kernel
theorem d_M_putByte_28 : decode b_M_putByte 28 = .ok (.bastore, 1) := by decide +kernel
theorem d_M_putByte_29 : decode b_M_putByte 29 = .ok (.return_, 1) := by decide +kernel
theorem d_M_rowOrNull_0 : decode b_M_rowOrNull 0 = .ok (.iload_n 1, 1) := by decide +kernel
theorem d_M_rowOrNull_1 : decode b_M_rowOrNull 1 = .ok (.ifCond .lt 12, 3) := by decide +kernel
theorem d_M_rowOrNull_4 : decode b_M_rowOrNull 4 = .ok (.iload_n 1, 1) := by decide +kernel
theorem d_M_rowOrNull_5 : decode b_M_rowOrNull 5 = .ok (.aload_n 0, 1) := by decide +kernel
theorem d_M_rowOrNull_6 : decode b_M_rowOrNull 6 = .ok (.getfield 29, 3) := by decide +kernel
theorem d_M_rowOrNull_9 : decode b_M_rowOrNull 9 = .ok (.arraylength, 1) := by decide +kernel
theorem d_M_rowOrNull_10 : decode b_M_rowOrNull 10 = .ok (.if_icmp .lt 7, 3) := by decide +kernel
theorem d_M_rowOrNull_13 : decode b_M_rowOrNull 13 = .ok (.aconst_null, 1) := by decide +kernel
theorem d_M_rowOrNull_14 : decode b_M_rowOrNull 14 = .ok (.goto 9, 3) := by decide +kernel
theorem d_M_rowOrNull_17 : decode b_M_rowOrNull 17 = .ok (.aload_n 0, 1) := by decide +kernel
theorem d_M_rowOrNull_18 : decode b_M_rowOrNull 18 = .ok (.getfield 29, 3) := by decide +kernel
theorem d_M_rowOrNull_21 : decode b_M_rowOrNull 21 = .ok (.iload_n 1, 1) := by decide +kernel
theorem d_M_rowOrNull_22 : decode b_M_rowOrNull 22 = .ok (.aaload, 1) := by decide +kernel
theorem d_M_rowOrNull_23 : decode b_M_rowOrNull 23 = .ok (.areturn, 1) := by decide +kernel
theorem d_M_rowToWrite_0 : decode b_M_rowToWrite 0 = .ok (.iload_n 1, 1) := by decide +kernel
theorem d_M_rowToWrite_1 : decode b_M_rowToWrite 1 = .ok (.ifCond .lt 12, 3) := by decide +kernel
theorem d_M_rowToWrite_4 : decode b_M_rowToWrite 4 = .ok (.iload_n 1, 1) := by decide +kernel
theorem d_M_rowToWrite_5 : decode b_M_rowToWrite 5 = .ok (.aload_n 0, 1) := by decide +kernel
theorem d_M_rowToWrite_6 : decode b_M_rowToWrite 6 = .ok (.getfield 29, 3) := by decide +kernel
theorem d_M_rowToWrite_9 : decode b_M_rowToWrite 9 = .ok (.arraylength, 1) := by decide +kernel
theorem d_M_rowToWrite_10 : decode b_M_rowToWrite 10 = .ok (.if_icmp .lt 5, 3) := by decide +kernel
theorem d_M_rowToWrite_13 : decode b_M_rowToWrite 13 = .ok (.aconst_null, 1) := by decide +kernel
theorem d_M_rowToWrite_14 : decode b_M_rowToWrite 14 = .ok (.areturn, 1) := by decide +kernel
theorem d_M_rowToWrite_15 : decode b_M_rowToWrite 15 = .ok (.aload_n 0, 1) := by decide +kernel
theorem d_M_rowToWrite_16 : decode b_M_rowToWrite 16 = .ok (.getfield 29, 3) := by decide +kernel
theorem d_M_rowToWrite_19 : decode b_M_rowToWrite 19 = .ok (.iload_n 1, 1) := by decide +kernel
theorem d_M_rowToWrite_20 : decode b_M_rowToWrite 20 = .ok (.aaload, 1) := by decide +kernel
theorem d_M_rowToWrite_21 : decode b_M_rowToWrite 21 = .ok (.ifnonnull 16, 3) := by decide +kernel
theorem d_M_rowToWrite_24 : decode b_M_rowToWrite 24 = .ok (.aload_n 0, 1) := by decide +kernel
theorem d_M_rowToWrite_25 : decode b_M_rowToWrite 25 = .ok (.getfield 29, 3) := by decide +kernel
theorem d_M_rowToWrite_28 : decode b_M_rowToWrite 28 = .ok (.iload_n 1, 1) := by decide +kernel
theorem d_M_rowToWrite_29 : decode b_M_rowToWrite 29 = .ok (.new 27, 3) := by decide +kernel
theorem d_M_rowToWrite_32 : decode b_M_rowToWrite 32 = .ok (.dup, 1) := by decide +kernel
theorem d_M_rowToWrite_33 : decode b_M_rowToWrite 33 = .ok (.invokespecial 69, 3) := by decide +kernel
theorem d_M_rowToWrite_36 : decode b_M_rowToWrite 36 = .ok (.aastore, 1) := by decide +kernel
theorem d_M_rowToWrite_37 : decode b_M_rowToWrite 37 = .ok (.aload_n 0, 1) := by decide +kernel
theorem d_M_rowToWrite_38 : decode b_M_rowToWrite 38 = .ok (.getfield 29, 3) := by decide +kernel
theorem d_M_rowToWrite_41 : decode b_M_rowToWrite 41 = .ok (.iload_n 1, 1) := by decide +kernel
theorem d_M_rowToWrite_42 : decode b_M_rowToWrite 42 = .ok (.aaload, 1) := by decide +kernel
theorem d_M_rowToWrite_43 : decode b_M_rowToWrite 43 = .ok (.areturn, 1) := by decide +kernel
end
section
theorem d_P_init_0 : decode b_P_init 0 = .ok (.aload_n 0, 1) := by decide +kernel
theorem d_P_init_1 : decode b_P_init 1 = .ok (.invokespecial 3, 3) := by decide +kernel
theorem d_P_init_4 : decode b_P_init 4 = .ok (.aload_n 0, 1) := by decide +kernel
theorem d_P_init_5 : decode b_P_init 5 = .ok (.bipush 24, 2) := by decide +kernel
theorem d_P_init_7 : decode b_P_init 7 = .ok (.anewarray 9, 3) := by decide +kernel
theorem d_P_init_10 : decode b_P_init 10 = .ok (.putfield 11, 3) := by decide +kernel
theorem d_P_init_13 : decode b_P_init 13 = .ok (.aload_n 0, 1) := by decide +kernel
theorem d_P_init_14 : decode b_P_init 14 = .ok (.sipush 4096, 3) := by decide +kernel
theorem d_P_init_17 : decode b_P_init 17 = .ok (.newarray .byte, 2) := by decide +kernel
theorem d_P_init_19 : decode b_P_init 19 = .ok (.putfield 15, 3) := by decide +kernel
theorem d_P_init_22 : decode b_P_init 22 = .ok (.aload_n 0, 1) := by decide +kernel
theorem d_P_init_23 : decode b_P_init 23 = .ok (.iconst 0, 1) := by decide +kernel
theorem d_P_init_24 : decode b_P_init 24 = .ok (.putfield 19, 3) := by decide +kernel
theorem d_P_init_27 : decode b_P_init 27 = .ok (.aload_n 0, 1) := by decide +kernel
theorem d_P_init_28 : decode b_P_init 28 = .ok (.iconst 0, 1) := by decide +kernel
theorem d_P_init_29 : decode b_P_init 29 = .ok (.putfield 23, 3) := by decide +kernel
theorem d_P_init_32 : decode b_P_init 32 = .ok (.return_, 1) := by decide +kernel
theorem d_P_make_0 : decode b_P_make 0 = .ok (.iload_n 1, 1) := by decide +kernel
theorem d_P_make_1 : decode b_P_make 1 = .ok (.ifCond .lt 9, 3) := by decide +kernel
theorem d_P_make_4 : decode b_P_make 4 = .ok (.iload_n 1, 1) := by decide +kernel
theorem d_P_make_5 : decode b_P_make 5 = .ok (.ldc 26, 2) := by decide +kernel
theorem d_P_make_7 : decode b_P_make 7 = .ok (.if_icmp .le 13, 3) := by decide +kernel
theorem d_P_make_10 : decode b_P_make 10 = .ok (.new 27, 3) := by decide +kernel
theorem d_P_make_13 : decode b_P_make 13 = .ok (.dup, 1) := by decide +kernel
theorem d_P_make_14 : decode b_P_make 14 = .ok (.ldc 29, 2) := by decide +kernel
theorem d_P_make_16 : decode b_P_make 16 = .ok (.invokespecial 31, 3) := by decide +kernel
theorem d_P_make_19 : decode b_P_make 19 = .ok (.athrow, 1) := by decide +kernel
theorem d_P_make_20 : decode b_P_make 20 = .ok (.iload_n 2, 1) := by decide +kernel
theorem d_P_make_21 : decode b_P_make 21 = .ok (.iconst (-1), 1) := by decide +kernel
theorem d_P_make_22 : decode b_P_make 22 = .ok (.if_icmp .eq 24, 3) := by decide +kernel
theorem d_P_make_25 : decode b_P_make 25 = .ok (.iload_n 2, 1) := by decide +kernel
theorem d_P_make_26 : decode b_P_make 26 = .ok (.iload_n 1, 1) := by decide +kernel
theorem d_P_make_27 : decode b_P_make 27 = .ok (.if_icmp .lt 9, 3) := by decide +kernel
theorem d_P_make_30 : decode b_P_make 30 = .ok (.iload_n 2, 1) := by decide +kernel
theorem d_P_make_31 : decode b_P_make 31 = .ok (.ldc 26, 2) := by decide +kernel
theorem d_P_make_33 : decode b_P_make 33 = .ok (.if_icmp .le 13, 3) := by decide +kernel
theorem d_P_make_36 : decode b_P_make 36 = .ok (.new 27, 3) := by decide +kernel
theorem d_P_make_39 : decode b_P_make 39 = .ok (.dup, 1) := by decide +kernel
theorem d_P_make_40 : decode b_P_make 40 = .ok (.ldc 34, 2) := by decide +kernel
theorem d_P_make_42 : decode b_P_make 42 = .ok (.invokespecial 31, 3) := by decide +kernel
theorem d_P_make_45 : decode b_P_make 45 = .ok (.athrow, 1) := by decide +kernel
theorem d_P_make_46 : decode b_P_make 46 = .ok (.aload_n 0, 1) := by decide +kernel
theorem d_P_make_47 : decode b_P_make 47 = .ok (.getfield 19, 3) := by decide +kernel
theorem d_P_make_50 : decode b_P_make 50 = .ok (.aload_n 0, 1) := by decide +kernel
theorem d_P_make_51 : decode b_P_make 51 = .ok (.getfield 11, 3) := by decide +kernel
theorem d_P_make_54 : decode b_P_make 54 = .ok (.arraylength, 1) := by decide +kernel
theorem d_P_make_55 : decode b_P_make 55 = .ok (.if_icmp .lt 13, 3) := by decide +kernel
theorem d_P_make_58 : decode b_P_make 58 = .ok (.new 36, 3) := by decide +kernel
theorem d_P_make_61 : decode b_P_make 61 = .ok (.dup, 1) := by decide +kernel
theorem d_P_make_62 : decode b_P_make 62 = .ok (.ldc 38, 2) := by decide +kernel
theorem d_P_make_64 : decode b_P_make 64 = .ok (.invokespecial 40, 3) := by decide +kernel
theorem d_P_make_67 : decode b_P_make 67 = .ok (.athrow, 1) := by decide +kernel
theorem d_P_make_68 : decode b_P_make 68 = .ok (.iload_n 1, 1) := by decide +kernel
theorem d_P_make_69 : decode b_P_make 69 = .ok (.bipush 16, 2) := by decide +kernel
theorem d_P_make_71 : decode b_P_make 71 = .ok (.aload_n 0, 1) := by decide +kernel
theorem d_P_make_72 : decode b_P_make 72 = .ok (.getfield 23, 3) := by decide +kernel
theorem d_P_make_75 : decode b_P_make 75 = .ok (.isub, 1) := by decide +kernel
theorem d_P_make_76 : decode b_P_make 76 = .ok (.if_icmp .le 13, 3) := by decide +kernel
theorem d_P_make_79 : decode b_P_make 79 = .ok (.new 41, 3) := by decide +kernel
theorem d_P_make_82 : decode b_P_make 82 = .ok (.dup, 1) := by decide +kernel
theorem d_P_make_83 : decode b_P_make 83 = .ok (.ldc 43, 2) := by decide +kernel
theorem d_P_make_85 : decode b_P_make 85 = .ok (.invokespecial 45, 3) := by decide +kernel
theorem d_P_make_88 : decode b_P_make 88 = .ok (.athrow, 1) := by decide +kernel
theorem d_P_make_89 : decode b_P_make 89 = .ok (.aload_n 0, 1) := by decide +kernel
theorem d_P_make_90 : decode b_P_make 90 = .ok (.getfield 19, 3) := by decide +kernel
theorem d_P_make_93 : decode b_P_make 93 = .ok (.istore_n 3, 1) := by decide +kernel
theorem d_P_make_94 : decode b_P_make 94 = .ok (.aload_n 0, 1) := by decide +kernel
theorem d_P_make_95 : decode b_P_make 95 = .ok (.getfield 11, 3) := by decide +kernel
theorem d_P_make_98 : decode b_P_make 98 = .ok (.iload_n 3, 1) := by decide +kernel
theorem d_P_make_99 : decode b_P_make 99 = .ok (.new 9, 3) := by decide +kernel
theorem d_P_make_102 : decode b_P_make 102 = .ok (.dup, 1) := by decide +kernel
theorem d_P_make_103 : decode b_P_make 103 = .ok (.iload_n 1, 1) := by decide +kernel
theorem d_P_make_104 : decode b_P_make 104 = .ok (.iload_n 2, 1) := by decide +kernel
theorem d_P_make_105 : decode b_P_make 105 = .ok (.invokespecial 46, 3) := by decide +kernel
theorem d_P_make_108 : decode b_P_make 108 = .ok (.aastore, 1) := by decide +kernel
theorem d_P_make_109 : decode b_P_make 109 = .ok (.aload_n 0, 1) := by decide +kernel
theorem d_P_make_110 : decode b_P_make 110 = .ok (.iload_n 3, 1) := by decide +kernel
theorem d_P_make_111 : decode b_P_make 111 = .ok (.iconst 1, 1) := by decide +kernel
theorem d_P_make_112 : decode b_P_make 112 = .ok (.iadd, 1) := by decide +kernel
theorem d_P_make_113 : decode b_P_make 113 = .ok (.putfield 19, 3) := by decide +kernel
theorem d_P_make_116 : decode b_P_make 116 = .ok (.aload_n 0, 1) := by decide +kernel
theorem d_P_make_117 : decode b_P_make 117 = .ok (.dup, 1) := by decide +kernel
theorem d_P_make_118 : decode b_P_make 118 = .ok (.getfield 23, 3) := by decide +kernel
theorem d_P_make_121 : decode b_P_make 121 = .ok (.iload_n 1, 1) := by decide +kernel
theorem d_P_make_122 : decode b_P_make 122 = .ok (.iadd, 1) := by decide +kernel
theorem d_P_make_123 : decode b_P_make 123 = .ok (.putfield 23, 3) := by decide +kernel
theorem d_P_make_126 : decode b_P_make 126 = .ok (.iload_n 3, 1) := by decide +kernel
theorem d_P_make_127 : decode b_P_make 127 = .ok (.ireturn, 1) := by decide +kernel
theorem d_P_pages_0 : decode b_P_pages 0 = .ok (.aload_n 0, 1) := by decide +kernel
theorem d_P_pages_1 : decode b_P_pages 1 = .ok (.iload_n 1, 1) := by decide +kernel
theorem d_P_pages_2 : decode b_P_pages 2 = .ok (.invokevirtual 49, 3) := by decide +kernel
theorem d_P_pages_5 : decode b_P_pages 5 = .ok (.getfield 53, 3) := by decide +kernel
theorem d_P_pages_8 : decode b_P_pages 8 = .ok (.ireturn, 1) := by decide +kernel
theorem d_P_grow_0 : decode b_P_grow 0 = .ok (.aload_n 0, 1) := by decide +kernel
theorem d_P_grow_1 : decode b_P_grow 1 = .ok (.iload_n 1, 1) := by decide +kernel
theorem d_P_grow_2 : decode b_P_grow 2 = .ok (.invokevirtual 49, 3) := by decide +kernel
theorem d_P_grow_5 : decode b_P_grow 5 = .ok (.astore_n 3, 1) := by decide +kernel
theorem d_P_grow_6 : decode b_P_grow 6 = .ok (.iload_n 2, 1) := by decide +kernel
theorem d_P_grow_7 : decode b_P_grow 7 = .ok (.invokestatic 56, 3) := by decide +kernel
theorem d_P_grow_10 : decode b_P_grow 10 = .ok (.lstore 4, 2) := by decide +kernel
theorem d_P_grow_12 : decode b_P_grow 12 = .ok (.aload_n 3, 1) := by decide +kernel
theorem d_P_grow_13 : decode b_P_grow 13 = .ok (.getfield 53, 3) := by decide +kernel
theorem d_P_grow_16 : decode b_P_grow 16 = .ok (.istore 6, 2) := by decide +kernel
theorem d_P_grow_18 : decode b_P_grow 18 = .ok (.iload 6, 2) := by decide +kernel
theorem d_P_grow_20 : decode b_P_grow 20 = .ok (.i2l, 1) := by decide +kernel
theorem d_P_grow_21 : decode b_P_grow 21 = .ok (.lload 4, 2) := by decide +kernel
theorem d_P_grow_23 : decode b_P_grow 23 = .ok (.ladd, 1) := by decide +kernel
theorem d_P_grow_24 : decode b_P_grow 24 = .ok (.aload_n 3, 1) := by decide +kernel
theorem d_P_grow_25 : decode b_P_grow 25 = .ok (.invokevirtual 60, 3) := by decide +kernel
theorem d_P_grow_28 : decode b_P_grow 28 = .ok (.i2l, 1) := by decide +kernel
theorem d_P_grow_29 : decode b_P_grow 29 = .ok (.lcmp, 1) := by decide +kernel
theorem d_P_grow_30 : decode b_P_grow 30 = .ok (.ifCond .gt 18, 3) := by decide +kernel
theorem d_P_grow_33 : decode b_P_grow 33 = .ok (.aload_n 0, 1) := by decide +kernel
theorem d_P_grow_34 : decode b_P_grow 34 = .ok (.getfield 23, 3) := by decide +kernel
theorem d_P_grow_37 : decode b_P_grow 37 = .ok (.i2l, 1) := by decide +kernel
theorem d_P_grow_38 : decode b_P_grow 38 = .ok (.lload 4, 2) := by decide +kernel
theorem d_P_grow_40 : decode b_P_grow 40 = .ok (.ladd, 1) := by decide +kernel
theorem d_P_grow_41 : decode b_P_grow 41 = .ok (.ldc2_w 64, 3) := by decide +kernel
theorem d_P_grow_44 : decode b_P_grow 44 = .ok (.lcmp, 1) := by decide +kernel
theorem d_P_grow_45 : decode b_P_grow 45 = .ok (.ifCond .le 5, 3) := by decide +kernel
theorem d_P_grow_48 : decode b_P_grow 48 = .ok (.iconst (-1), 1) := by decide +kernel
theorem d_P_grow_49 : decode b_P_grow 49 = .ok (.ireturn, 1) := by decide +kernel
theorem d_P_grow_50 : decode b_P_grow 50 = .ok (.aload_n 3, 1) := by decide +kernel
theorem d_P_grow_51 : decode b_P_grow 51 = .ok (.iload 6, 2) := by decide +kernel
theorem d_P_grow_53 : decode b_P_grow 53 = .ok (.iload_n 2, 1) := by decide +kernel
theorem d_P_grow_54 : decode b_P_grow 54 = .ok (.iadd, 1) := by decide +kernel
theorem d_P_grow_55 : decode b_P_grow 55 = .ok (.putfield 53, 3) := by decide +kernel
theorem d_P_grow_58 : decode b_P_grow 58 = .ok (.aload_n 0, 1) := by decide +kernel
theorem d_P_grow_59 : decode b_P_grow 59 = .ok (.dup, 1) := by decide +kernel
theorem d_P_grow_60 : decode b_P_grow 60 = .ok (.getfield 23, 3) := by decide +kernel
theorem d_P_grow_63 : decode b_P_grow 63 = .ok (.iload_n 2, 1) := by decide +kernel
theorem d_P_grow_64 : decode b_P_grow 64 = .ok (.iadd, 1) := by decide +kernel
theorem d_P_grow_65 : decode b_P_grow 65 = .ok (.putfield 23, 3) := by decide +kernel
theorem d_P_grow_68 : decode b_P_grow 68 = .ok (.iload 6, 2) := by decide +kernel
theorem d_P_grow_70 : decode b_P_grow 70 = .ok (.ireturn, 1) := by decide +kernel
theorem d_P_fits_0 : decode b_P_fits 0 = .ok (.aload_n 0, 1) := by decide +kernel
theorem d_P_fits_1 : decode b_P_fits 1 = .ok (.iload_n 1, 1) := by decide +kernel
theorem d_P_fits_2 : decode b_P_fits 2 = .ok (.invokevirtual 49, 3) := by decide +kernel
theorem d_P_fits_5 : decode b_P_fits 5 = .ok (.astore 4, 2) := by decide +kernel
theorem d_P_fits_7 : decode b_P_fits 7 = .ok (.aload 4, 2) := by decide +kernel
theorem d_P_fits_9 : decode b_P_fits 9 = .ok (.getfield 53, 3) := by decide +kernel
theorem d_P_fits_12 : decode b_P_fits 12 = .ok (.iload_n 2, 1) := by decide +kernel
theorem d_P_fits_13 : decode b_P_fits 13 = .ok (.if_icmp .ge 5, 3) := by decide +kernel
theorem d_P_fits_16 : decode b_P_fits 16 = .ok (.iconst 0, 1) := by decide +kernel
theorem d_P_fits_17 : decode b_P_fits 17 = .ok (.ireturn, 1) := by decide +kernel
theorem d_P_fits_18 : decode b_P_fits 18 = .ok (.iload_n 3, 1) := by decide +kernel
theorem d_P_fits_19 : decode b_P_fits 19 = .ok (.iconst (-1), 1) := by decide +kernel
theorem d_P_fits_20 : decode b_P_fits 20 = .ok (.if_icmp .eq 21, 3) := by decide +kernel
theorem d_P_fits_23 : decode b_P_fits 23 = .ok (.aload 4, 2) := by decide +kernel
theorem d_P_fits_25 : decode b_P_fits 25 = .ok (.getfield 66, 3) := by decide +kernel
theorem d_P_fits_28 : decode b_P_fits 28 = .ok (.iconst (-1), 1) := by decide +kernel
theorem d_P_fits_29 : decode b_P_fits 29 = .ok (.if_icmp .eq 16, 3) := by decide +kernel
theorem d_P_fits_32 : decode b_P_fits 32 = .ok (.aload 4, 2) := by decide +kernel
theorem d_P_fits_34 : decode b_P_fits 34 = .ok (.getfield 66, 3) := by decide +kernel
theorem d_P_fits_37 : decode b_P_fits 37 = .ok (.iload_n 3, 1) := by decide +kernel
theorem d_P_fits_38 : decode b_P_fits 38 = .ok (.if_icmp .gt 7, 3) := by decide +kernel
theorem d_P_fits_41 : decode b_P_fits 41 = .ok (.iconst 1, 1) := by decide +kernel
theorem d_P_fits_42 : decode b_P_fits 42 = .ok (.goto 4, 3) := by decide +kernel
theorem d_P_fits_45 : decode b_P_fits 45 = .ok (.iconst 0, 1) := by decide +kernel
theorem d_P_fits_46 : decode b_P_fits 46 = .ok (.ireturn, 1) := by decide +kernel
theorem d_P_load_0 : decode b_P_load 0 = .ok (.aload_n 0, 1) := by decide +kernel
theorem d_P_load_1 : decode b_P_load 1 = .ok (.iload_n 1, 1) := by decide +kernel
theorem d_P_load_2 : decode b_P_load 2 = .ok (.invokevirtual 49, 3) := by decide +kernel
theorem d_P_load_5 : decode b_P_load 5 = .ok (.astore 5, 2) := by decide +kernel
theorem d_P_load_7 : decode b_P_load 7 = .ok (.iload_n 2, 1) := by decide +kernel
theorem d_P_load_8 : decode b_P_load 8 = .ok (.bipush 40, 2) := by decide +kernel
theorem d_P_load_10 : decode b_P_load 10 = .ok (.getstatic 69, 3) := by decide +kernel
theorem d_P_load_13 : decode b_P_load 13 = .ok (.arraylength, 1) := by decide +kernel
theorem d_P_load_14 : decode b_P_load 14 = .ok (.invokestatic 73, 3) := by decide +kernel
theorem d_P_load_17 : decode b_P_load 17 = .ok (.istore 6, 2) := by decide +kernel
theorem d_P_load_19 : decode b_P_load 19 = .ok (.getstatic 69, 3) := by decide +kernel
theorem d_P_load_22 : decode b_P_load 22 = .ok (.iload 6, 2) := by decide +kernel
theorem d_P_load_24 : decode b_P_load 24 = .ok (.iaload, 1) := by decide +kernel
theorem d_P_load_25 : decode b_P_load 25 = .ok (.istore 7, 2) := by decide +kernel
theorem d_P_load_27 : decode b_P_load 27 = .ok (.aload 5, 2) := by decide +kernel
theorem d_P_load_29 : decode b_P_load 29 = .ok (.iload_n 3, 1) := by decide +kernel
theorem d_P_load_30 : decode b_P_load 30 = .ok (.iload 4, 2) := by decide +kernel
theorem d_P_load_32 : decode b_P_load 32 = .ok (.iload 7, 2) := by decide +kernel
theorem d_P_load_34 : decode b_P_load 34 = .ok (.invokestatic 77, 3) := by decide +kernel
theorem d_P_load_37 : decode b_P_load 37 = .ok (.istore 8, 2) := by decide +kernel
theorem d_P_load_39 : decode b_P_load 39 = .ok (.aload 5, 2) := by decide +kernel
theorem d_P_load_41 : decode b_P_load 41 = .ok (.iload 8, 2) := by decide +kernel
theorem d_P_load_43 : decode b_P_load 43 = .ok (.iload 7, 2) := by decide +kernel
theorem d_P_load_45 : decode b_P_load 45 = .ok (.invokevirtual 81, 3) := by decide +kernel
theorem d_P_load_48 : decode b_P_load 48 = .ok (.lstore 9, 2) := by decide +kernel
theorem d_P_load_50 : decode b_P_load 50 = .ok (.getstatic 85, 3) := by decide +kernel
theorem d_P_load_53 : decode b_P_load 53 = .ok (.iload 6, 2) := by decide +kernel
theorem d_P_load_55 : decode b_P_load 55 = .ok (.iaload, 1) := by decide +kernel
theorem d_P_load_56 : decode b_P_load 56 = .ok (.iconst 1, 1) := by decide +kernel
theorem d_P_load_57 : decode b_P_load 57 = .ok (.if_icmp .ne 12, 3) := by decide +kernel
theorem d_P_load_60 : decode b_P_load 60 = .ok (.lload 9, 2) := by decide +kernel
theorem d_P_load_62 : decode b_P_load 62 = .ok (.iload 7, 2) := by decide +kernel
theorem d_P_load_64 : decode b_P_load 64 = .ok (.invokestatic 88, 3) := by decide +kernel
theorem d_P_load_67 : decode b_P_load 67 = .ok (.lstore 9, 2) := by decide +kernel
theorem d_P_load_69 : decode b_P_load 69 = .ok (.getstatic 92, 3) := by decide +kernel
theorem d_P_load_72 : decode b_P_load 72 = .ok (.iload 6, 2) := by decide +kernel
theorem d_P_load_74 : decode b_P_load 74 = .ok (.iaload, 1) := by decide +kernel
theorem d_P_load_75 : decode b_P_load 75 = .ok (.iconst 4, 1) := by decide +kernel
theorem d_P_load_76 : decode b_P_load 76 = .ok (.if_icmp .ne 12, 3) := by decide +kernel
theorem d_P_load_79 : decode b_P_load 79 = .ok (.lload 9, 2) := by decide +kernel
theorem d_P_load_81 : decode b_P_load 81 = .ok (.ldc2_w 95, 3) := by decide +kernel
theorem d_P_load_84 : decode b_P_load 84 = .ok (.land, 1) := by decide +kernel
theorem d_P_load_85 : decode b_P_load 85 = .ok (.goto 5, 3) := by decide +kernel
theorem d_P_load_88 : decode b_P_load 88 = .ok (.lload 9, 2) := by decide +kernel
theorem d_P_load_90 : decode b_P_load 90 = .ok (.lreturn, 1) := by decide +kernel
theorem d_P_store_0 : decode b_P_store 0 = .ok (.aload_n 0, 1) := by decide +kernel
theorem d_P_store_1 : decode b_P_store 1 = .ok (.iload_n 1, 1) := by decide +kernel
theorem d_P_store_2 : decode b_P_store 2 = .ok (.invokevirtual 49, 3) := by decide +kernel
theorem d_P_store_5 : decode b_P_store 5 = .ok (.astore 7, 2) := by decide +kernel
theorem d_P_store_7 : decode b_P_store 7 = .ok (.getstatic 97, 3) := by decide +kernel
theorem d_P_store_10 : decode b_P_store 10 = .ok (.iload_n 2, 1) := by decide +kernel
theorem d_P_store_11 : decode b_P_store 11 = .ok (.bipush 54, 2) := by decide +kernel
theorem d_P_store_13 : decode b_P_store 13 = .ok (.getstatic 97, 3) := by decide +kernel
theorem d_P_store_16 : decode b_P_store 16 = .ok (.arraylength, 1) := by decide +kernel
theorem d_P_store_17 : decode b_P_store 17 = .ok (.invokestatic 73, 3) := by decide +kernel
theorem d_P_store_20 : decode b_P_store 20 = .ok (.iaload, 1) := by decide +kernel
theorem d_P_store_21 : decode b_P_store 21 = .ok (.istore 8, 2) := by decide +kernel
theorem d_P_store_23 : decode b_P_store 23 = .ok (.aload 7, 2) := by decide +kernel
theorem d_P_store_25 : decode b_P_store 25 = .ok (.iload_n 3, 1) := by decide +kernel
theorem d_P_store_26 : decode b_P_store 26 = .ok (.iload 4, 2) := by decide +kernel
theorem d_P_store_28 : decode b_P_store 28 = .ok (.iload 8, 2) := by decide +kernel
theorem d_P_store_30 : decode b_P_store 30 = .ok (.invokestatic 77, 3) := by decide +kernel
theorem d_P_store_33 : decode b_P_store 33 = .ok (.istore 9, 2) := by decide +kernel
theorem d_P_store_35 : decode b_P_store 35 = .ok (.aload 7, 2) := by decide +kernel
theorem d_P_store_37 : decode b_P_store 37 = .ok (.iload 9, 2) := by decide +kernel
theorem d_P_store_39 : decode b_P_store 39 = .ok (.iload 8, 2) := by decide +kernel
theorem d_P_store_41 : decode b_P_store 41 = .ok (.lload 5, 2) := by decide +kernel
theorem d_P_store_43 : decode b_P_store 43 = .ok (.invokevirtual 100, 3) := by decide +kernel
theorem d_P_store_46 : decode b_P_store 46 = .ok (.return_, 1) := by decide +kernel
theorem d_P_copy_0 : decode b_P_copy 0 = .ok (.aload_n 0, 1) := by decide +kernel
theorem d_P_copy_1 : decode b_P_copy 1 = .ok (.iload_n 1, 1) := by decide +kernel
theorem d_P_copy_2 : decode b_P_copy 2 = .ok (.invokevirtual 49, 3) := by decide +kernel
theorem d_P_copy_5 : decode b_P_copy 5 = .ok (.astore 6, 2) := by decide +kernel
theorem d_P_copy_7 : decode b_P_copy 7 = .ok (.aload_n 0, 1) := by decide +kernel
theorem d_P_copy_8 : decode b_P_copy 8 = .ok (.iload_n 3, 1) := by decide +kernel
theorem d_P_copy_9 : decode b_P_copy 9 = .ok (.invokevirtual 49, 3) := by decide +kernel
theorem d_P_copy_12 : decode b_P_copy 12 = .ok (.astore 7, 2) := by decide +kernel
theorem d_P_copy_14 : decode b_P_copy 14 = .ok (.iload 5, 2) := by decide +kernel
theorem d_P_copy_16 : decode b_P_copy 16 = .ok (.sipush 4096, 3) := by decide +kernel
theorem d_P_copy_19 : decode b_P_copy 19 = .ok (.invokestatic 104, 3) := by decide +kernel
theorem d_P_copy_22 : decode b_P_copy 22 = .ok (.iload 5, 2) := by decide +kernel
theorem d_P_copy_24 : decode b_P_copy 24 = .ok (.ifCond .ne 4, 3) := by decide +kernel
theorem d_P_copy_27 : decode b_P_copy 27 = .ok (.return_, 1) := by decide +kernel
theorem d_P_copy_28 : decode b_P_copy 28 = .ok (.aload 6, 2) := by decide +kernel
theorem d_P_copy_30 : decode b_P_copy 30 = .ok (.iload_n 2, 1) := by decide +kernel
theorem d_P_copy_31 : decode b_P_copy 31 = .ok (.i2l, 1) := by decide +kernel
theorem d_P_copy_32 : decode b_P_copy 32 = .ok (.iload 5, 2) := by decide +kernel
theorem d_P_copy_34 : decode b_P_copy 34 = .ok (.invokestatic 107, 3) := by decide +kernel
theorem d_P_copy_37 : decode b_P_copy 37 = .ok (.aload 7, 2) := by decide +kernel
theorem d_P_copy_39 : decode b_P_copy 39 = .ok (.iload 4, 2) := by decide +kernel
theorem d_P_copy_41 : decode b_P_copy 41 = .ok (.i2l, 1) := by decide +kernel
theorem d_P_copy_42 : decode b_P_copy 42 = .ok (.iload 5, 2) := by decide +kernel
theorem d_P_copy_44 : decode b_P_copy 44 = .ok (.invokestatic 107, 3) := by decide +kernel
theorem d_P_copy_47 : decode b_P_copy 47 = .ok (.aload 6, 2) := by decide +kernel
theorem d_P_copy_49 : decode b_P_copy 49 = .ok (.aload_n 0, 1) := by decide +kernel
theorem d_P_copy_50 : decode b_P_copy 50 = .ok (.getfield 15, 3) := by decide +kernel
theorem d_P_copy_53 : decode b_P_copy 53 = .ok (.iload_n 2, 1) := by decide +kernel
theorem d_P_copy_54 : decode b_P_copy 54 = .ok (.iload 5, 2) := by decide +kernel
theorem d_P_copy_56 : decode b_P_copy 56 = .ok (.invokevirtual 111, 3) := by decide +kernel
theorem d_P_copy_59 : decode b_P_copy 59 = .ok (.aload 7, 2) := by decide +kernel
theorem d_P_copy_61 : decode b_P_copy 61 = .ok (.aload_n 0, 1) := by decide +kernel
theorem d_P_copy_62 : decode b_P_copy 62 = .ok (.getfield 15, 3) := by decide +kernel
theorem d_P_copy_65 : decode b_P_copy 65 = .ok (.iload 4, 2) := by decide +kernel
theorem d_P_copy_67 : decode b_P_copy 67 = .ok (.iload 5, 2) := by decide +kernel
theorem d_P_copy_69 : decode b_P_copy 69 = .ok (.invokevirtual 115, 3) := by decide +kernel
theorem d_P_copy_72 : decode b_P_copy 72 = .ok (.return_, 1) := by decide +kernel
theorem d_P_sum_0 : decode b_P_sum 0 = .ok (.aload_n 0, 1) := by decide +kernel
theorem d_P_sum_1 : decode b_P_sum 1 = .ok (.iload_n 1, 1) := by decide +kernel
theorem d_P_sum_2 : decode b_P_sum 2 = .ok (.invokevirtual 49, 3) := by decide +kernel
theorem d_P_sum_5 : decode b_P_sum 5 = .ok (.astore 4, 2) := by decide +kernel
theorem d_P_sum_7 : decode b_P_sum 7 = .ok (.iload_n 3, 1) := by decide +kernel
theorem d_P_sum_8 : decode b_P_sum 8 = .ok (.ldc 26, 2) := by decide +kernel
theorem d_P_sum_10 : decode b_P_sum 10 = .ok (.invokestatic 104, 3) := by decide +kernel
theorem d_P_sum_13 : decode b_P_sum 13 = .ok (.iload_n 3, 1) := by decide +kernel
theorem d_P_sum_14 : decode b_P_sum 14 = .ok (.ifCond .ne 5, 3) := by decide +kernel
theorem d_P_sum_17 : decode b_P_sum 17 = .ok (.iconst 0, 1) := by decide +kernel
theorem d_P_sum_18 : decode b_P_sum 18 = .ok (.ireturn, 1) := by decide +kernel
theorem d_P_sum_19 : decode b_P_sum 19 = .ok (.aload 4, 2) := by decide +kernel
theorem d_P_sum_21 : decode b_P_sum 21 = .ok (.iload_n 2, 1) := by decide +kernel
theorem d_P_sum_22 : decode b_P_sum 22 = .ok (.i2l, 1) := by decide +kernel
theorem d_P_sum_23 : decode b_P_sum 23 = .ok (.iload_n 3, 1) := by decide +kernel
theorem d_P_sum_24 : decode b_P_sum 24 = .ok (.invokestatic 107, 3) := by decide +kernel
theorem d_P_sum_27 : decode b_P_sum 27 = .ok (.aload 4, 2) := by decide +kernel
theorem d_P_sum_29 : decode b_P_sum 29 = .ok (.iload_n 2, 1) := by decide +kernel
theorem d_P_sum_30 : decode b_P_sum 30 = .ok (.iload_n 3, 1) := by decide +kernel
theorem d_P_sum_31 : decode b_P_sum 31 = .ok (.invokevirtual 118, 3) := by decide +kernel
theorem d_P_sum_34 : decode b_P_sum 34 = .ok (.ireturn, 1) := by decide +kernel
theorem d_P_memoryOf_0 : decode b_P_memoryOf 0 = .ok (.iload_n 1, 1) := by decide +kernel
theorem d_P_memoryOf_1 : decode b_P_memoryOf 1 = .ok (.ifCond .lt 21, 3) := by decide +kernel
theorem d_P_memoryOf_4 : decode b_P_memoryOf 4 = .ok (.iload_n 1, 1) := by decide +kernel
theorem d_P_memoryOf_5 : decode b_P_memoryOf 5 = .ok (.aload_n 0, 1) := by decide +kernel
theorem d_P_memoryOf_6 : decode b_P_memoryOf 6 = .ok (.getfield 11, 3) := by decide +kernel
theorem d_P_memoryOf_9 : decode b_P_memoryOf 9 = .ok (.arraylength, 1) := by decide +kernel
theorem d_P_memoryOf_10 : decode b_P_memoryOf 10 = .ok (.if_icmp .ge 12, 3) := by decide +kernel
theorem d_P_memoryOf_13 : decode b_P_memoryOf 13 = .ok (.aload_n 0, 1) := by decide +kernel
theorem d_P_memoryOf_14 : decode b_P_memoryOf 14 = .ok (.getfield 11, 3) := by decide +kernel
theorem d_P_memoryOf_17 : decode b_P_memoryOf 17 = .ok (.iload_n 1, 1) := by decide +kernel
theorem d_P_memoryOf_18 : decode b_P_memoryOf 18 = .ok (.aaload, 1) := by decide +kernel
theorem d_P_memoryOf_19 : decode b_P_memoryOf 19 = .ok (.ifnonnull 13, 3) := by decide +kernel
theorem d_P_memoryOf_22 : decode b_P_memoryOf 22 = .ok (.new 27, 3) := by decide +kernel
theorem d_P_memoryOf_25 : decode b_P_memoryOf 25 = .ok (.dup, 1) := by decide +kernel
theorem d_P_memoryOf_26 : decode b_P_memoryOf 26 = .ok (.ldc 122, 2) := by decide +kernel
theorem d_P_memoryOf_28 : decode b_P_memoryOf 28 = .ok (.invokespecial 31, 3) := by decide +kernel
theorem d_P_memoryOf_31 : decode b_P_memoryOf 31 = .ok (.athrow, 1) := by decide +kernel
theorem d_P_memoryOf_32 : decode b_P_memoryOf 32 = .ok (.aload_n 0, 1) := by decide +kernel
theorem d_P_memoryOf_33 : decode b_P_memoryOf 33 = .ok (.getfield 11, 3) := by decide +kernel
theorem d_P_memoryOf_36 : decode b_P_memoryOf 36 = .ok (.iload_n 1, 1) := by decide +kernel
theorem d_P_memoryOf_37 : decode b_P_memoryOf 37 = .ok (.aaload, 1) := by decide +kernel
theorem d_P_memoryOf_38 : decode b_P_memoryOf 38 = .ok (.areturn, 1) := by decide +kernel
theorem d_P_kindOf_0 : decode b_P_kindOf 0 = .ok (.iload_n 0, 1) := by decide +kernel
theorem d_P_kindOf_1 : decode b_P_kindOf 1 = .ok (.iload_n 1, 1) := by decide +kernel
theorem d_P_kindOf_2 : decode b_P_kindOf 2 = .ok (.if_icmp .lt 10, 3) := by decide +kernel
theorem d_P_kindOf_5 : decode b_P_kindOf 5 = .ok (.iload_n 0, 1) := by decide +kernel
theorem d_P_kindOf_6 : decode b_P_kindOf 6 = .ok (.iload_n 1, 1) := by decide +kernel
theorem d_P_kindOf_7 : decode b_P_kindOf 7 = .ok (.iload_n 2, 1) := by decide +kernel
theorem d_P_kindOf_8 : decode b_P_kindOf 8 = .ok (.iadd, 1) := by decide +kernel
theorem d_P_kindOf_9 : decode b_P_kindOf 9 = .ok (.if_icmp .lt 13, 3) := by decide +kernel
theorem d_P_kindOf_12 : decode b_P_kindOf 12 = .ok (.new 27, 3) := by decide +kernel
theorem d_P_kindOf_15 : decode b_P_kindOf 15 = .ok (.dup, 1) := by decide +kernel
theorem d_P_kindOf_16 : decode b_P_kindOf 16 = .ok (.ldc 124, 2) := by decide +kernel
theorem d_P_kindOf_18 : decode b_P_kindOf 18 = .ok (.invokespecial 31, 3) := by decide +kernel
theorem d_P_kindOf_21 : decode b_P_kindOf 21 = .ok (.athrow, 1) := by decide +kernel
theorem d_P_kindOf_22 : decode b_P_kindOf 22 = .ok (.iload_n 0, 1) := by decide +kernel
theorem d_P_kindOf_23 : decode b_P_kindOf 23 = .ok (.iload_n 1, 1) := by decide +kernel
theorem d_P_kindOf_24 : decode b_P_kindOf 24 = .ok (.isub, 1) := by decide +kernel
theorem d_P_kindOf_25 : decode b_P_kindOf 25 = .ok (.ireturn, 1) := by decide +kernel
theorem d_P_placeOf_0 : decode b_P_placeOf 0 = .ok (.iload_n 1, 1) := by decide +kernel
theorem d_P_placeOf_1 : decode b_P_placeOf 1 = .ok (.invokestatic 56, 3) := by decide +kernel
theorem d_P_placeOf_4 : decode b_P_placeOf 4 = .ok (.iload_n 2, 1) := by decide +kernel
theorem d_P_placeOf_5 : decode b_P_placeOf 5 = .ok (.invokestatic 56, 3) := by decide +kernel
theorem d_P_placeOf_8 : decode b_P_placeOf 8 = .ok (.ladd, 1) := by decide +kernel
theorem d_P_placeOf_9 : decode b_P_placeOf 9 = .ok (.lstore 4, 2) := by decide +kernel
theorem d_P_placeOf_11 : decode b_P_placeOf 11 = .ok (.aload_n 0, 1) := by decide +kernel
theorem d_P_placeOf_12 : decode b_P_placeOf 12 = .ok (.lload 4, 2) := by decide +kernel
theorem d_P_placeOf_14 : decode b_P_placeOf 14 = .ok (.iload_n 3, 1) := by decide +kernel
theorem d_P_placeOf_15 : decode b_P_placeOf 15 = .ok (.invokestatic 107, 3) := by decide +kernel
theorem d_P_placeOf_18 : decode b_P_placeOf 18 = .ok (.lload 4, 2) := by decide +kernel
theorem d_P_placeOf_20 : decode b_P_placeOf 20 = .ok (.l2i, 1) := by decide +kernel
theorem d_P_placeOf_21 : decode b_P_placeOf 21 = .ok (.ireturn, 1) := by decide +kernel
theorem d_P_checkCount_0 : decode b_P_checkCount 0 = .ok (.iload_n 0, 1) := by decide +kernel
theorem d_P_checkCount_1 : decode b_P_checkCount 1 = .ok (.ifCond .lt 8, 3) := by decide +kernel
theorem d_P_checkCount_4 : decode b_P_checkCount 4 = .ok (.iload_n 0, 1) := by decide +kernel
theorem d_P_checkCount_5 : decode b_P_checkCount 5 = .ok (.iload_n 1, 1) := by decide +kernel
theorem d_P_checkCount_6 : decode b_P_checkCount 6 = .ok (.if_icmp .le 13, 3) := by decide +kernel
theorem d_P_checkCount_9 : decode b_P_checkCount 9 = .ok (.new 27, 3) := by decide +kernel
theorem d_P_checkCount_12 : decode b_P_checkCount 12 = .ok (.dup, 1) := by decide +kernel
theorem d_P_checkCount_13 : decode b_P_checkCount 13 = .ok (.ldc 126, 2) := by decide +kernel
theorem d_P_checkCount_15 : decode b_P_checkCount 15 = .ok (.invokespecial 31, 3) := by decide +kernel
theorem d_P_checkCount_18 : decode b_P_checkCount 18 = .ok (.athrow, 1) := by decide +kernel
theorem d_P_checkCount_19 : decode b_P_checkCount 19 = .ok (.return_, 1) := by decide +kernel
theorem d_P_checkThere_0 : decode b_P_checkThere 0 = .ok (.lload_n 1, 1) := by decide +kernel
theorem d_P_checkThere_1 : decode b_P_checkThere 1 = .ok (.lconst 0, 1) := by decide +kernel
theorem d_P_checkThere_2 : decode b_P_checkThere 2 = .ok (.lcmp, 1) := by decide +kernel
theorem d_P_checkThere_3 : decode b_P_checkThere 3 = .ok (.ifCond .lt 15, 3) := by decide +kernel
theorem d_P_checkThere_6 : decode b_P_checkThere 6 = .ok (.lload_n 1, 1) := by decide +kernel
theorem d_P_checkThere_7 : decode b_P_checkThere 7 = .ok (.iload_n 3, 1) := by decide +kernel
theorem d_P_checkThere_8 : decode b_P_checkThere 8 = .ok (.i2l, 1) := by decide +kernel
theorem d_P_checkThere_9 : decode b_P_checkThere 9 = .ok (.ladd, 1) := by decide +kernel
theorem d_P_checkThere_10 : decode b_P_checkThere 10 = .ok (.aload_n 0, 1) := by decide +kernel
theorem d_P_checkThere_11 : decode b_P_checkThere 11 = .ok (.invokevirtual 128, 3) := by decide +kernel
theorem d_P_checkThere_14 : decode b_P_checkThere 14 = .ok (.lcmp, 1) := by decide +kernel
theorem d_P_checkThere_15 : decode b_P_checkThere 15 = .ok (.ifCond .le 13, 3) := by decide +kernel
theorem d_P_checkThere_18 : decode b_P_checkThere 18 = .ok (.new 132, 3) := by decide +kernel
theorem d_P_checkThere_21 : decode b_P_checkThere 21 = .ok (.dup, 1) := by decide +kernel
theorem d_P_checkThere_22 : decode b_P_checkThere 22 = .ok (.ldc 134, 2) := by decide +kernel
theorem d_P_checkThere_24 : decode b_P_checkThere 24 = .ok (.invokespecial 136, 3) := by decide +kernel
theorem d_P_checkThere_27 : decode b_P_checkThere 27 = .ok (.athrow, 1) := by decide +kernel
theorem d_P_checkThere_28 : decode b_P_checkThere 28 = .ok (.return_, 1) := by decide +kernel
theorem d_P_withoutSign_0 : decode b_P_withoutSign 0 = .ok (.iload_n 0, 1) := by decide +kernel
theorem d_P_withoutSign_1 : decode b_P_withoutSign 1 = .ok (.i2l, 1) := by decide +kernel
theorem d_P_withoutSign_2 : decode b_P_withoutSign 2 = .ok (.ldc2_w 95, 3) := by decide +kernel
theorem d_P_withoutSign_5 : decode b_P_withoutSign 5 = .ok (.land, 1) := by decide +kernel
theorem d_P_withoutSign_6 : decode b_P_withoutSign 6 = .ok (.lreturn, 1) := by decide +kernel
theorem d_P_withSign_0 : decode b_P_withSign 0 = .ok (.bipush 8, 2) := by decide +kernel
theorem d_P_withSign_2 : decode b_P_withSign 2 = .ok (.bipush 8, 2) := by decide +kernel
theorem d_P_withSign_4 : decode b_P_withSign 4 = .ok (.iload_n 2, 1) := by decide +kernel
theorem d_P_withSign_5 : decode b_P_withSign 5 = .ok (.isub, 1) := by decide +kernel
theorem d_P_withSign_6 : decode b_P_withSign 6 = .ok (.imul, 1) := by decide +kernel
theorem d_P_withSign_7 : decode b_P_withSign 7 = .ok (.istore_n 3, 1) := by decide +kernel
theorem d_P_withSign_8 : decode b_P_withSign 8 = .ok (.lload_n 0, 1) := by decide +kernel
theorem d_P_withSign_9 : decode b_P_withSign 9 = .ok (.iload_n 3, 1) := by decide +kernel
theorem d_P_withSign_10 : decode b_P_withSign 10 = .ok (.lshl, 1) := by decide +kernel
theorem d_P_withSign_11 : decode b_P_withSign 11 = .ok (.iload_n 3, 1) := by decide +kernel
theorem d_P_withSign_12 : decode b_P_withSign 12 = .ok (.lshr, 1) := by decide +kernel
theorem d_P_withSign_13 : decode b_P_withSign 13 = .ok (.lreturn, 1) := by decide +kernel
end
section
theorem d_W_init_0 : decode b_W_init 0 = .ok (.aload_n 0, 1) := by decide +kernel
theorem d_W_init_1 : decode b_W_init 1 = .ok (.invokespecial 3, 3) := by decide +kernel
theorem d_W_init_4 : decode b_W_init 4 = .ok (.aload_n 0, 1) := by decide +kernel
theorem d_W_init_5 : decode b_W_init 5 = .ok (.sipush 1024, 3) := by decide +kernel
theorem d_W_init_8 : decode b_W_init 8 = .ok (.newarray .byte, 2) := by decide +kernel
theorem d_W_init_10 : decode b_W_init 10 = .ok (.putfield 9, 3) := by decide +kernel
theorem d_W_init_13 : decode b_W_init 13 = .ok (.return_, 1) := by decide +kernel
theorem d_W_weighedPart_0 : decode b_W_weighedPart 0 = .ok (.iconst 0, 1) := by decide +kernel
theorem d_W_weighedPart_1 : decode b_W_weighedPart 1 = .ok (.istore 4, 2) := by decide +kernel
theorem d_W_weighedPart_3 : decode b_W_weighedPart 3 = .ok (.iload_n 3, 1) := by decide +kernel
theorem d_W_weighedPart_4 : decode b_W_weighedPart 4 = .ok (.istore 5, 2) := by decide +kernel
theorem d_W_weighedPart_6 : decode b_W_weighedPart 6 = .ok (.iload_n 1, 1) := by decide +kernel
theorem d_W_weighedPart_7 : decode b_W_weighedPart 7 = .ok (.iconst 0, 1) := by decide +kernel
theorem d_W_weighedPart_8 : decode b_W_weighedPart 8 = .ok (.invokestatic 15, 3) := by decide +kernel
theorem d_W_weighedPart_11 : decode b_W_weighedPart 11 = .ok (.istore 6, 2) := by decide +kernel
theorem d_W_weighedPart_13 : decode b_W_weighedPart 13 = .ok (.iload 6, 2) := by decide +kernel
theorem d_W_weighedPart_15 : decode b_W_weighedPart 15 = .ok (.iload_n 2, 1) := by decide +kernel
theorem d_W_weighedPart_16 : decode b_W_weighedPart 16 = .ok (.aload_n 0, 1) := by decide +kernel
theorem d_W_weighedPart_17 : decode b_W_weighedPart 17 = .ok (.getfield 9, 3) := by decide +kernel
theorem d_W_weighedPart_20 : decode b_W_weighedPart 20 = .ok (.arraylength, 1) := by decide +kernel
theorem d_W_weighedPart_21 : decode b_W_weighedPart 21 = .ok (.invokestatic 21, 3) := by decide +kernel
theorem d_W_weighedPart_24 : decode b_W_weighedPart 24 = .ok (.if_icmp .ge 31, 3) := by decide +kernel
theorem d_W_weighedPart_27 : decode b_W_weighedPart 27 = .ok (.iload 4, 2) := by decide +kernel
theorem d_W_weighedPart_29 : decode b_W_weighedPart 29 = .ok (.aload_n 0, 1) := by decide +kernel
theorem d_W_weighedPart_30 : decode b_W_weighedPart 30 = .ok (.getfield 9, 3) := by decide +kernel
theorem d_W_weighedPart_33 : decode b_W_weighedPart 33 = .ok (.iload 6, 2) := by decide +kernel
theorem d_W_weighedPart_35 : decode b_W_weighedPart 35 = .ok (.baload, 1) := by decide +kernel
theorem d_W_weighedPart_36 : decode b_W_weighedPart 36 = .ok (.sipush 255, 3) := by decide +kernel
theorem d_W_weighedPart_39 : decode b_W_weighedPart 39 = .ok (.iand, 1) := by decide +kernel
theorem d_W_weighedPart_40 : decode b_W_weighedPart 40 = .ok (.iload 5, 2) := by decide +kernel
theorem d_W_weighedPart_42 : decode b_W_weighedPart 42 = .ok (.imul, 1) := by decide +kernel
theorem d_W_weighedPart_43 : decode b_W_weighedPart 43 = .ok (.iadd, 1) := by decide +kernel
theorem d_W_weighedPart_44 : decode b_W_weighedPart 44 = .ok (.istore 4, 2) := by decide +kernel
theorem d_W_weighedPart_46 : decode b_W_weighedPart 46 = .ok (.iinc 5 (-1), 3) := by decide +kernel
theorem d_W_weighedPart_49 : decode b_W_weighedPart 49 = .ok (.iinc 6 1, 3) := by decide +kernel
theorem d_W_weighedPart_52 : decode b_W_weighedPart 52 = .ok (.goto (-39), 3) := by decide +kernel
theorem d_W_weighedPart_55 : decode b_W_weighedPart 55 = .ok (.iload 4, 2) := by decide +kernel
theorem d_W_weighedPart_57 : decode b_W_weighedPart 57 = .ok (.ireturn, 1) := by decide +kernel
end
section
theorem d_L_law_0 : decode code 0 = .ok (.new 8, 3) := by decide +kernel
theorem d_L_law_3 : decode code 3 = .ok (.dup, 1) := by decide +kernel
theorem d_L_law_4 : decode code 4 = .ok (.invokespecial 48, 3) := by decide +kernel
theorem d_L_law_7 : decode code 7 = .ok (.astore_n 1, 1) := by decide +kernel
theorem d_L_law_8 : decode code 8 = .ok (.new 49, 3) := by decide +kernel
theorem d_L_law_11 : decode code 11 = .ok (.dup, 1) := by decide +kernel
theorem d_L_law_12 : decode code 12 = .ok (.invokespecial 51, 3) := by decide +kernel
theorem d_L_law_15 : decode code 15 = .ok (.astore_n 2, 1) := by decide +kernel
theorem d_L_law_16 : decode code 16 = .ok (.iconst 1, 1) := by decide +kernel
theorem d_L_law_17 : decode code 17 = .ok (.newarray .long, 2) := by decide +kernel
theorem d_L_law_19 : decode code 19 = .ok (.astore_n 3, 1) := by decide +kernel
theorem d_L_law_20 : decode code 20 = .ok (.iconst 0, 1) := by decide +kernel
theorem d_L_law_21 : decode code 21 = .ok (.istore 4, 2) := by decide +kernel
theorem d_L_law_23 : decode code 23 = .ok (.iload 4, 2) := by decide +kernel
theorem d_L_law_25 : decode code 25 = .ok (.aload_n 0, 1) := by decide +kernel
theorem d_L_law_26 : decode code 26 = .ok (.arraylength, 1) := by decide +kernel
theorem d_L_law_27 : decode code 27 = .ok (.bipush 7, 2) := by decide +kernel
theorem d_L_law_29 : decode code 29 = .ok (.isub, 1) := by decide +kernel
theorem d_L_law_30 : decode code 30 = .ok (.if_icmp .gt 716, 3) := by decide +kernel
theorem d_L_law_33 : decode code 33 = .ok (.aload_n 0, 1) := by decide +kernel
theorem d_L_law_34 : decode code 34 = .ok (.iload 4, 2) := by decide +kernel
theorem d_L_law_36 : decode code 36 = .ok (.iaload, 1) := by decide +kernel
theorem d_L_law_37 : decode code 37 = .ok (.bipush 7, 2) := by decide +kernel
theorem d_L_law_39 : decode code 39 = .ok (.iand, 1) := by decide +kernel
theorem d_L_law_40 : decode code 40 = .ok (.tableswitch 700 0 7 #[48, 116, 172, 240, 327, 418, 536, 620], 48) := by decide +kernel
theorem d_L_law_88 : decode code 88 = .ok (.aload_n 1, 1) := by decide +kernel
theorem d_L_law_89 : decode code 89 = .ok (.aload_n 0, 1) := by decide +kernel
theorem d_L_law_90 : decode code 90 = .ok (.iload 4, 2) := by decide +kernel
theorem d_L_law_92 : decode code 92 = .ok (.iconst 1, 1) := by decide +kernel
theorem d_L_law_93 : decode code 93 = .ok (.iadd, 1) := by decide +kernel
theorem d_L_law_94 : decode code 94 = .ok (.iaload, 1) := by decide +kernel
theorem d_L_law_95 : decode code 95 = .ok (.aload_n 0, 1) := by decide +kernel
theorem d_L_law_96 : decode code 96 = .ok (.iload 4, 2) := by decide +kernel
theorem d_L_law_98 : decode code 98 = .ok (.iconst 2, 1) := by decide +kernel
theorem d_L_law_99 : decode code 99 = .ok (.iadd, 1) := by decide +kernel
theorem d_L_law_100 : decode code 100 = .ok (.iaload, 1) := by decide +kernel
theorem d_L_law_101 : decode code 101 = .ok (.aload_n 3, 1) := by decide +kernel
theorem d_L_law_102 : decode code 102 = .ok (.invokestatic 52, 3) := by decide +kernel
theorem d_L_law_105 : decode code 105 = .ok (.istore 5, 2) := by decide +kernel
theorem d_L_law_107 : decode code 107 = .ok (.aload_n 2, 1) := by decide +kernel
theorem d_L_law_108 : decode code 108 = .ok (.aload_n 0, 1) := by decide +kernel
theorem d_L_law_109 : decode code 109 = .ok (.iload 4, 2) := by decide +kernel
theorem d_L_law_111 : decode code 111 = .ok (.iconst 1, 1) := by decide +kernel
theorem d_L_law_112 : decode code 112 = .ok (.iadd, 1) := by decide +kernel
theorem d_L_law_113 : decode code 113 = .ok (.iaload, 1) := by decide +kernel
theorem d_L_law_114 : decode code 114 = .ok (.aload_n 0, 1) := by decide +kernel
theorem d_L_law_115 : decode code 115 = .ok (.iload 4, 2) := by decide +kernel
theorem d_L_law_117 : decode code 117 = .ok (.iconst 2, 1) := by decide +kernel
theorem d_L_law_118 : decode code 118 = .ok (.iadd, 1) := by decide +kernel
theorem d_L_law_119 : decode code 119 = .ok (.iaload, 1) := by decide +kernel
theorem d_L_law_120 : decode code 120 = .ok (.invokevirtual 57, 3) := by decide +kernel
theorem d_L_law_123 : decode code 123 = .ok (.istore 6, 2) := by decide +kernel
theorem d_L_law_125 : decode code 125 = .ok (.aload_n 2, 1) := by decide +kernel
theorem d_L_law_126 : decode code 126 = .ok (.invokevirtual 58, 3) := by decide +kernel
theorem d_L_law_129 : decode code 129 = .ok (.iload 5, 2) := by decide +kernel
theorem d_L_law_131 : decode code 131 = .ok (.if_icmp .eq 5, 3) := by decide +kernel
theorem d_L_law_134 : decode code 134 = .ok (.iconst 0, 1) := by decide +kernel
theorem d_L_law_135 : decode code 135 = .ok (.ireturn, 1) := by decide +kernel
theorem d_L_law_136 : decode code 136 = .ok (.iload 5, 2) := by decide +kernel
theorem d_L_law_138 : decode code 138 = .ok (.ifCond .ne 15, 3) := by decide +kernel
theorem d_L_law_141 : decode code 141 = .ok (.aload_n 3, 1) := by decide +kernel
theorem d_L_law_142 : decode code 142 = .ok (.iconst 0, 1) := by decide +kernel
theorem d_L_law_143 : decode code 143 = .ok (.laload, 1) := by decide +kernel
theorem d_L_law_144 : decode code 144 = .ok (.iload 6, 2) := by decide +kernel
theorem d_L_law_146 : decode code 146 = .ok (.i2l, 1) := by decide +kernel
theorem d_L_law_147 : decode code 147 = .ok (.lcmp, 1) := by decide +kernel
theorem d_L_law_148 : decode code 148 = .ok (.ifCond .eq 5, 3) := by decide +kernel
theorem d_L_law_151 : decode code 151 = .ok (.iconst 0, 1) := by decide +kernel
theorem d_L_law_152 : decode code 152 = .ok (.ireturn, 1) := by decide +kernel
theorem d_L_law_153 : decode code 153 = .ok (.goto 587, 3) := by decide +kernel
theorem d_L_law_156 : decode code 156 = .ok (.aload_n 1, 1) := by decide +kernel
theorem d_L_law_157 : decode code 157 = .ok (.aload_n 0, 1) := by decide +kernel
theorem d_L_law_158 : decode code 158 = .ok (.iload 4, 2) := by decide +kernel
theorem d_L_law_160 : decode code 160 = .ok (.iconst 1, 1) := by decide +kernel
theorem d_L_law_161 : decode code 161 = .ok (.iadd, 1) := by decide +kernel
theorem d_L_law_162 : decode code 162 = .ok (.iaload, 1) := by decide +kernel
theorem d_L_law_163 : decode code 163 = .ok (.aload_n 3, 1) := by decide +kernel
theorem d_L_law_164 : decode code 164 = .ok (.invokestatic 62, 3) := by decide +kernel
theorem d_L_law_167 : decode code 167 = .ok (.istore 5, 2) := by decide +kernel
theorem d_L_law_169 : decode code 169 = .ok (.aload_n 2, 1) := by decide +kernel
theorem d_L_law_170 : decode code 170 = .ok (.aload_n 0, 1) := by decide +kernel
theorem d_L_law_171 : decode code 171 = .ok (.iload 4, 2) := by decide +kernel
theorem d_L_law_173 : decode code 173 = .ok (.iconst 1, 1) := by decide +kernel
theorem d_L_law_174 : decode code 174 = .ok (.iadd, 1) := by decide +kernel
theorem d_L_law_175 : decode code 175 = .ok (.iaload, 1) := by decide +kernel
theorem d_L_law_176 : decode code 176 = .ok (.invokevirtual 65, 3) := by decide +kernel
theorem d_L_law_179 : decode code 179 = .ok (.istore 6, 2) := by decide +kernel
theorem d_L_law_181 : decode code 181 = .ok (.aload_n 2, 1) := by decide +kernel
theorem d_L_law_182 : decode code 182 = .ok (.invokevirtual 58, 3) := by decide +kernel
theorem d_L_law_185 : decode code 185 = .ok (.iload 5, 2) := by decide +kernel
theorem d_L_law_187 : decode code 187 = .ok (.if_icmp .eq 5, 3) := by decide +kernel
theorem d_L_law_190 : decode code 190 = .ok (.iconst 0, 1) := by decide +kernel
theorem d_L_law_191 : decode code 191 = .ok (.ireturn, 1) := by decide +kernel
theorem d_L_law_192 : decode code 192 = .ok (.iload 5, 2) := by decide +kernel
theorem d_L_law_194 : decode code 194 = .ok (.ifCond .ne 15, 3) := by decide +kernel
theorem d_L_law_197 : decode code 197 = .ok (.aload_n 3, 1) := by decide +kernel
theorem d_L_law_198 : decode code 198 = .ok (.iconst 0, 1) := by decide +kernel
theorem d_L_law_199 : decode code 199 = .ok (.laload, 1) := by decide +kernel
theorem d_L_law_200 : decode code 200 = .ok (.iload 6, 2) := by decide +kernel
theorem d_L_law_202 : decode code 202 = .ok (.i2l, 1) := by decide +kernel
theorem d_L_law_203 : decode code 203 = .ok (.lcmp, 1) := by decide +kernel
theorem d_L_law_204 : decode code 204 = .ok (.ifCond .eq 5, 3) := by decide +kernel
theorem d_L_law_207 : decode code 207 = .ok (.iconst 0, 1) := by decide +kernel
theorem d_L_law_208 : decode code 208 = .ok (.ireturn, 1) := by decide +kernel
theorem d_L_law_209 : decode code 209 = .ok (.goto 531, 3) := by decide +kernel
theorem d_L_law_212 : decode code 212 = .ok (.aload_n 1, 1) := by decide +kernel
theorem d_L_law_213 : decode code 213 = .ok (.aload_n 0, 1) := by decide +kernel
theorem d_L_law_214 : decode code 214 = .ok (.iload 4, 2) := by decide +kernel
theorem d_L_law_216 : decode code 216 = .ok (.iconst 1, 1) := by decide +kernel
theorem d_L_law_217 : decode code 217 = .ok (.iadd, 1) := by decide +kernel
theorem d_L_law_218 : decode code 218 = .ok (.iaload, 1) := by decide +kernel
theorem d_L_law_219 : decode code 219 = .ok (.aload_n 0, 1) := by decide +kernel
theorem d_L_law_220 : decode code 220 = .ok (.iload 4, 2) := by decide +kernel
theorem d_L_law_222 : decode code 222 = .ok (.iconst 2, 1) := by decide +kernel
theorem d_L_law_223 : decode code 223 = .ok (.iadd, 1) := by decide +kernel
theorem d_L_law_224 : decode code 224 = .ok (.iaload, 1) := by decide +kernel
theorem d_L_law_225 : decode code 225 = .ok (.aload_n 3, 1) := by decide +kernel
theorem d_L_law_226 : decode code 226 = .ok (.invokestatic 66, 3) := by decide +kernel
theorem d_L_law_229 : decode code 229 = .ok (.istore 5, 2) := by decide +kernel
theorem d_L_law_231 : decode code 231 = .ok (.aload_n 2, 1) := by decide +kernel
theorem d_L_law_232 : decode code 232 = .ok (.aload_n 0, 1) := by decide +kernel
theorem d_L_law_233 : decode code 233 = .ok (.iload 4, 2) := by decide +kernel
theorem d_L_law_235 : decode code 235 = .ok (.iconst 1, 1) := by decide +kernel
theorem d_L_law_236 : decode code 236 = .ok (.iadd, 1) := by decide +kernel
theorem d_L_law_237 : decode code 237 = .ok (.iaload, 1) := by decide +kernel
theorem d_L_law_238 : decode code 238 = .ok (.aload_n 0, 1) := by decide +kernel
theorem d_L_law_239 : decode code 239 = .ok (.iload 4, 2) := by decide +kernel
theorem d_L_law_241 : decode code 241 = .ok (.iconst 2, 1) := by decide +kernel
theorem d_L_law_242 : decode code 242 = .ok (.iadd, 1) := by decide +kernel
theorem d_L_law_243 : decode code 243 = .ok (.iaload, 1) := by decide +kernel
theorem d_L_law_244 : decode code 244 = .ok (.invokevirtual 68, 3) := by decide +kernel
theorem d_L_law_247 : decode code 247 = .ok (.istore 6, 2) := by decide +kernel
theorem d_L_law_249 : decode code 249 = .ok (.aload_n 2, 1) := by decide +kernel
theorem d_L_law_250 : decode code 250 = .ok (.invokevirtual 58, 3) := by decide +kernel
theorem d_L_law_253 : decode code 253 = .ok (.iload 5, 2) := by decide +kernel
theorem d_L_law_255 : decode code 255 = .ok (.if_icmp .eq 5, 3) := by decide +kernel
theorem d_L_law_258 : decode code 258 = .ok (.iconst 0, 1) := by decide +kernel
theorem d_L_law_259 : decode code 259 = .ok (.ireturn, 1) := by decide +kernel
theorem d_L_law_260 : decode code 260 = .ok (.iload 5, 2) := by decide +kernel
theorem d_L_law_262 : decode code 262 = .ok (.ifCond .ne 15, 3) := by decide +kernel
theorem d_L_law_265 : decode code 265 = .ok (.aload_n 3, 1) := by decide +kernel
theorem d_L_law_266 : decode code 266 = .ok (.iconst 0, 1) := by decide +kernel
theorem d_L_law_267 : decode code 267 = .ok (.laload, 1) := by decide +kernel
theorem d_L_law_268 : decode code 268 = .ok (.iload 6, 2) := by decide +kernel
theorem d_L_law_270 : decode code 270 = .ok (.i2l, 1) := by decide +kernel
theorem d_L_law_271 : decode code 271 = .ok (.lcmp, 1) := by decide +kernel
theorem d_L_law_272 : decode code 272 = .ok (.ifCond .eq 5, 3) := by decide +kernel
theorem d_L_law_275 : decode code 275 = .ok (.iconst 0, 1) := by decide +kernel
theorem d_L_law_276 : decode code 276 = .ok (.ireturn, 1) := by decide +kernel
theorem d_L_law_277 : decode code 277 = .ok (.goto 463, 3) := by decide +kernel
theorem d_L_law_280 : decode code 280 = .ok (.aload_n 1, 1) := by decide +kernel
theorem d_L_law_281 : decode code 281 = .ok (.aload_n 0, 1) := by decide +kernel
theorem d_L_law_282 : decode code 282 = .ok (.iload 4, 2) := by decide +kernel
theorem d_L_law_284 : decode code 284 = .ok (.iconst 1, 1) := by decide +kernel
theorem d_L_law_285 : decode code 285 = .ok (.iadd, 1) := by decide +kernel
theorem d_L_law_286 : decode code 286 = .ok (.iaload, 1) := by decide +kernel
theorem d_L_law_287 : decode code 287 = .ok (.aload_n 0, 1) := by decide +kernel
theorem d_L_law_288 : decode code 288 = .ok (.iload 4, 2) := by decide +kernel
theorem d_L_law_290 : decode code 290 = .ok (.iconst 2, 1) := by decide +kernel
theorem d_L_law_291 : decode code 291 = .ok (.iadd, 1) := by decide +kernel
theorem d_L_law_292 : decode code 292 = .ok (.iaload, 1) := by decide +kernel
theorem d_L_law_293 : decode code 293 = .ok (.aload_n 0, 1) := by decide +kernel
theorem d_L_law_294 : decode code 294 = .ok (.iload 4, 2) := by decide +kernel
theorem d_L_law_296 : decode code 296 = .ok (.iconst 3, 1) := by decide +kernel
theorem d_L_law_297 : decode code 297 = .ok (.iadd, 1) := by decide +kernel
theorem d_L_law_298 : decode code 298 = .ok (.iaload, 1) := by decide +kernel
theorem d_L_law_299 : decode code 299 = .ok (.aload_n 3, 1) := by decide +kernel
theorem d_L_law_300 : decode code 300 = .ok (.invokestatic 69, 3) := by decide +kernel
theorem d_L_law_303 : decode code 303 = .ok (.istore 5, 2) := by decide +kernel
theorem d_L_law_305 : decode code 305 = .ok (.aload_n 2, 1) := by decide +kernel
theorem d_L_law_306 : decode code 306 = .ok (.aload_n 0, 1) := by decide +kernel
theorem d_L_law_307 : decode code 307 = .ok (.iload 4, 2) := by decide +kernel
theorem d_L_law_309 : decode code 309 = .ok (.iconst 1, 1) := by decide +kernel
theorem d_L_law_310 : decode code 310 = .ok (.iadd, 1) := by decide +kernel
theorem d_L_law_311 : decode code 311 = .ok (.iaload, 1) := by decide +kernel
theorem d_L_law_312 : decode code 312 = .ok (.aload_n 0, 1) := by decide +kernel
theorem d_L_law_313 : decode code 313 = .ok (.iload 4, 2) := by decide +kernel
theorem d_L_law_315 : decode code 315 = .ok (.iconst 2, 1) := by decide +kernel
theorem d_L_law_316 : decode code 316 = .ok (.iadd, 1) := by decide +kernel
theorem d_L_law_317 : decode code 317 = .ok (.iaload, 1) := by decide +kernel
theorem d_L_law_318 : decode code 318 = .ok (.aload_n 0, 1) := by decide +kernel
theorem d_L_law_319 : decode code 319 = .ok (.iload 4, 2) := by decide +kernel
theorem d_L_law_321 : decode code 321 = .ok (.iconst 3, 1) := by decide +kernel
theorem d_L_law_322 : decode code 322 = .ok (.iadd, 1) := by decide +kernel
theorem d_L_law_323 : decode code 323 = .ok (.iaload, 1) := by decide +kernel
theorem d_L_law_324 : decode code 324 = .ok (.invokevirtual 72, 3) := by decide +kernel
theorem d_L_law_327 : decode code 327 = .ok (.istore 6, 2) := by decide +kernel
theorem d_L_law_329 : decode code 329 = .ok (.aload_n 2, 1) := by decide +kernel
theorem d_L_law_330 : decode code 330 = .ok (.invokevirtual 58, 3) := by decide +kernel
theorem d_L_law_333 : decode code 333 = .ok (.iload 5, 2) := by decide +kernel
theorem d_L_law_335 : decode code 335 = .ok (.if_icmp .eq 5, 3) := by decide +kernel
theorem d_L_law_338 : decode code 338 = .ok (.iconst 0, 1) := by decide +kernel
theorem d_L_law_339 : decode code 339 = .ok (.ireturn, 1) := by decide +kernel
theorem d_L_law_340 : decode code 340 = .ok (.iload 5, 2) := by decide +kernel
theorem d_L_law_342 : decode code 342 = .ok (.ifCond .ne 22, 3) := by decide +kernel
theorem d_L_law_345 : decode code 345 = .ok (.aload_n 3, 1) := by decide +kernel
theorem d_L_law_346 : decode code 346 = .ok (.iconst 0, 1) := by decide +kernel
theorem d_L_law_347 : decode code 347 = .ok (.laload, 1) := by decide +kernel
theorem d_L_law_348 : decode code 348 = .ok (.iload 6, 2) := by decide +kernel
theorem d_L_law_350 : decode code 350 = .ok (.ifCond .eq 7, 3) := by decide +kernel
theorem d_L_law_353 : decode code 353 = .ok (.lconst 1, 1) := by decide +kernel
theorem d_L_law_354 : decode code 354 = .ok (.goto 4, 3) := by decide +kernel
theorem d_L_law_357 : decode code 357 = .ok (.lconst 0, 1) := by decide +kernel
theorem d_L_law_358 : decode code 358 = .ok (.lcmp, 1) := by decide +kernel
theorem d_L_law_359 : decode code 359 = .ok (.ifCond .eq 5, 3) := by decide +kernel
theorem d_L_law_362 : decode code 362 = .ok (.iconst 0, 1) := by decide +kernel
theorem d_L_law_363 : decode code 363 = .ok (.ireturn, 1) := by decide +kernel
theorem d_L_law_364 : decode code 364 = .ok (.goto 376, 3) := by decide +kernel
theorem d_L_law_367 : decode code 367 = .ok (.aload_n 1, 1) := by decide +kernel
theorem d_L_law_368 : decode code 368 = .ok (.aload_n 0, 1) := by decide +kernel
theorem d_L_law_369 : decode code 369 = .ok (.iload 4, 2) := by decide +kernel
theorem d_L_law_371 : decode code 371 = .ok (.iconst 1, 1) := by decide +kernel
theorem d_L_law_372 : decode code 372 = .ok (.iadd, 1) := by decide +kernel
theorem d_L_law_373 : decode code 373 = .ok (.iaload, 1) := by decide +kernel
theorem d_L_law_374 : decode code 374 = .ok (.aload_n 0, 1) := by decide +kernel
theorem d_L_law_375 : decode code 375 = .ok (.iload 4, 2) := by decide +kernel
theorem d_L_law_377 : decode code 377 = .ok (.iconst 2, 1) := by decide +kernel
theorem d_L_law_378 : decode code 378 = .ok (.iadd, 1) := by decide +kernel
theorem d_L_law_379 : decode code 379 = .ok (.iaload, 1) := by decide +kernel
theorem d_L_law_380 : decode code 380 = .ok (.aload_n 0, 1) := by decide +kernel
theorem d_L_law_381 : decode code 381 = .ok (.iload 4, 2) := by decide +kernel
theorem d_L_law_383 : decode code 383 = .ok (.iconst 3, 1) := by decide +kernel
theorem d_L_law_384 : decode code 384 = .ok (.iadd, 1) := by decide +kernel
theorem d_L_law_385 : decode code 385 = .ok (.iaload, 1) := by decide +kernel
theorem d_L_law_386 : decode code 386 = .ok (.aload_n 0, 1) := by decide +kernel
theorem d_L_law_387 : decode code 387 = .ok (.iload 4, 2) := by decide +kernel
theorem d_L_law_389 : decode code 389 = .ok (.iconst 4, 1) := by decide +kernel
theorem d_L_law_390 : decode code 390 = .ok (.iadd, 1) := by decide +kernel
theorem d_L_law_391 : decode code 391 = .ok (.iaload, 1) := by decide +kernel
theorem d_L_law_392 : decode code 392 = .ok (.aload_n 3, 1) := by decide +kernel
theorem d_L_law_393 : decode code 393 = .ok (.invokestatic 73, 3) := by decide +kernel
theorem d_L_law_396 : decode code 396 = .ok (.istore 5, 2) := by decide +kernel
theorem d_L_law_398 : decode code 398 = .ok (.aload_n 2, 1) := by decide +kernel
theorem d_L_law_399 : decode code 399 = .ok (.aload_n 0, 1) := by decide +kernel
theorem d_L_law_400 : decode code 400 = .ok (.iload 4, 2) := by decide +kernel
theorem d_L_law_402 : decode code 402 = .ok (.iconst 1, 1) := by decide +kernel
theorem d_L_law_403 : decode code 403 = .ok (.iadd, 1) := by decide +kernel
theorem d_L_law_404 : decode code 404 = .ok (.iaload, 1) := by decide +kernel
theorem d_L_law_405 : decode code 405 = .ok (.aload_n 0, 1) := by decide +kernel
theorem d_L_law_406 : decode code 406 = .ok (.iload 4, 2) := by decide +kernel
theorem d_L_law_408 : decode code 408 = .ok (.iconst 2, 1) := by decide +kernel
theorem d_L_law_409 : decode code 409 = .ok (.iadd, 1) := by decide +kernel
theorem d_L_law_410 : decode code 410 = .ok (.iaload, 1) := by decide +kernel
theorem d_L_law_411 : decode code 411 = .ok (.aload_n 0, 1) := by decide +kernel
theorem d_L_law_412 : decode code 412 = .ok (.iload 4, 2) := by decide +kernel
theorem d_L_law_414 : decode code 414 = .ok (.iconst 3, 1) := by decide +kernel
theorem d_L_law_415 : decode code 415 = .ok (.iadd, 1) := by decide +kernel
theorem d_L_law_416 : decode code 416 = .ok (.iaload, 1) := by decide +kernel
theorem d_L_law_417 : decode code 417 = .ok (.aload_n 0, 1) := by decide +kernel
theorem d_L_law_418 : decode code 418 = .ok (.iload 4, 2) := by decide +kernel
theorem d_L_law_420 : decode code 420 = .ok (.iconst 4, 1) := by decide +kernel
theorem d_L_law_421 : decode code 421 = .ok (.iadd, 1) := by decide +kernel
theorem d_L_law_422 : decode code 422 = .ok (.iaload, 1) := by decide +kernel
theorem d_L_law_423 : decode code 423 = .ok (.invokevirtual 76, 3) := by decide +kernel
theorem d_L_law_426 : decode code 426 = .ok (.lstore 6, 2) := by decide +kernel
theorem d_L_law_428 : decode code 428 = .ok (.aload_n 2, 1) := by decide +kernel
theorem d_L_law_429 : decode code 429 = .ok (.invokevirtual 58, 3) := by decide +kernel
theorem d_L_law_432 : decode code 432 = .ok (.iload 5, 2) := by decide +kernel
theorem d_L_law_434 : decode code 434 = .ok (.if_icmp .eq 5, 3) := by decide +kernel
theorem d_L_law_437 : decode code 437 = .ok (.iconst 0, 1) := by decide +kernel
theorem d_L_law_438 : decode code 438 = .ok (.ireturn, 1) := by decide +kernel
theorem d_L_law_439 : decode code 439 = .ok (.iload 5, 2) := by decide +kernel
theorem d_L_law_441 : decode code 441 = .ok (.ifCond .ne 14, 3) := by decide +kernel
theorem d_L_law_444 : decode code 444 = .ok (.aload_n 3, 1) := by decide +kernel
theorem d_L_law_445 : decode code 445 = .ok (.iconst 0, 1) := by decide +kernel
theorem d_L_law_446 : decode code 446 = .ok (.laload, 1) := by decide +kernel
theorem d_L_law_447 : decode code 447 = .ok (.lload 6, 2) := by decide +kernel
theorem d_L_law_449 : decode code 449 = .ok (.lcmp, 1) := by decide +kernel
theorem d_L_law_450 : decode code 450 = .ok (.ifCond .eq 5, 3) := by decide +kernel
theorem d_L_law_453 : decode code 453 = .ok (.iconst 0, 1) := by decide +kernel
theorem d_L_law_454 : decode code 454 = .ok (.ireturn, 1) := by decide +kernel
theorem d_L_law_455 : decode code 455 = .ok (.goto 285, 3) := by decide +kernel
theorem d_L_law_458 : decode code 458 = .ok (.aload_n 1, 1) := by decide +kernel
theorem d_L_law_459 : decode code 459 = .ok (.aload_n 0, 1) := by decide +kernel
theorem d_L_law_460 : decode code 460 = .ok (.iload 4, 2) := by decide +kernel
theorem d_L_law_462 : decode code 462 = .ok (.iconst 1, 1) := by decide +kernel
theorem d_L_law_463 : decode code 463 = .ok (.iadd, 1) := by decide +kernel
theorem d_L_law_464 : decode code 464 = .ok (.iaload, 1) := by decide +kernel
theorem d_L_law_465 : decode code 465 = .ok (.aload_n 0, 1) := by decide +kernel
theorem d_L_law_466 : decode code 466 = .ok (.iload 4, 2) := by decide +kernel
theorem d_L_law_468 : decode code 468 = .ok (.iconst 2, 1) := by decide +kernel
theorem d_L_law_469 : decode code 469 = .ok (.iadd, 1) := by decide +kernel
theorem d_L_law_470 : decode code 470 = .ok (.iaload, 1) := by decide +kernel
theorem d_L_law_471 : decode code 471 = .ok (.aload_n 0, 1) := by decide +kernel
theorem d_L_law_472 : decode code 472 = .ok (.iload 4, 2) := by decide +kernel
theorem d_L_law_474 : decode code 474 = .ok (.iconst 3, 1) := by decide +kernel
theorem d_L_law_475 : decode code 475 = .ok (.iadd, 1) := by decide +kernel
theorem d_L_law_476 : decode code 476 = .ok (.iaload, 1) := by decide +kernel
theorem d_L_law_477 : decode code 477 = .ok (.aload_n 0, 1) := by decide +kernel
theorem d_L_law_478 : decode code 478 = .ok (.iload 4, 2) := by decide +kernel
theorem d_L_law_480 : decode code 480 = .ok (.iconst 4, 1) := by decide +kernel
theorem d_L_law_481 : decode code 481 = .ok (.iadd, 1) := by decide +kernel
theorem d_L_law_482 : decode code 482 = .ok (.iaload, 1) := by decide +kernel
theorem d_L_law_483 : decode code 483 = .ok (.aload_n 0, 1) := by decide +kernel
theorem d_L_law_484 : decode code 484 = .ok (.iload 4, 2) := by decide +kernel
theorem d_L_law_486 : decode code 486 = .ok (.iconst 5, 1) := by decide +kernel
theorem d_L_law_487 : decode code 487 = .ok (.iadd, 1) := by decide +kernel
theorem d_L_law_488 : decode code 488 = .ok (.iaload, 1) := by decide +kernel
theorem d_L_law_489 : decode code 489 = .ok (.i2l, 1) := by decide +kernel
theorem d_L_law_490 : decode code 490 = .ok (.bipush 32, 2) := by decide +kernel
theorem d_L_law_492 : decode code 492 = .ok (.lshl, 1) := by decide +kernel
theorem d_L_law_493 : decode code 493 = .ok (.aload_n 0, 1) := by decide +kernel
theorem d_L_law_494 : decode code 494 = .ok (.iload 4, 2) := by decide +kernel
theorem d_L_law_496 : decode code 496 = .ok (.bipush 6, 2) := by decide +kernel
theorem d_L_law_498 : decode code 498 = .ok (.iadd, 1) := by decide +kernel
theorem d_L_law_499 : decode code 499 = .ok (.iaload, 1) := by decide +kernel
theorem d_L_law_500 : decode code 500 = .ok (.i2l, 1) := by decide +kernel
theorem d_L_law_501 : decode code 501 = .ok (.ldc2_w 77, 3) := by decide +kernel
theorem d_L_law_504 : decode code 504 = .ok (.land, 1) := by decide +kernel
theorem d_L_law_505 : decode code 505 = .ok (.lor, 1) := by decide +kernel
theorem d_L_law_506 : decode code 506 = .ok (.invokestatic 79, 3) := by decide +kernel
theorem d_L_law_509 : decode code 509 = .ok (.istore 5, 2) := by decide +kernel
theorem d_L_law_511 : decode code 511 = .ok (.aload_n 2, 1) := by decide +kernel
theorem d_L_law_512 : decode code 512 = .ok (.aload_n 0, 1) := by decide +kernel
theorem d_L_law_513 : decode code 513 = .ok (.iload 4, 2) := by decide +kernel
theorem d_L_law_515 : decode code 515 = .ok (.iconst 1, 1) := by decide +kernel
theorem d_L_law_516 : decode code 516 = .ok (.iadd, 1) := by decide +kernel
theorem d_L_law_517 : decode code 517 = .ok (.iaload, 1) := by decide +kernel
theorem d_L_law_518 : decode code 518 = .ok (.aload_n 0, 1) := by decide +kernel
theorem d_L_law_519 : decode code 519 = .ok (.iload 4, 2) := by decide +kernel
theorem d_L_law_521 : decode code 521 = .ok (.iconst 2, 1) := by decide +kernel
theorem d_L_law_522 : decode code 522 = .ok (.iadd, 1) := by decide +kernel
theorem d_L_law_523 : decode code 523 = .ok (.iaload, 1) := by decide +kernel
theorem d_L_law_524 : decode code 524 = .ok (.aload_n 0, 1) := by decide +kernel
theorem d_L_law_525 : decode code 525 = .ok (.iload 4, 2) := by decide +kernel
theorem d_L_law_527 : decode code 527 = .ok (.iconst 3, 1) := by decide +kernel
theorem d_L_law_528 : decode code 528 = .ok (.iadd, 1) := by decide +kernel
theorem d_L_law_529 : decode code 529 = .ok (.iaload, 1) := by decide +kernel
theorem d_L_law_530 : decode code 530 = .ok (.aload_n 0, 1) := by decide +kernel
theorem d_L_law_531 : decode code 531 = .ok (.iload 4, 2) := by decide +kernel
theorem d_L_law_533 : decode code 533 = .ok (.iconst 4, 1) := by decide +kernel
theorem d_L_law_534 : decode code 534 = .ok (.iadd, 1) := by decide +kernel
theorem d_L_law_535 : decode code 535 = .ok (.iaload, 1) := by decide +kernel
theorem d_L_law_536 : decode code 536 = .ok (.aload_n 0, 1) := by decide +kernel
theorem d_L_law_537 : decode code 537 = .ok (.iload 4, 2) := by decide +kernel
theorem d_L_law_539 : decode code 539 = .ok (.iconst 5, 1) := by decide +kernel
theorem d_L_law_540 : decode code 540 = .ok (.iadd, 1) := by decide +kernel
theorem d_L_law_541 : decode code 541 = .ok (.iaload, 1) := by decide +kernel
theorem d_L_law_542 : decode code 542 = .ok (.i2l, 1) := by decide +kernel
theorem d_L_law_543 : decode code 543 = .ok (.bipush 32, 2) := by decide +kernel
theorem d_L_law_545 : decode code 545 = .ok (.lshl, 1) := by decide +kernel
theorem d_L_law_546 : decode code 546 = .ok (.aload_n 0, 1) := by decide +kernel
theorem d_L_law_547 : decode code 547 = .ok (.iload 4, 2) := by decide +kernel
theorem d_L_law_549 : decode code 549 = .ok (.bipush 6, 2) := by decide +kernel
theorem d_L_law_551 : decode code 551 = .ok (.iadd, 1) := by decide +kernel
theorem d_L_law_552 : decode code 552 = .ok (.iaload, 1) := by decide +kernel
theorem d_L_law_553 : decode code 553 = .ok (.i2l, 1) := by decide +kernel
theorem d_L_law_554 : decode code 554 = .ok (.ldc2_w 77, 3) := by decide +kernel
theorem d_L_law_557 : decode code 557 = .ok (.land, 1) := by decide +kernel
theorem d_L_law_558 : decode code 558 = .ok (.lor, 1) := by decide +kernel
theorem d_L_law_559 : decode code 559 = .ok (.invokevirtual 82, 3) := by decide +kernel
theorem d_L_law_562 : decode code 562 = .ok (.aload_n 2, 1) := by decide +kernel
theorem d_L_law_563 : decode code 563 = .ok (.invokevirtual 58, 3) := by decide +kernel
theorem d_L_law_566 : decode code 566 = .ok (.iload 5, 2) := by decide +kernel
theorem d_L_law_568 : decode code 568 = .ok (.if_icmp .eq 5, 3) := by decide +kernel
theorem d_L_law_571 : decode code 571 = .ok (.iconst 0, 1) := by decide +kernel
theorem d_L_law_572 : decode code 572 = .ok (.ireturn, 1) := by decide +kernel
theorem d_L_law_573 : decode code 573 = .ok (.goto 167, 3) := by decide +kernel
theorem d_L_law_576 : decode code 576 = .ok (.aload_n 1, 1) := by decide +kernel
theorem d_L_law_577 : decode code 577 = .ok (.aload_n 0, 1) := by decide +kernel
theorem d_L_law_578 : decode code 578 = .ok (.iload 4, 2) := by decide +kernel
theorem d_L_law_580 : decode code 580 = .ok (.iconst 1, 1) := by decide +kernel
theorem d_L_law_581 : decode code 581 = .ok (.iadd, 1) := by decide +kernel
theorem d_L_law_582 : decode code 582 = .ok (.iaload, 1) := by decide +kernel
theorem d_L_law_583 : decode code 583 = .ok (.aload_n 0, 1) := by decide +kernel
theorem d_L_law_584 : decode code 584 = .ok (.iload 4, 2) := by decide +kernel
theorem d_L_law_586 : decode code 586 = .ok (.iconst 2, 1) := by decide +kernel
theorem d_L_law_587 : decode code 587 = .ok (.iadd, 1) := by decide +kernel
theorem d_L_law_588 : decode code 588 = .ok (.iaload, 1) := by decide +kernel
theorem d_L_law_589 : decode code 589 = .ok (.aload_n 0, 1) := by decide +kernel
theorem d_L_law_590 : decode code 590 = .ok (.iload 4, 2) := by decide +kernel
theorem d_L_law_592 : decode code 592 = .ok (.iconst 3, 1) := by decide +kernel
theorem d_L_law_593 : decode code 593 = .ok (.iadd, 1) := by decide +kernel
theorem d_L_law_594 : decode code 594 = .ok (.iaload, 1) := by decide +kernel
theorem d_L_law_595 : decode code 595 = .ok (.aload_n 0, 1) := by decide +kernel
theorem d_L_law_596 : decode code 596 = .ok (.iload 4, 2) := by decide +kernel
theorem d_L_law_598 : decode code 598 = .ok (.iconst 4, 1) := by decide +kernel
theorem d_L_law_599 : decode code 599 = .ok (.iadd, 1) := by decide +kernel
theorem d_L_law_600 : decode code 600 = .ok (.iaload, 1) := by decide +kernel
theorem d_L_law_601 : decode code 601 = .ok (.aload_n 0, 1) := by decide +kernel
theorem d_L_law_602 : decode code 602 = .ok (.iload 4, 2) := by decide +kernel
theorem d_L_law_604 : decode code 604 = .ok (.iconst 5, 1) := by decide +kernel
theorem d_L_law_605 : decode code 605 = .ok (.iadd, 1) := by decide +kernel
theorem d_L_law_606 : decode code 606 = .ok (.iaload, 1) := by decide +kernel
theorem d_L_law_607 : decode code 607 = .ok (.invokestatic 83, 3) := by decide +kernel
theorem d_L_law_610 : decode code 610 = .ok (.istore 5, 2) := by decide +kernel
theorem d_L_law_612 : decode code 612 = .ok (.aload_n 2, 1) := by decide +kernel
theorem d_L_law_613 : decode code 613 = .ok (.aload_n 0, 1) := by decide +kernel
theorem d_L_law_614 : decode code 614 = .ok (.iload 4, 2) := by decide +kernel
theorem d_L_law_616 : decode code 616 = .ok (.iconst 1, 1) := by decide +kernel
theorem d_L_law_617 : decode code 617 = .ok (.iadd, 1) := by decide +kernel
theorem d_L_law_618 : decode code 618 = .ok (.iaload, 1) := by decide +kernel
theorem d_L_law_619 : decode code 619 = .ok (.aload_n 0, 1) := by decide +kernel
theorem d_L_law_620 : decode code 620 = .ok (.iload 4, 2) := by decide +kernel
theorem d_L_law_622 : decode code 622 = .ok (.iconst 2, 1) := by decide +kernel
theorem d_L_law_623 : decode code 623 = .ok (.iadd, 1) := by decide +kernel
theorem d_L_law_624 : decode code 624 = .ok (.iaload, 1) := by decide +kernel
theorem d_L_law_625 : decode code 625 = .ok (.aload_n 0, 1) := by decide +kernel
theorem d_L_law_626 : decode code 626 = .ok (.iload 4, 2) := by decide +kernel
theorem d_L_law_628 : decode code 628 = .ok (.iconst 3, 1) := by decide +kernel
theorem d_L_law_629 : decode code 629 = .ok (.iadd, 1) := by decide +kernel
theorem d_L_law_630 : decode code 630 = .ok (.iaload, 1) := by decide +kernel
theorem d_L_law_631 : decode code 631 = .ok (.aload_n 0, 1) := by decide +kernel
theorem d_L_law_632 : decode code 632 = .ok (.iload 4, 2) := by decide +kernel
theorem d_L_law_634 : decode code 634 = .ok (.iconst 4, 1) := by decide +kernel
theorem d_L_law_635 : decode code 635 = .ok (.iadd, 1) := by decide +kernel
theorem d_L_law_636 : decode code 636 = .ok (.iaload, 1) := by decide +kernel
theorem d_L_law_637 : decode code 637 = .ok (.aload_n 0, 1) := by decide +kernel
theorem d_L_law_638 : decode code 638 = .ok (.iload 4, 2) := by decide +kernel
theorem d_L_law_640 : decode code 640 = .ok (.iconst 5, 1) := by decide +kernel
theorem d_L_law_641 : decode code 641 = .ok (.iadd, 1) := by decide +kernel
theorem d_L_law_642 : decode code 642 = .ok (.iaload, 1) := by decide +kernel
theorem d_L_law_643 : decode code 643 = .ok (.invokevirtual 86, 3) := by decide +kernel
theorem d_L_law_646 : decode code 646 = .ok (.aload_n 2, 1) := by decide +kernel
theorem d_L_law_647 : decode code 647 = .ok (.invokevirtual 58, 3) := by decide +kernel
theorem d_L_law_650 : decode code 650 = .ok (.iload 5, 2) := by decide +kernel
theorem d_L_law_652 : decode code 652 = .ok (.if_icmp .eq 5, 3) := by decide +kernel
theorem d_L_law_655 : decode code 655 = .ok (.iconst 0, 1) := by decide +kernel
theorem d_L_law_656 : decode code 656 = .ok (.ireturn, 1) := by decide +kernel
theorem d_L_law_657 : decode code 657 = .ok (.goto 83, 3) := by decide +kernel
theorem d_L_law_660 : decode code 660 = .ok (.aload_n 1, 1) := by decide +kernel
theorem d_L_law_661 : decode code 661 = .ok (.aload_n 0, 1) := by decide +kernel
theorem d_L_law_662 : decode code 662 = .ok (.iload 4, 2) := by decide +kernel
theorem d_L_law_664 : decode code 664 = .ok (.iconst 1, 1) := by decide +kernel
theorem d_L_law_665 : decode code 665 = .ok (.iadd, 1) := by decide +kernel
theorem d_L_law_666 : decode code 666 = .ok (.iaload, 1) := by decide +kernel
theorem d_L_law_667 : decode code 667 = .ok (.aload_n 0, 1) := by decide +kernel
theorem d_L_law_668 : decode code 668 = .ok (.iload 4, 2) := by decide +kernel
theorem d_L_law_670 : decode code 670 = .ok (.iconst 2, 1) := by decide +kernel
theorem d_L_law_671 : decode code 671 = .ok (.iadd, 1) := by decide +kernel
theorem d_L_law_672 : decode code 672 = .ok (.iaload, 1) := by decide +kernel
theorem d_L_law_673 : decode code 673 = .ok (.aload_n 0, 1) := by decide +kernel
theorem d_L_law_674 : decode code 674 = .ok (.iload 4, 2) := by decide +kernel
theorem d_L_law_676 : decode code 676 = .ok (.iconst 3, 1) := by decide +kernel
theorem d_L_law_677 : decode code 677 = .ok (.iadd, 1) := by decide +kernel
theorem d_L_law_678 : decode code 678 = .ok (.iaload, 1) := by decide +kernel
theorem d_L_law_679 : decode code 679 = .ok (.aload_n 3, 1) := by decide +kernel
theorem d_L_law_680 : decode code 680 = .ok (.invokestatic 87, 3) := by decide +kernel
theorem d_L_law_683 : decode code 683 = .ok (.istore 5, 2) := by decide +kernel
theorem d_L_law_685 : decode code 685 = .ok (.aload_n 2, 1) := by decide +kernel
theorem d_L_law_686 : decode code 686 = .ok (.aload_n 0, 1) := by decide +kernel
theorem d_L_law_687 : decode code 687 = .ok (.iload 4, 2) := by decide +kernel
theorem d_L_law_689 : decode code 689 = .ok (.iconst 1, 1) := by decide +kernel
theorem d_L_law_690 : decode code 690 = .ok (.iadd, 1) := by decide +kernel
theorem d_L_law_691 : decode code 691 = .ok (.iaload, 1) := by decide +kernel
theorem d_L_law_692 : decode code 692 = .ok (.aload_n 0, 1) := by decide +kernel
theorem d_L_law_693 : decode code 693 = .ok (.iload 4, 2) := by decide +kernel
theorem d_L_law_695 : decode code 695 = .ok (.iconst 2, 1) := by decide +kernel
theorem d_L_law_696 : decode code 696 = .ok (.iadd, 1) := by decide +kernel
theorem d_L_law_697 : decode code 697 = .ok (.iaload, 1) := by decide +kernel
theorem d_L_law_698 : decode code 698 = .ok (.aload_n 0, 1) := by decide +kernel
theorem d_L_law_699 : decode code 699 = .ok (.iload 4, 2) := by decide +kernel
theorem d_L_law_701 : decode code 701 = .ok (.iconst 3, 1) := by decide +kernel
theorem d_L_law_702 : decode code 702 = .ok (.iadd, 1) := by decide +kernel
theorem d_L_law_703 : decode code 703 = .ok (.iaload, 1) := by decide +kernel
theorem d_L_law_704 : decode code 704 = .ok (.invokevirtual 89, 3) := by decide +kernel
theorem d_L_law_707 : decode code 707 = .ok (.istore 6, 2) := by decide +kernel
theorem d_L_law_709 : decode code 709 = .ok (.aload_n 2, 1) := by decide +kernel
theorem d_L_law_710 : decode code 710 = .ok (.invokevirtual 58, 3) := by decide +kernel
theorem d_L_law_713 : decode code 713 = .ok (.iload 5, 2) := by decide +kernel
theorem d_L_law_715 : decode code 715 = .ok (.if_icmp .eq 5, 3) := by decide +kernel
theorem d_L_law_718 : decode code 718 = .ok (.iconst 0, 1) := by decide +kernel
theorem d_L_law_719 : decode code 719 = .ok (.ireturn, 1) := by decide +kernel
theorem d_L_law_720 : decode code 720 = .ok (.iload 5, 2) := by decide +kernel
theorem d_L_law_722 : decode code 722 = .ok (.ifCond .ne 15, 3) := by decide +kernel
theorem d_L_law_725 : decode code 725 = .ok (.aload_n 3, 1) := by decide +kernel
theorem d_L_law_726 : decode code 726 = .ok (.iconst 0, 1) := by decide +kernel
theorem d_L_law_727 : decode code 727 = .ok (.laload, 1) := by decide +kernel
theorem d_L_law_728 : decode code 728 = .ok (.iload 6, 2) := by decide +kernel
theorem d_L_law_730 : decode code 730 = .ok (.i2l, 1) := by decide +kernel
theorem d_L_law_731 : decode code 731 = .ok (.lcmp, 1) := by decide +kernel
theorem d_L_law_732 : decode code 732 = .ok (.ifCond .eq 5, 3) := by decide +kernel
theorem d_L_law_735 : decode code 735 = .ok (.iconst 0, 1) := by decide +kernel
theorem d_L_law_736 : decode code 736 = .ok (.ireturn, 1) := by decide +kernel
theorem d_L_law_737 : decode code 737 = .ok (.goto 3, 3) := by decide +kernel
theorem d_L_law_740 : decode code 740 = .ok (.iinc 4 7, 3) := by decide +kernel
theorem d_L_law_743 : decode code 743 = .ok (.goto (-720), 3) := by decide +kernel
theorem d_L_law_746 : decode code 746 = .ok (.iconst 1, 1) := by decide +kernel
theorem d_L_law_747 : decode code 747 = .ok (.ireturn, 1) := by decide +kernel
end
section
/-! THE WORLD AS ONE POOL: L the addresses, f what lies there. Rows of the kit, said of such a world. -/
section PG
variable {p : Program} {l : Launch} {e : Env} {R : Room} {s : State} {m : MethodId} {args : Array Value} {below : List Frame} {meth : Method} {c : Code} {H : Heap} {locs : List Loc} {cells slots : Nat} {Q : State → Prop}
variable {cc : ByteArray} {pc : Nat} {ls : Array Slot} {rest : List Value} {D : va_G} {cl : List vw_C} {A : Nat → Prop} {a : Nat} {tys : List (ClassId × FieldType)} {H0 : Heap} {L : List Nat} {f : Nat → va_E}
/-- the world (L, f) stands in H, apart, within A; outside A nothing has changed since H0 -/
def pw (D : va_G) (cl : List vw_C) (A : Nat → Prop) (H0 H : Heap) (locs : List Loc) (L : List Nat) (f : Nat → va_E) : Prop :=
  va_P D cl (va_pl L f) H ∧ va_D A (va_pl L f) ∧ va_S A H0 H locs
theorem pg_at {L : List Nat} {f : Nat → va_E} {a : Nat} {e : va_E} (h : a ∈ L) (he : f a = e) : ∃ k : Nat, (va_pl L f)[k]? = some (a, e) := by
  obtain ⟨k, hk⟩ := va_pl_get (X := []) (f := f) h
  exact ⟨k, by rw [← he]; simpa using hk⟩
theorem pg_set {A : Nat → Prop} {L : List Nat} {f : Nat → va_E} {a k : Nat} {e0 e : va_E} (hD : va_D A (va_pl L f)) (h : a ∈ L) (he : f a = e0) (hk : (va_pl L f)[k]? = some (a, e0)) : (va_pl L f).set k (a, e) = va_pl L (va_up f a e) := by
  have := va_pl_set (X := []) (e := e) (by simpa using hD) h (k := k) (by rw [he]; simpa using hk)
  simpa using this
theorem pg_mem {L : List Nat} {f : Nat → va_E} {k a : Nat} {e : va_E} (h : (va_pl L f)[k]? = some (a, e)) : a ∈ L ∧ f a = e := by
  have h1 := List.mem_of_getElem? h
  obtain ⟨b, hb, hbe⟩ := List.mem_map.mp (show (a, e) ∈ L.map (fun a => (a, f a)) from h1)
  cases hbe
  exact ⟨hb, rfl⟩
theorem pg_lt (hw : pw D cl A H0 H locs L f) (h : a ∈ L) : a < H.size := va_pl_lt (X := []) (by simpa using hw.1) h
theorem pg_A (hw : pw D cl A H0 H locs L f) (h : a ∈ L) : A a := by
  obtain ⟨k, hk⟩ := pg_at (f := f) h rfl
  exact hw.2.1.2 k _ hk
/-- a new cell comes to the pool -/
theorem pg_push {A : Nat → Prop} {L : List Nat} {f : Nat → va_E} {q : Nat} {e : va_E} (hD : va_D A (va_pl L f ++ [(q, e)])) : q ∉ L ∧ va_pl L f ++ [(q, e)] = va_pl (L ++ [q]) (va_up f q e) := by
  have h : q ∉ L := va_pl_fresh2 (X := []) (f := f) (e := e) (by simpa using hD)
  exact ⟨h, va_pl_push h⟩
/-- getfield -/
theorem pg_get (hx : p.tables.exec = Jvm.exec) (hb : c.code = cc) {own C : String} {T : u_T} {N ci index : Nat} {Ts : List Cond} (hts : ∀ w ∈ Ts, w.before args s = true) (hin : ∀ w ∈ u_ws C T N, w ∈ Ts) (hown : s.vm.findClass own = some m.cls) (hK : va_K D cl tys s) (hw : pw D cl A H0 H locs L f) (ha : a ∈ L) {fs : List Value} (he : f a = .inr (ci, fs)) (hc : cl[ci]? = some (C, T, N)) (k : Nat) (hk : k < N) (hlink : (Cond.fieldLink own index (T k).1 (T k).2.1 (T k).2.2.1).before args s = true) {v : Value} (hv : fs[k]? = some v) (hdg : decode cc pc = .ok (.getfield index, 3))
    (kk : W p l e R s m args below meth c H locs cells slots Q (F0 m (pc + 3) ls (v :: rest))) : W p l e R s m args below meth c H locs cells slots Q (F0 m pc ls (.ref a :: rest)) := by
  obtain ⟨q0, h0⟩ := pg_at ha he
  exact va_get hx hb hts hin hown hK hw.1 q0 h0 hc k hk hlink (fun _ h => h) hv hdg kk
/-- putfield -/
theorem pg_put (hx : p.tables.exec = Jvm.exec) (hb : c.code = cc) {own C : String} {T : u_T} {N ci index : Nat} {Ts : List Cond} (hts : ∀ w ∈ Ts, w.before args s = true) (hin : ∀ w ∈ u_ws C T N, w ∈ Ts) (ty0 : Nat → FieldType) (hty : ∀ k, k < N → parseFieldDescriptor (T k).2.2.1 = some (ty0 k)) (hnm : ∀ a, a < N → ∀ b, b < N → a ≠ b → (T a).2.1 ≠ (T b).2.1) (hown : s.vm.findClass own = some m.cls) (hK : va_K D cl tys s) (hw : pw D cl A H0 H locs L f) (ha : a ∈ L) {fs : List Value} (he : f a = .inr (ci, fs)) (hc : cl[ci]? = some (C, T, N)) (k : Nat) (hk : k < N) (hlink : (Cond.fieldLink own index (T k).1 (T k).2.1 (T k).2.2.1).before args s = true) (hfin : (T k).2.2.2 = false) {ty : FieldType} {v : Value} (hd : parseFieldDescriptor (T k).2.2.1 = some ty) (hn : narrow ty v = v) (hfit : fits ty v = true) (hl : k < fs.length) (hdg : decode cc pc = .ok (.putfield index, 3))
    (kk : ∀ (H1 : Heap) (locs1 : List Loc), pw D cl A H0 H1 locs1 L (va_up f a (.inr (ci, fs.set k v))) → W p l e R s m args below meth c H1 locs1 cells slots Q (F0 m (pc + 3) ls rest)) : W p l e R s m args below meth c H locs cells slots Q (F0 m pc ls (v :: .ref a :: rest)) := by
  obtain ⟨q0, h0⟩ := pg_at ha he
  refine va_put hx hb hts hin ty0 hty hnm hown hK hw.1 hw.2.1 hw.2.2 q0 h0 hc k hk hlink (fun _ h => h) hfin hd hn hfit hl hdg (fun H1 locs1 h1 h2 h3 => kk H1 locs1 ⟨?_, ?_, h3⟩)
  · rw [pg_set hw.2.1 ha he h0] at h1; exact h1
  · rw [pg_set hw.2.1 ha he h0] at h2; exact h2
/-- putfield of a final field, in a constructor -/
theorem pg_putF (hx : p.tables.exec = Jvm.exec) (hb : c.code = cc) {own C : String} {T : u_T} {N ci index : Nat} {Ts : List Cond} (hts : ∀ w ∈ Ts, w.before args s = true) (hin : ∀ w ∈ u_ws C T N, w ∈ Ts) (ty0 : Nat → FieldType) (hty : ∀ k, k < N → parseFieldDescriptor (T k).2.2.1 = some (ty0 k)) (hnm : ∀ a, a < N → ∀ b, b < N → a ≠ b → (T a).2.1 ≠ (T b).2.1) (hown : s.vm.findClass own = some m.cls) (hK : va_K D cl tys s) (hw : pw D cl A H0 H locs L f) (ha : a ∈ L) {fs : List Value} (he : f a = .inr (ci, fs)) (hc : cl[ci]? = some (C, T, N)) (k : Nat) (hk : k < N) (hlink : (Cond.fieldLink own index (T k).1 (T k).2.1 (T k).2.2.1).before args s = true) (hfin : (T k).2.2.2 = true) (hin2 : meth.name = "<init>") (hdecl : (T k).1 = own) {ty : FieldType} {v : Value} (hd : parseFieldDescriptor (T k).2.2.1 = some ty) (hn : narrow ty v = v) (hfit : fits ty v = true) (hl : k < fs.length) (hdg : decode cc pc = .ok (.putfield index, 3))
    (kk : ∀ (H1 : Heap) (locs1 : List Loc), pw D cl A H0 H1 locs1 L (va_up f a (.inr (ci, fs.set k v))) → W p l e R s m args below meth c H1 locs1 cells slots Q (F0 m (pc + 3) ls rest)) : W p l e R s m args below meth c H locs cells slots Q (F0 m pc ls (v :: .ref a :: rest)) := by
  obtain ⟨q0, h0⟩ := pg_at ha he
  refine va_putF hx hb hts hin ty0 hty hnm hown hK hw.1 hw.2.1 hw.2.2 q0 h0 hc k hk hlink (fun _ h => h) hfin hin2 hdecl hd hn hfit hl hdg (fun H1 locs1 h1 h2 h3 => kk H1 locs1 ⟨?_, ?_, h3⟩)
  · rw [pg_set hw.2.1 ha he h0] at h1; exact h1
  · rw [pg_set hw.2.1 ha he h0] at h2; exact h2
/-- a byte of an array -/
theorem pg_bald (hx : p.tables.exec = Jvm.exec) (hb : c.code = cc) (hK : va_K D cl tys s) (hw : pw D cl A H0 H locs L f) (ha : a ∈ L) {cA : ClassId} {n : Nat} {g : Nat → Int32} (he : f a = .inl (cA, n, .inl g)) (t0 : Nat) (ht : tys[t0]? = some (cA, .byte)) {i : Nat} (hin : i < n) (hn : n < 2 ^ 31) (hdg : decode cc pc = .ok (.baload, 1))
    (kk : W p l e R s m args below meth c H locs cells slots Q (F0 m (pc + 1) ls (.int (g i) :: rest))) : W p l e R s m args below meth c H locs cells slots Q (F0 m pc ls (.int (nI i) :: .ref a :: rest)) := by
  obtain ⟨q0, h0⟩ := pg_at ha he
  refine va_bald hx hb hK hw.1 q0 t0 h0 ht (vp_in_nI hin hn) hdg ?_
  rw [nI_clamp (Nat.lt_trans hin hn)]
  exact kk
theorem pg_iald (hx : p.tables.exec = Jvm.exec) (hb : c.code = cc) (hK : va_K D cl tys s) (hw : pw D cl A H0 H locs L f) (ha : a ∈ L) {cA : ClassId} {n : Nat} {g : Nat → Int32} (he : f a = .inl (cA, n, .inl g)) (t0 : Nat) (ht : tys[t0]? = some (cA, .int)) {i : Nat} (hin : i < n) (hn : n < 2 ^ 31) (hdg : decode cc pc = .ok (.iaload, 1))
    (kk : W p l e R s m args below meth c H locs cells slots Q (F0 m (pc + 1) ls (.int (g i) :: rest))) : W p l e R s m args below meth c H locs cells slots Q (F0 m pc ls (.int (nI i) :: .ref a :: rest)) := by
  obtain ⟨q0, h0⟩ := pg_at ha he
  refine va_iald hx hb hK hw.1 q0 t0 h0 ht (vp_in_nI hin hn) hdg ?_
  rw [nI_clamp (Nat.lt_trans hin hn)]
  exact kk
/-- a reference of an array -/
theorem pg_aald (hx : p.tables.exec = Jvm.exec) (hb : c.code = cc) (hK : va_K D cl tys s) (hw : pw D cl A H0 H locs L f) (ha : a ∈ L) {cA : ClassId} {C : String} {n : Nat} {g : Nat → Option Nat} (he : f a = .inl (cA, n, .inr (.inr (.inr (.inr g))))) (t0 : Nat) (ht : tys[t0]? = some (cA, .object C)) {i : Nat} (hin : i < n) (hn : n < 2 ^ 31) (hdg : decode cc pc = .ok (.aaload, 1))
    (kk : W p l e R s m args below meth c H locs cells slots Q (F0 m (pc + 1) ls (va_rf (g i) :: rest))) : W p l e R s m args below meth c H locs cells slots Q (F0 m pc ls (.int (nI i) :: .ref a :: rest)) := by
  obtain ⟨q0, h0⟩ := pg_at ha he
  refine va_aldq hx hb hK hw.1 q0 t0 h0 ht (vp_in_nI hin hn) hdg ?_
  rw [nI_clamp (Nat.lt_trans hin hn)]
  exact kk
/-- a byte is put -/
theorem pg_bast (hx : p.tables.exec = Jvm.exec) (hb : c.code = cc) (hK : va_K D cl tys s) (hw : pw D cl A H0 H locs L f) (ha : a ∈ L) {cA : ClassId} {n : Nat} {g : Nat → Int32} (he : f a = .inl (cA, n, .inl g)) (t0 : Nat) (ht : tys[t0]? = some (cA, .byte)) {i : Nat} {x y : Int32} (hy : vp_nar .byte x = y) (hin : i < n) (hn : n < 2 ^ 31) (hdg : decode cc pc = .ok (.bastore, 1))
    (kk : ∀ (H1 : Heap) (locs1 : List Loc), pw D cl A H0 H1 locs1 L (va_up f a (.inl (cA, n, .inl (upd g i y)))) → W p l e R s m args below meth c H1 locs1 cells slots Q (F0 m (pc + 1) ls rest)) : W p l e R s m args below meth c H locs cells slots Q (F0 m pc ls (.int x :: .int (nI i) :: .ref a :: rest)) := by
  obtain ⟨q0, h0⟩ := pg_at ha he
  refine va_bast hx hb hK hw.1 hw.2.1 hw.2.2 q0 t0 h0 ht (vp_in_nI hin hn) hdg (fun H1 locs1 h1 h2 h3 => kk H1 locs1 ⟨?_, ?_, h3⟩)
  · rw [nI_clamp (Nat.lt_trans hin hn), hy, pg_set hw.2.1 ha he h0] at h1; exact h1
  · rw [nI_clamp (Nat.lt_trans hin hn), hy, pg_set hw.2.1 ha he h0] at h2; exact h2
theorem pg_iast (hx : p.tables.exec = Jvm.exec) (hb : c.code = cc) (hK : va_K D cl tys s) (hw : pw D cl A H0 H locs L f) (ha : a ∈ L) {cA : ClassId} {n : Nat} {g : Nat → Int32} (he : f a = .inl (cA, n, .inl g)) (t0 : Nat) (ht : tys[t0]? = some (cA, .int)) {i : Nat} {x : Int32} (hin : i < n) (hn : n < 2 ^ 31) (hdg : decode cc pc = .ok (.iastore, 1))
    (kk : ∀ (H1 : Heap) (locs1 : List Loc), pw D cl A H0 H1 locs1 L (va_up f a (.inl (cA, n, .inl (upd g i x)))) → W p l e R s m args below meth c H1 locs1 cells slots Q (F0 m (pc + 1) ls rest)) : W p l e R s m args below meth c H locs cells slots Q (F0 m pc ls (.int x :: .int (nI i) :: .ref a :: rest)) := by
  obtain ⟨q0, h0⟩ := pg_at ha he
  refine va_iast hx hb hK hw.1 hw.2.1 hw.2.2 q0 t0 h0 ht (vp_in_nI hin hn) hdg (fun H1 locs1 h1 h2 h3 => kk H1 locs1 ⟨?_, ?_, h3⟩)
  · rw [nI_clamp (Nat.lt_trans hin hn), pg_set hw.2.1 ha he h0] at h1; exact h1
  · rw [nI_clamp (Nat.lt_trans hin hn), pg_set hw.2.1 ha he h0] at h2; exact h2
/-- a reference is put -/
theorem pg_aast (hx : p.tables.exec = Jvm.exec) (hb : c.code = cc) (hK : va_K D cl tys s) (hw : pw D cl A H0 H locs L f) (ha : a ∈ L) {cA : ClassId} {r : vw_C} {n v ci : Nat} {vs : List Value} {g : Nat → Option Nat} (he : f a = .inl (cA, n, .inr (.inr (.inr (.inr g))))) (t0 : Nat) (ht : tys[t0]? = some (cA, .object r.1)) (hv : v ∈ L) (hve : f v = .inr (ci, vs)) (hc : cl[ci]? = some r) {i : Nat} (hin : i < n) (hn : n < 2 ^ 31) (hdg : decode cc pc = .ok (.aastore, 1))
    (kk : ∀ (H1 : Heap) (locs1 : List Loc), pw D cl A H0 H1 locs1 L (va_up f a (.inl (cA, n, .inr (.inr (.inr (.inr (va_up g i (some v)))))))) → W p l e R s m args below meth c H1 locs1 cells slots Q (F0 m (pc + 1) ls rest)) : W p l e R s m args below meth c H locs cells slots Q (F0 m pc ls (.ref v :: .int (nI i) :: .ref a :: rest)) := by
  obtain ⟨q0, h0⟩ := pg_at ha he
  obtain ⟨q1, h9⟩ := pg_at hv hve
  refine va_astq hx hb hK hw.1 hw.2.1 hw.2.2 q0 t0 q1 ci h0 ht h9 hc (vp_in_nI hin hn) hdg (fun H1 locs1 h1 h2 h3 => kk H1 locs1 ⟨?_, ?_, h3⟩)
  · rw [nI_clamp (Nat.lt_trans hin hn), pg_set hw.2.1 ha he h0] at h1; exact h1
  · rw [nI_clamp (Nat.lt_trans hin hn), pg_set hw.2.1 ha he h0] at h2; exact h2
/-- arraylength -/
theorem pg_alen (hx : p.tables.exec = Jvm.exec) (hb : c.code = cc) (hK : va_K D cl tys s) (hw : pw D cl A H0 H locs L f) (ha : a ∈ L) {cA : ClassId} {x : vp_A} (he : f a = .inl (cA, x)) (t0 : Nat) {ty : FieldType} (ht : tys[t0]? = some (cA, ty)) (hdg : decode cc pc = .ok (.arraylength, 1))
    (kk : W p l e R s m args below meth c H locs cells slots Q (F0 m (pc + 1) ls (.int (nI x.1) :: rest))) : W p l e R s m args below meth c H locs cells slots Q (F0 m pc ls (.ref a :: rest)) := by
  obtain ⟨q0, h0⟩ := pg_at ha he
  exact va_alen hx hb hK hw.1 q0 t0 h0 ht rfl hdg kk
/-- new -/
theorem pg_new (hx : p.tables.exec = Jvm.exec) (hb : c.code = cc) {own C : String} {T : u_T} {N ci index : Nat} {Ts : List Cond} (hts : ∀ w ∈ Ts, w.before args s = true) (hin : ∀ w ∈ u_ws C T N, w ∈ Ts) (ty : Nat → FieldType) (hty : ∀ k, k < N → parseFieldDescriptor (T k).2.2.1 = some (ty k)) (hown : s.vm.findClass own = some m.cls) (hcl : (Cond.classLink own index C).before args s = true) (hinst : (Cond.instantiable C N).before args s = true) (hini : (Cond.initialized C).before args s = true)
    (hK : va_K D cl tys s) (hw : pw D cl A H0 H locs L f) (hA : ∀ q, H0.size ≤ q → A q) (hc : cl[ci]? = some (C, T, N)) {fs : List Value} (hfs : ∀ j, j < N → defaultValue (ty j) = vp_V fs j) (hcells : cells + 1 ≤ R.cells) (hslots : slots + N ≤ R.slots) (hdg : decode cc pc = .ok (.new index, 3))
    (kk : ∀ (q : Nat) (H1 : Heap), q ∉ L → pw D cl A H0 H1 locs (L ++ [q]) (va_up f q (.inr (ci, fs))) → W p l e R s m args below meth c H1 locs (cells + 1) (slots + N) Q (F0 m (pc + 3) ls (.ref q :: rest))) : W p l e R s m args below meth c H locs cells slots Q (F0 m pc ls rest) := by
  refine va_new hx hb hts hin ty hty hown hcl hinst hini hK hw.1 hw.2.1 hw.2.2 hA hc hfs hcells hslots hdg (fun q H1 h1 h2 h3 => ?_)
  obtain ⟨hq, he⟩ := pg_push h2
  rw [he] at h1 h2
  exact kk q H1 hq ⟨h1, h2, h3⟩
/-- a new array of bytes, or of ints -/
theorem pg_newa (hx : p.tables.exec = Jvm.exec) (hb : c.code = cc) {atype : ArrayType} (harr : (Cond.arrayClass (newarray.typeOf atype)).before args s = true) {ty : FieldType} (hty : newarray.typeOf atype = ty) (hK : va_K D cl tys s) (hw : pw D cl A H0 H locs L f) (hA : ∀ q, H0.size ≤ q → A q) {N' : Nat} {a0 : vp_A} (ha : ∀ cA : ClassId, vp_cell cA a0 = arrV cA N' (fun _ => defaultValue ty)) (hn : N' < 2 ^ 31) (hbytes : N' * componentBytes ty ≤ 536870912) (hcells : cells + 1 ≤ R.cells) (hslots : slots + N' ≤ R.slots) (hdg : decode cc pc = .ok (.newarray atype, 2))
    (kk : ∀ (q : Nat) (cA : ClassId) (H1 : Heap), va_K D cl (tys ++ [(cA, ty)]) s → q ∉ L → pw D cl A H0 H1 locs (L ++ [q]) (va_up f q (.inl (cA, a0))) → W p l e R s m args below meth c H1 locs (cells + 1) (slots + N') Q (F0 m (pc + 2) ls (.ref q :: rest))) : W p l e R s m args below meth c H locs cells slots Q (F0 m pc ls (.int (nI N') :: rest)) := by
  refine va_newa hx hb harr hty hK hw.1 hw.2.1 hw.2.2 hA ha (nI_pos hn) (nI_clamp hn) hbytes hcells hslots hdg (fun q cA H1 hk h1 h2 h3 => ?_)
  obtain ⟨hq, he⟩ := pg_push h2
  rw [he] at h1 h2
  exact kk q cA H1 hk hq ⟨h1, h2, h3⟩
/-- a new array of references -/
theorem pg_newq (hx : p.tables.exec = Jvm.exec) (hb : c.code = cc) {own C : String} {index : Nat} (hown : s.vm.findClass own = some m.cls) (hclink : (Cond.classLink own index C).before args s = true) (hover : va_AO C s) (hK : va_K D cl tys s) (hw : pw D cl A H0 H locs L f) (hA : ∀ q, H0.size ≤ q → A q) {N' : Nat} (hn : N' < 2 ^ 31) (hbytes : N' * 4 ≤ 536870912) (hcells : cells + 1 ≤ R.cells) (hslots : slots + N' ≤ R.slots) (hdg : decode cc pc = .ok (.anewarray index, 3))
    (kk : ∀ (q : Nat) (cA : ClassId) (H1 : Heap), va_K D cl (tys ++ [(cA, .object C)]) s → q ∉ L → pw D cl A H0 H1 locs (L ++ [q]) (va_up f q (.inl (cA, N', .inr (.inr (.inr (.inr (fun _ => none))))))) → W p l e R s m args below meth c H1 locs (cells + 1) (slots + N') Q (F0 m (pc + 3) ls (.ref q :: rest))) : W p l e R s m args below meth c H locs cells slots Q (F0 m pc ls (.int (nI N') :: rest)) := by
  refine va_newq hx hb hown hclink hover hK hw.1 hw.2.1 hw.2.2 hA (nI_pos hn) (nI_clamp hn) hbytes hcells hslots hdg (fun q cA H1 hk h1 h2 h3 => ?_)
  obtain ⟨hq, he⟩ := pg_push h2
  rw [he] at h1 h2
  exact kk q cA H1 hk hq ⟨h1, h2, h3⟩
/-- the top of the stack under another name -/
theorem tp_i {x v : Int32} (h : x = v) (k : W p l e R s m args below meth c H locs cells slots Q (F0 m pc ls (.int v :: rest))) : W p l e R s m args below meth c H locs cells slots Q (F0 m pc ls (.int x :: rest)) := by subst h; exact k
theorem tp_l {x v : Int64} (h : x = v) (k : W p l e R s m args below meth c H locs cells slots Q (F0 m pc ls (.long v :: rest))) : W p l e R s m args below meth c H locs cells slots Q (F0 m pc ls (.long x :: rest)) := by subst h; exact k
theorem tp_v {x v : Value} (h : x = v) (k : W p l e R s m args below meth c H locs cells slots Q (F0 m pc ls (v :: rest))) : W p l e R s m args below meth c H locs cells slots Q (F0 m pc ls (x :: rest)) := by subst h; exact k
theorem tp_2 {x v : Int32} {w : Value} (h : x = v) (k : W p l e R s m args below meth c H locs cells slots Q (F0 m pc ls (w :: .int v :: rest))) : W p l e R s m args below meth c H locs cells slots Q (F0 m pc ls (w :: .int x :: rest)) := by subst h; exact k
/-- the world may be told by another function that is the same -/
theorem pw_congr {g : Nat → va_E} (hw : pw D cl A H0 H locs L f) (h : ∀ a, f a = g a) : pw D cl A H0 H locs L g := by
  have : va_pl L f = va_pl L g := va_pl_congr h
  unfold pw at hw ⊢
  rw [← this]; exact hw
end PG
end
section
/-! CONTRACTS OVER A POOL: one shape for all methods. X: what else a method needs of the machine (statics, constants), as (A, state, heap). -/
abbrev pU : Type := List Nat × (Nat → va_E)
abbrev pA (L : List Nat) (f : Nat → va_E) (sz : Nat) : Nat → Prop := va_A (va_pl L f) sz
def pX (X : (Nat → Prop) → State → Heap → Prop) : Prop := (∀ (A : Nat → Prop) (u U : State) (H : Heap), u.WarmedH U.vm → X A u H → X A U H) ∧ (∀ (A : Nat → Prop) (U : State) (H H1 : Heap), X A U H → (∀ a : Nat, a < H.size → ¬ A a → H1[a]? = H[a]?) → X A U H1) ∧ (∀ (A B : Nat → Prop) (U : State) (H : Heap), X A U H → (∀ q, B q → A q) → X B U H)
def pPc (X : (Nat → Prop) → State → Heap → Prop) (D : va_G) (cl : List vw_C) (tys : List (ClassId × FieldType)) (L : List Nat) (f : Nat → va_E) (sz : Nat) (av : List Value) : Array Value → State → Prop :=
  va_Pc av (fun U => U.heap.size = sz ∧ va_P D cl (va_pl L f) U.heap ∧ va_K D cl tys U ∧ va_D (fun _ => True) (va_pl L f) ∧ X (pA L f sz) U U.heap)
/-- the world behind a method -/
def pB (D : va_G) (cl : List vw_C) (A : Nat → Prop) (u : pU) (t : State) : Prop := va_P D cl (va_pl u.1 u.2) t.heap ∧ va_D A (va_pl u.1 u.2)
/-- .. and where it throws E -/
def pBX (D : va_G) (cl : List vw_C) (A : Nat → Prop) (ok : String → pU → Prop) (E : String) (u : pU) (t : State) : Prop := ok E u ∧ va_P D cl (va_pl u.1 u.2) t.heap ∧ va_D A (va_pl u.1 u.2)
/-- what stands through a method -/
def pF (p : Program) (m : MethodId) (c : Code) (cc : ByteArray) (nL : Nat) (s : State) (args : Array Value) (Ts : List Cond) (own : String) (meth : Method) (ret : Option FieldType) : Prop :=
  CallFix p m c cc nL s args Ts own ∧ meth.sig.returnType = ret ∧ meth.locks = false
section PC
variable {X : (Nat → Prop) → State → Heap → Prop} {D : va_G} {cl : List vw_C} {tys : List (ClassId × FieldType)} {L : List Nat} {f : Nat → va_E} {sz : Nat} {av : List Value}
theorem pPc_blind (hX : pX X) : FrameBlind (pPc X D cl tys L f sz av) := fun a U g mk q => by
  obtain ⟨q0, q1, qP, qK, qD, qX⟩ := q
  exact ⟨q0, q1, qP, va_K.moved (u := U) (U := U.calling g mk a) (Vm.Alike.refl U.vm) qK, qD, hX.1 _ U (U.calling g mk a) _ (State.WarmedH.refl U) qX⟩
variable {p : Program} {l : Launch} {e : Env} {R : Room} {s : State} {m : MethodId} {args : Array Value} {below : List Frame} {meth : Method} {c : Code} {H : Heap} {locs : List Loc} {cells slots : Nat} {Q : State → Prop} {A : Nat → Prop}
theorem pg_free (hw : pw D cl A s.heap H locs L f) (hA : ∀ q, s.heap.size ≤ q → A q) : ∀ q, pA L f H.size q → A q := fun q h => by
  rcases h with ⟨k, e, h⟩ | h
  · exact hw.2.1.2 k _ h
  · exact hA q (Nat.le_trans hw.2.2.1 h)
theorem pg_pre (hX : pX X) (hK : va_K D cl tys s) (hw : pw D cl A s.heap H locs L f) (hA : ∀ q, s.heap.size ≤ q → A q) (hx : X A s s.heap) (As : List Value) : ∀ U : State, U.heap = H → s.WarmedH U.vm → pPc X D cl tys L f H.size As As.toArray U := fun U hU hW => by
  refine ⟨rfl, by rw [hU], by rw [hU]; exact hw.1, va_K.moved hW.alike hK, hw.2.1.weaken (fun _ _ _ _ => trivial), ?_⟩
  rw [hU]
  exact hX.1 _ s U H hW (hX.2.2 _ _ _ _ (hX.2.1 _ _ _ _ hx hw.2.2.2.1) (pg_free hw hA))
theorem pg_preS (hX : pX X) (hK : va_K D cl tys s) (hw : pw D cl A s.heap H locs L f) (hA : ∀ q, s.heap.size ≤ q → A q) (hx : X A s s.heap) (As : List Value) : PreS s H (pPc X D cl tys L f H.size As) As := ⟨pPc_blind hX, pg_pre hX hK hw hA hx As⟩
theorem pg_recv (hK : va_K D cl tys s) (hw : pw D cl A s.heap H locs L f) {b ci : Nat} {fs : List Value} {q : vw_C} (hb : b ∈ L) (he : f b = .inr (ci, fs)) (hc : cl[ci]? = some q) : ∃ cell : Cell, H[b]? = some cell ∧ cell.vm.isStatics = false ∧ s.vm.findClass q.1 = some cell.cls := by
  obtain ⟨q0, h0⟩ := pg_at hb he
  exact va_recv hK hw.1 hc h0
theorem pg_preV (hX : pX X) (hK : va_K D cl tys s) (hw : pw D cl A s.heap H locs L f) (hA : ∀ q, s.heap.size ≤ q → A q) (hx : X A s s.heap) {b ci N : Nat} {C : String} {T : u_T} {fs : List Value} (hb : b ∈ L) (he : f b = .inr (ci, fs)) (hc : cl[ci]? = some (C, T, N)) (As : List Value) : PreV s H C b (pPc X D cl tys L f H.size (.ref b :: As)) As :=
  ⟨pPc_blind hX, pg_recv hK hw hb he hc, pg_pre hX hK hw hA hx (.ref b :: As)⟩
/-- a contract out of the walk of its body -/
theorem pg_met {y : MethodName} {ws ws' : List Cond} {rm : Room} {Qc : Array Value → State → Outcome → State → Prop} {mc ms : Nat} {free : Addr → Prop} {cc : ByteArray} {maxL : Nat} {ret : Option FieldType} (hy : plainName y.cls = true) (hw : ws = Cond.code y cc maxL ret :: ws') (hlen : (lg_sl av).length ≤ maxL)
    (body : ∀ (p : Program) (e : Env) (s : State) (m : MethodId) (below : List Frame) (meth : Method) (c : Code), pF p m c cc maxL s av.toArray ws y.cls meth ret → meth.name = y.name → va_K D cl tys s → pw D cl (pA L f s.heap.size) s.heap s.heap [] L f → X (pA L f s.heap.size) s s.heap → s.heap.size = sz → (∀ q, s.heap.size ≤ q → pA L f s.heap.size q) → ∀ ls : Array Slot, lv_has ls maxL (lv_args 0 av) →
      W p l e rm s m av.toArray below meth c s.heap [] 0 0 (MQ below Qc av.toArray s mc ms free) (F0 m 0 ls [])) : Met l y ws rm (pPc X D cl tys L f sz av) Qc mc ms free := by
  refine Met.ofW (cc := cc) (maxL := maxL) (ret := ret) hy hw ?_
  intro p e s m args below meth c s₁ B hml hv
  obtain ⟨rfl, hsz, hP, hK, hD0, hx⟩ := hv
  subst hsz
  have hl := lv_entry av (n := maxL) hlen
  rw [lg_entry_eq]
  exact body p e s m below meth c ⟨⟨B.exec, B.bytes, hml, findClass_of_methodNamed B.named, atoms_spec (ws := ws) B.pre⟩, B.returns, B.notSynchronized⟩ (name_of_methodNamed B.named B.method).1 hK ⟨hP, hD0.self, va_S.rf⟩ hx rfl (fun q h => Or.inr h) _ hl
/-- .. that may throw -/
theorem pg_metX {y : MethodName} {ws ws' : List Cond} {rm : Room} {Qc : Array Value → State → Outcome → State → Prop} {XC : String → State → State → Prop} {mc ms : Nat} {free : Addr → Prop} {cc : ByteArray} {maxL : Nat} {ret : Option FieldType} (hy : plainName y.cls = true) (hw : ws = Cond.code y cc maxL ret :: ws') (hlen : (lg_sl av).length ≤ maxL)
    (body : ∀ (p : Program) (e : Env) (s : State) (m : MethodId) (below : List Frame) (meth : Method) (c : Code), pF p m c cc maxL s av.toArray ws y.cls meth ret → (∀ x ∈ c.exceptionTable.toList, False) → va_K D cl tys s → pw D cl (pA L f s.heap.size) s.heap s.heap [] L f → X (pA L f s.heap.size) s s.heap → s.heap.size = sz → (∀ q, s.heap.size ≤ q → pA L f s.heap.size q) → ∀ ls : Array Slot, lv_has ls maxL (lv_args 0 av) →
      W p l e rm s m av.toArray below meth c s.heap [] 0 0 (vx_MQ below Qc XC av.toArray s mc ms free) (F0 m 0 ls [])) : vx_Met l y ws rm (pPc X D cl tys L f sz av) Qc XC mc ms free := by
  refine vx_ofW (cc := cc) (maxL := maxL) (ret := ret) hy hw ?_
  intro p e s m args below meth c s₁ B hml hex hv
  obtain ⟨rfl, hsz, hP, hK, hD0, hx⟩ := hv
  subst hsz
  have hl := lv_entry av (n := maxL) hlen
  rw [lg_entry_eq]
  exact body p e s m below meth c ⟨⟨B.exec, B.bytes, hml, findClass_of_methodNamed B.named, atoms_spec (ws := ws) B.pre⟩, B.returns, B.notSynchronized⟩ hex hK ⟨hP, hD0.self, va_S.rf⟩ hx rfl (fun q h => Or.inr h) _ hl
variable {cc : ByteArray} {pc : Nat} {ls : Array Slot} {rest st0 : List Value} {mc ms : Nat} {a : Array Value}
theorem pg_back (hw : pw D cl A s.heap H locs L f) (hA : ∀ q, s.heap.size ≤ q → A q) {H1 : Heap} {locs1 : List Loc} {t : State} {u : pU} (ht : t.heap = H1) (hB : pB D cl (pA L f H.size) u t) (hS : va_S A s.heap H1 locs1) : pw D cl A s.heap H1 locs1 u.1 u.2 := by
  have hP := hB.1
  rw [ht] at hP
  exact ⟨hP, hB.2.weaken (fun _ q _ h => pg_free hw hA q.1 h), hS⟩
theorem pg_calli {post : Int32 → pU → Prop} (hr : va_Run p l e R s m args below meth c H locs cells slots mc ms (F0 m pc ls st0) rest (va_Qi post (pB D cl (pA L f H.size)) (pA L f H.size) a) (pA L f H.size)) (hw : pw D cl A s.heap H locs L f) (hA : ∀ q, s.heap.size ≤ q → A q)
    (kk : ∀ (r : Int32) (u : pU) (H1 : Heap) (locs1 : List Loc), post r u → pw D cl A s.heap H1 locs1 u.1 u.2 → W p l e R s m args below meth c H1 locs1 (cells + mc) (slots + ms) Q (F0 m (pc + 3) ls (.int r :: rest))) : W p l e R s m args below meth c H locs cells slots Q (F0 m pc ls st0) :=
  va_calli hr hw.2.2 (fun q _ h => pg_free hw hA q h) (pg_free hw hA) (fun r u t H1 locs1 ht _ hp hB _ _ hS => kk r u H1 locs1 hp (pg_back hw hA ht hB hS))
theorem pg_calll {post : Int64 → pU → Prop} (hr : va_Run p l e R s m args below meth c H locs cells slots mc ms (F0 m pc ls st0) rest (va_Ql post (pB D cl (pA L f H.size)) (pA L f H.size) a) (pA L f H.size)) (hw : pw D cl A s.heap H locs L f) (hA : ∀ q, s.heap.size ≤ q → A q)
    (kk : ∀ (r : Int64) (u : pU) (H1 : Heap) (locs1 : List Loc), post r u → pw D cl A s.heap H1 locs1 u.1 u.2 → W p l e R s m args below meth c H1 locs1 (cells + mc) (slots + ms) Q (F0 m (pc + 3) ls (.long r :: rest))) : W p l e R s m args below meth c H locs cells slots Q (F0 m pc ls st0) :=
  va_calll hr hw.2.2 (fun q _ h => pg_free hw hA q h) (pg_free hw hA) (fun r u t H1 locs1 ht _ hp hB _ _ hS => kk r u H1 locs1 hp (pg_back hw hA ht hB hS))
theorem pg_callv {post : pU → Prop} (hr : va_Run p l e R s m args below meth c H locs cells slots mc ms (F0 m pc ls st0) rest (va_Qv post (pB D cl (pA L f H.size)) (pA L f H.size) a) (pA L f H.size)) (hw : pw D cl A s.heap H locs L f) (hA : ∀ q, s.heap.size ≤ q → A q)
    (kk : ∀ (u : pU) (H1 : Heap) (locs1 : List Loc), post u → pw D cl A s.heap H1 locs1 u.1 u.2 → W p l e R s m args below meth c H1 locs1 (cells + mc) (slots + ms) Q (F0 m (pc + 3) ls rest)) : W p l e R s m args below meth c H locs cells slots Q (F0 m pc ls st0) :=
  va_callv hr hw.2.2 (fun q _ h => pg_free hw hA q h) (pg_free hw hA) (fun u t H1 locs1 ht _ hp hB _ _ hS => kk u H1 locs1 hp (pg_back hw hA ht hB hS))
theorem pg_callq {post : Option Nat → pU → Prop} (hr : va_Run p l e R s m args below meth c H locs cells slots mc ms (F0 m pc ls st0) rest (va_Qq post (pB D cl (pA L f H.size)) (pA L f H.size) a) (pA L f H.size)) (hw : pw D cl A s.heap H locs L f) (hA : ∀ q, s.heap.size ≤ q → A q)
    (kk : ∀ (r : Option Nat) (u : pU) (H1 : Heap) (locs1 : List Loc), post r u → pw D cl A s.heap H1 locs1 u.1 u.2 → W p l e R s m args below meth c H1 locs1 (cells + mc) (slots + ms) Q (F0 m (pc + 3) ls (va_rf r :: rest))) : W p l e R s m args below meth c H locs cells slots Q (F0 m pc ls st0) :=
  va_callq hr hw.2.2 (fun q _ h => pg_free hw hA q h) (pg_free hw hA) (fun r u t H1 locs1 ht _ hp hB _ _ hS => kk r u H1 locs1 hp (pg_back hw hA ht hB hS))
/-- ends -/
theorem pg_iret {nL : Nat} {Ts : List Cond} {own : String} (hF : pF p m c cc nL s args Ts own meth (some .int)) (hw : pw D cl A s.heap H locs L f) {post : Int32 → pU → Prop} {v : Int32} (hp : post v (L, f)) (hdg : decode cc pc = .ok (.ireturn, 1)) : W p l e R s m args below meth c H locs cells slots (MQ below (va_Qi post (pB D cl A) A) args s cells slots A) (F0 m pc ls [.int v]) := by
  obtain ⟨⟨hx, hb, -, -, -⟩, hr, hlocks⟩ := hF
  exact W.iret hx hb hr (fun t ht _ => ⟨⟨v, (L, f), rfl, hp, by rw [ht]; exact hw.1, hw.2.1⟩, hw.2.2.F ht⟩) hw.2.2.2.2 hdg hlocks
theorem pg_zret {nL : Nat} {Ts : List Cond} {own : String} (hF : pF p m c cc nL s args Ts own meth (some .boolean)) (hw : pw D cl A s.heap H locs L f) {post : Int32 → pU → Prop} {v : Int32} (hn : narrow .boolean (.int v) = .int v) (hp : post v (L, f)) (hdg : decode cc pc = .ok (.ireturn, 1)) : W p l e R s m args below meth c H locs cells slots (MQ below (va_Qi post (pB D cl A) A) args s cells slots A) (F0 m pc ls [.int v]) := by
  obtain ⟨⟨hx, hb, -, -, -⟩, hr, hlocks⟩ := hF
  exact W.zret hx hb hr hn (fun t ht _ => ⟨⟨v, (L, f), rfl, hp, by rw [ht]; exact hw.1, hw.2.1⟩, hw.2.2.F ht⟩) hw.2.2.2.2 hdg hlocks
theorem pg_lret {nL : Nat} {Ts : List Cond} {own : String} (hF : pF p m c cc nL s args Ts own meth (some .long)) (hw : pw D cl A s.heap H locs L f) {post : Int64 → pU → Prop} {v : Int64} (hp : post v (L, f)) (hdg : decode cc pc = .ok (.lreturn, 1)) : W p l e R s m args below meth c H locs cells slots (MQ below (va_Ql post (pB D cl A) A) args s cells slots A) (F0 m pc ls [.long v]) := by
  obtain ⟨⟨hx, hb, -, -, -⟩, hr, hlocks⟩ := hF
  exact W.lret hx hb hr (fun t ht _ => ⟨⟨v, (L, f), rfl, hp, by rw [ht]; exact hw.1, hw.2.1⟩, hw.2.2.F ht⟩) hw.2.2.2.2 hdg hlocks
theorem pg_vret {nL : Nat} {Ts : List Cond} {own : String} (hF : pF p m c cc nL s args Ts own meth none) (hw : pw D cl A s.heap H locs L f) {post : pU → Prop} (hp : post (L, f)) (hdg : decode cc pc = .ok (.return_, 1)) : W p l e R s m args below meth c H locs cells slots (MQ below (va_Qv post (pB D cl A) A) args s cells slots A) (F0 m pc ls []) := by
  obtain ⟨⟨hx, hb, -, -, -⟩, hr, hlocks⟩ := hF
  exact W.vret hx hb hr (fun t ht _ => ⟨⟨(L, f), rfl, hp, by rw [ht]; exact hw.1, hw.2.1⟩, hw.2.2.F ht⟩) hw.2.2.2.2 hdg hlocks
theorem pg_aret {nL : Nat} {Ts : List Cond} {own : String} {C : String} (hF : pF p m c cc nL s args Ts own meth (some (.object C))) (hw : pw D cl A s.heap H locs L f) {post : Option Nat → pU → Prop} {v : Option Nat} (hp : post v (L, f)) (hdg : decode cc pc = .ok (.areturn, 1)) : W p l e R s m args below meth c H locs cells slots (MQ below (va_Qq post (pB D cl A) A) args s cells slots A) (F0 m pc ls [va_rf v]) := by
  obtain ⟨⟨hx, hb, -, -, -⟩, hr, hlocks⟩ := hF
  exact W.aret hx hb hr (Or.inl ⟨C, rfl⟩) (va_rf_or v) (fun t ht _ => ⟨⟨v, (L, f), rfl, hp, by rw [ht]; exact hw.1, hw.2.1⟩, hw.2.2.F ht⟩) hw.2.2.2.2 hdg hlocks
end PC
end
section
/-! CONTRACTS OVER A POOL of methods that may throw: ok E u: the class E is thrown, in the world u -/
abbrev pXC (D : va_G) (cl : List vw_C) (A : Nat → Prop) (ok : String → pU → Prop) : String → State → State → Prop := vx_X (fun _ : pU => True) (pBX D cl A ok) A
section PX
variable {X : (Nat → Prop) → State → Heap → Prop} {D : va_G} {cl : List vw_C} {tys : List (ClassId × FieldType)} {L : List Nat} {f : Nat → va_E} {sz : Nat} {av : List Value}
variable {p : Program} {l : Launch} {e : Env} {R : Room} {s : State} {m : MethodId} {args : Array Value} {below : List Frame} {meth : Method} {c : Code} {H : Heap} {locs : List Loc} {cells slots : Nat} {Q : State → Prop} {A : Nat → Prop}
variable {cc : ByteArray} {pc : Nat} {ls : Array Slot} {rest st0 : List Value} {mc ms : Nat} {a : Array Value} {ok : String → pU → Prop}
theorem pg_backX (hw : pw D cl A s.heap H locs L f) (hA : ∀ q, s.heap.size ≤ q → A q) {H1 : Heap} {locs1 : List Loc} {t : State} {u : pU} {E : String} (ht : t.heap = H1) (hB : pBX D cl (pA L f H.size) ok E u t) (hS : va_S A s.heap H1 locs1) : ok E u ∧ pw D cl A s.heap H1 locs1 u.1 u.2 :=
  ⟨hB.1, pg_back hw hA ht hB.2 hS⟩
theorem pg_callXi {post : Int32 → pU → Prop} (hr : vx_Run p l e R s m args below meth c H locs cells slots mc ms (F0 m pc ls st0) rest (va_Qi post (pB D cl (pA L f H.size)) (pA L f H.size) a) (pXC D cl (pA L f H.size) ok) (pA L f H.size)) (hw : pw D cl A s.heap H locs L f) (hA : ∀ q, s.heap.size ≤ q → A q)
    (kx : ∀ (E : String) (ce : Cell) (q9 : Addr) (u : pU) (H1 : Heap) (locs1 : List Loc), ok E u → pw D cl A s.heap H1 locs1 u.1 u.2 → H1[q9]? = some ce → ce.vm = .none → s.vm.findClass E = some ce.cls → vx_W p l e R s m args below meth c H1 locs1 (cells + mc) (slots + ms) Q (F0 m pc ls rest) q9)
    (kk : ∀ (r : Int32) (u : pU) (H1 : Heap) (locs1 : List Loc), post r u → pw D cl A s.heap H1 locs1 u.1 u.2 → W p l e R s m args below meth c H1 locs1 (cells + mc) (slots + ms) Q (F0 m (pc + 3) ls (.int r :: rest))) : W p l e R s m args below meth c H locs cells slots Q (F0 m pc ls st0) :=
  vx_calli hr hw.2.2 (fun q _ h => pg_free hw hA q h) (pg_free hw hA) (fun q _ h => pg_free hw hA q h) (fun E ce q9 u t H1 locs1 ht _ _ hB _ _ hS h1 h2 h3 => kx E ce q9 u H1 locs1 hB.1 (pg_back hw hA ht hB.2 hS) h1 h2 h3) (fun r u t H1 locs1 ht _ hp hB _ _ hS => kk r u H1 locs1 hp (pg_back hw hA ht hB hS))
theorem pg_callXl {post : Int64 → pU → Prop} (hr : vx_Run p l e R s m args below meth c H locs cells slots mc ms (F0 m pc ls st0) rest (va_Ql post (pB D cl (pA L f H.size)) (pA L f H.size) a) (pXC D cl (pA L f H.size) ok) (pA L f H.size)) (hw : pw D cl A s.heap H locs L f) (hA : ∀ q, s.heap.size ≤ q → A q)
    (kx : ∀ (E : String) (ce : Cell) (q9 : Addr) (u : pU) (H1 : Heap) (locs1 : List Loc), ok E u → pw D cl A s.heap H1 locs1 u.1 u.2 → H1[q9]? = some ce → ce.vm = .none → s.vm.findClass E = some ce.cls → vx_W p l e R s m args below meth c H1 locs1 (cells + mc) (slots + ms) Q (F0 m pc ls rest) q9)
    (kk : ∀ (r : Int64) (u : pU) (H1 : Heap) (locs1 : List Loc), post r u → pw D cl A s.heap H1 locs1 u.1 u.2 → W p l e R s m args below meth c H1 locs1 (cells + mc) (slots + ms) Q (F0 m (pc + 3) ls (.long r :: rest))) : W p l e R s m args below meth c H locs cells slots Q (F0 m pc ls st0) :=
  vx_calll hr hw.2.2 (fun q _ h => pg_free hw hA q h) (pg_free hw hA) (fun q _ h => pg_free hw hA q h) (fun E ce q9 u t H1 locs1 ht _ _ hB _ _ hS h1 h2 h3 => kx E ce q9 u H1 locs1 hB.1 (pg_back hw hA ht hB.2 hS) h1 h2 h3) (fun r u t H1 locs1 ht _ hp hB _ _ hS => kk r u H1 locs1 hp (pg_back hw hA ht hB hS))
theorem pg_callXv {post : pU → Prop} (hr : vx_Run p l e R s m args below meth c H locs cells slots mc ms (F0 m pc ls st0) rest (va_Qv post (pB D cl (pA L f H.size)) (pA L f H.size) a) (pXC D cl (pA L f H.size) ok) (pA L f H.size)) (hw : pw D cl A s.heap H locs L f) (hA : ∀ q, s.heap.size ≤ q → A q)
    (kx : ∀ (E : String) (ce : Cell) (q9 : Addr) (u : pU) (H1 : Heap) (locs1 : List Loc), ok E u → pw D cl A s.heap H1 locs1 u.1 u.2 → H1[q9]? = some ce → ce.vm = .none → s.vm.findClass E = some ce.cls → vx_W p l e R s m args below meth c H1 locs1 (cells + mc) (slots + ms) Q (F0 m pc ls rest) q9)
    (kk : ∀ (u : pU) (H1 : Heap) (locs1 : List Loc), post u → pw D cl A s.heap H1 locs1 u.1 u.2 → W p l e R s m args below meth c H1 locs1 (cells + mc) (slots + ms) Q (F0 m (pc + 3) ls rest)) : W p l e R s m args below meth c H locs cells slots Q (F0 m pc ls st0) :=
  vx_callv hr hw.2.2 (fun q _ h => pg_free hw hA q h) (pg_free hw hA) (fun q _ h => pg_free hw hA q h) (fun E ce q9 u t H1 locs1 ht _ _ hB _ _ hS h1 h2 h3 => kx E ce q9 u H1 locs1 hB.1 (pg_back hw hA ht hB.2 hS) h1 h2 h3) (fun u t H1 locs1 ht _ hp hB _ _ hS => kk u H1 locs1 hp (pg_back hw hA ht hB hS))
/-- the world in a heap that has grown -/
theorem pg_grown (hw : pw D cl A s.heap H locs L f) {t : State} (hz : H.size ≤ t.heap.size) (hk : ∀ q : Nat, q < H.size → t.heap[q]? = H[q]?) : (va_P D cl (va_pl L f) t.heap ∧ va_D A (va_pl L f)) ∧ va_F A s t := by
  refine ⟨⟨hw.1.kept (fun k q h => hk q.1 ((hw.1 k q h).lt)), hw.2.1⟩, Nat.le_trans hw.2.2.1 hz, fun q h1 h2 => ?_⟩
  rw [hk q (Nat.lt_of_lt_of_le h1 hw.2.2.1)]
  exact hw.2.2.2.1 q h1 h2
/-- a throw goes on to the caller -/
theorem pg_out (hex : ∀ x ∈ c.exceptionTable.toList, False) (hlocks : meth.locks = false) (hw : pw D cl A s.heap H locs L f) {Qc : Array Value → State → Outcome → State → Prop} {E : String} {ce : Cell} {q : Addr} (hcell : H[q]? = some ce) (hv : ce.vm = .none) (hcl : s.vm.findClass E = some ce.cls) (ho : ok E (L, f)) (hc : cells ≤ mc) (hs : slots ≤ ms) :
    vx_W p l e R s m args below meth c H locs cells slots (vx_MQ below Qc (pXC D cl A ok) args s mc ms A) (F0 m pc ls rest) q :=
  vx_out (fun x h => (hex x h).elim) hlocks hcell hv hcl (fun t ht _ => ⟨(L, f), trivial, ⟨ho, by rw [ht]; exact hw.1, hw.2.1⟩, hw.2.2.F ht⟩) hw.2.2.2.2 hc hs
end PX
end
section
/-! WHAT THE METHODS NEED OF THE MACHINE beside the pool: statics, constants, words on classes -/
def isDC : Cond → Bool
  | .declares _ => true
  | .castable _ _ => true
  | _ => false
def DC : List Cond := lw_tbl.filter isDC
theorem dc_onTables {w : Cond} (h : isDC w = true) : w.onTables = true := by cases w <;> first | rfl | cases h
theorem dc_warm {w : Cond} (hd : isDC w = true) {s U : State} (hW : s.WarmedH U.vm) (h : va_Nw w s) : va_Nw w U := by
  cases w with
  | declares x => exact va_Nw.warmD hW h
  | castable a b => exact va_Nw.warmC hW h
  | _ => cases hd
def eIAE : String := "java/lang/IllegalArgumentException"
def eISE : String := "java/lang/IllegalStateException"
def eUOE : String := "java/lang/UnsupportedOperationException"
def eIOB : String := "java/lang/IndexOutOfBoundsException"
def NCp : List (String × String) := [(eISE, eIAE), (eUOE, eIAE), (eUOE, eISE), (eIOB, eIAE)]
def STRs : List (Nat × String) := [(122, "there is no such memory"), (124, "there is no such load or store"), (126, "n is below 0 or too great"), (134, "a byte is not in the memory"), (29, "least is not 0 .. 65536"), (34, "most is below least or above 65536"), (38, "there are 24 memories"), (43, "all would have more than 16 pages")]
def AOA (U : State) : Prop := (Cond.arrayOver (.array .byte)).before #[] U = true
theorem AOA_moved {u U : State} (hvm : u.vm.Alike U.vm) (h : AOA u) : AOA U := by
  obtain ⟨comp, c, k, h1, h2, h3, h4, h5⟩ := arrayOverA_spec h
  obtain ⟨k', hk', he⟩ := hvm.2.2 _ _ h3
  have hi : (U.vm.classes.findIdx? fun (x : Class) => match x.kind with | .array component _ => component == comp | _ => false) = some c := by
    have hb1 := va_idx_bare U.vm comp
    have hb2 := va_idx_bare u.vm comp
    have e9 : U.vm.bare = u.vm.bare := by first | exact hvm.bare_eq | exact hvm.bare_eq.symm
    rw [e9] at hb1
    exact hb1.symm.trans (hb2.trans h2)
  have hkind : k'.kind = .array comp (.array .byte) := by rw [he]; exact h4
  have f1 : U.vm.findClass (FieldType.array .byte).toString = some comp := by rw [hvm.findClass]; exact h1
  have f2 : U.vm.findClass ("[" ++ (FieldType.array .byte).toString) = some c := by rw [hvm.findClass]; exact h5
  unfold AOA Cond.before Cond.holds
  simp only [Cond.value]
  rw [f1, Option.bind_some]
  refine (congrArg (fun o : Option Nat => (o.bind (fun c => (U.vm.classes[c]?).map fun (k : Class) => match k.kind with | .array _ ty => decide (ty = FieldType.array .byte) && decide (U.vm.findClass ("[" ++ (FieldType.array .byte).toString) = some c) | _ => false) == some true)) hi).trans ?_
  simp [hk', hkind, f2]
/-- a static array of ints that is never changed -/
def EXs (n : String) (N : Nat) (tab : Nat → Int32) (A : Nat → Prop) (U : State) (H : Heap) : Prop := ∃ t : Nat, va_Z "PagedBytes" n "[I" (.ref t) A U H ∧ va_T .int t N (fun j => .int (tab j)) A U H
def tLB : Nat → Int32 := fun j => [4, 8, 4, 8, 1, 1, 2, 2, 1, 1, 2, 2, 4, 4].getD j 0
def tLS : Nat → Int32 := fun j => [0, 0, 0, 0, 1, 0, 1, 0, 1, 0, 1, 0, 1, 0].getD j 0
def tLT : Nat → Int32 := fun j => [4, 8, 4, 8, 4, 4, 4, 4, 8, 8, 8, 8, 8, 8].getD j 0
def tSB : Nat → Int32 := fun j => [4, 8, 4, 8, 1, 2, 1, 2, 4].getD j 0
def EX (A : Nat → Prop) (U : State) (H : Heap) : Prop :=
  (vx_Zq Bundle.tN "UNASSIGNED_STACK" Bundle.steD A U H ∧ vx_Zq Bundle.tN "SUPPRESSED_SENTINEL" Bundle.listD A U H) ∧ (∀ w ∈ DC, va_Nw w U) ∧ (∀ q ∈ NCp, va_Nc q.1 q.2 U) ∧ va_AO R_M U ∧ va_AO R_W U ∧ AOA U ∧ (∀ q ∈ STRs, ∃ sa, vk_R "PagedBytes" q.1 q.2 sa U) ∧
  EXs "LOAD_BYTES" 14 tLB A U H ∧ EXs "LOAD_SIGNED" 14 tLS A U H ∧ EXs "LOAD_TYPE_BYTES" 14 tLT A U H ∧ EXs "STORE_BYTES" 9 tSB A U H
theorem EXs_moved {n : String} {N : Nat} {tab : Nat → Int32} {A : Nat → Prop} {u U : State} {H : Heap} (hvm : u.vm.Alike U.vm) (h : EXs n N tab A u H) : EXs n N tab A U H := by
  obtain ⟨t, h1, h2⟩ := h
  exact ⟨t, h1.moved hvm, h2.moved hvm⟩
theorem EXs_kept {n : String} {N : Nat} {tab : Nat → Int32} {A : Nat → Prop} {U : State} {H H1 : Heap} (h : EXs n N tab A U H) (hq : ∀ a : Nat, a < H.size → ¬ A a → H1[a]? = H[a]?) : EXs n N tab A U H1 := by
  obtain ⟨t, h1, h2⟩ := h
  exact ⟨t, h1.kept hq, h2.kept hq⟩
theorem EXs_narrow {n : String} {N : Nat} {tab : Nat → Int32} {A B : Nat → Prop} {U : State} {H : Heap} (h : EXs n N tab A U H) (hAB : ∀ q, B q → A q) : EXs n N tab B U H := by
  obtain ⟨t, h1, h2⟩ := h
  exact ⟨t, h1.narrow hAB, h2.narrow hAB⟩
theorem EX_ok : pX EX := by
  refine ⟨fun A u U H hW h => ?_, fun A U H H1 h hq => ?_, fun A B U H h hAB => ?_⟩
  · obtain ⟨⟨a1, a2⟩, b, c, d1, d2, d3, e, f1, f2, f3, f4⟩ := h
    exact ⟨⟨a1.moved hW.alike, a2.moved hW.alike⟩, fun w hw => dc_warm (List.mem_filter.mp hw).2 hW (b w hw), fun q hq => (c q hq).moved hW.alike, d1.moved hW.alike, d2.moved hW.alike, AOA_moved hW.alike d3, fun q hq => by obtain ⟨sa, h⟩ := e q hq; exact ⟨sa, h.warm hW⟩, EXs_moved hW.alike f1, EXs_moved hW.alike f2, EXs_moved hW.alike f3, EXs_moved hW.alike f4⟩
  · obtain ⟨⟨a1, a2⟩, b, c, d1, d2, d3, e, f1, f2, f3, f4⟩ := h
    exact ⟨⟨a1.kept hq, a2.kept hq⟩, b, c, d1, d2, d3, e, EXs_kept f1 hq, EXs_kept f2 hq, EXs_kept f3 hq, EXs_kept f4 hq⟩
  · obtain ⟨⟨a1, a2⟩, b, c, d1, d2, d3, e, f1, f2, f3, f4⟩ := h
    exact ⟨⟨a1.narrow hAB, a2.narrow hAB⟩, b, c, d1, d2, d3, e, EXs_narrow f1 hAB, EXs_narrow f2 hAB, EXs_narrow f3 hAB, EXs_narrow f4 hAB⟩
/-! the array classes, one number a kind -/
def TY (kc : Nat → ClassId) : List (ClassId × FieldType) := [(kc 0, .byte), (kc 1, .object R_M), (kc 2, .object R_W), (kc 3, .int), (kc 4, .array .byte), (kc 5, .long)]
section TYs
variable {D : va_G} {cl : List vw_C} {kc : Nat → ClassId} {s : State} {cA : ClassId}
theorem ty_same0 (h : va_K D cl (TY kc ++ [(cA, .byte)]) s) : cA = kc 0 := Option.some.inj ((show s.vm.findClass _ = some cA from (h.2 6 _ rfl).2).symm.trans (h.2 0 _ rfl).2)
theorem ty_same3 (h : va_K D cl (TY kc ++ [(cA, .int)]) s) : cA = kc 3 := Option.some.inj ((show s.vm.findClass _ = some cA from (h.2 6 _ rfl).2).symm.trans (h.2 3 _ rfl).2)
theorem ty_same5 (h : va_K D cl (TY kc ++ [(cA, .long)]) s) : cA = kc 5 := Option.some.inj ((show s.vm.findClass _ = some cA from (h.2 6 _ rfl).2).symm.trans (h.2 5 _ rfl).2)
theorem ty_same1 (h : va_K D cl (TY kc ++ [(cA, .object R_M)]) s) : cA = kc 1 := by
  obtain ⟨_, _, _, _, _, h1⟩ := (h.2 6 _ rfl).2
  obtain ⟨_, _, _, _, _, h2⟩ := (h.2 1 _ rfl).2
  exact Option.some.inj (h1.symm.trans h2)
theorem ty_same2 (h : va_K D cl (TY kc ++ [(cA, .object R_W)]) s) : cA = kc 2 := by
  obtain ⟨_, _, _, _, _, h1⟩ := (h.2 6 _ rfl).2
  obtain ⟨_, _, _, _, _, h2⟩ := (h.2 2 _ rfl).2
  exact Option.some.inj (h1.symm.trans h2)
end TYs
/-! the words of a call, all methods having the same words GG -/
theorem gg_V {c0 c1 : Cond} {own C : String} {idx : Nat} {y : MethodName} (h0 : c1 ∈ GG) (h1 : Cond.methodLink own idx y ∈ GG) (h2 : Cond.instanceMethod y ∈ GG) (h3 : Cond.selects C y y ∈ GG) (h4 : Cond.initialized C ∈ GG) : GoodIn (c0 :: GG) (wsV own idx C y (c1 :: GG)) := by
  intro w hw
  have : w ∈ GG := by
    rcases List.mem_append.mp hw with h | h
    · simp only [List.mem_cons, List.not_mem_nil, or_false] at h
      rcases h with rfl | rfl | rfl | rfl <;> assumption
    · rcases List.mem_cons.mp h with rfl | h
      · exact h0
      · exact h
  exact ⟨List.mem_cons_of_mem _ this, good_of_word (gg_good this)⟩
theorem gg_S {c0 c1 : Cond} {own : String} {idx : Nat} {y : MethodName} (h0 : c1 ∈ GG) (h1 : Cond.methodLink own idx y ∈ GG) (h2 : Cond.static y ∈ GG) (h4 : Cond.initialized y.cls ∈ GG) : GoodIn (c0 :: GG) (va_wsS own idx y (c1 :: GG)) := by
  intro w hw
  have : w ∈ GG := by
    rcases List.mem_append.mp hw with h | h
    · simp only [List.mem_cons, List.not_mem_nil, or_false] at h
      rcases h with rfl | rfl | rfl <;> assumption
    · rcases List.mem_cons.mp h with rfl | h
      · exact h0
      · exact h
  exact ⟨List.mem_cons_of_mem _ this, good_of_word (gg_good this)⟩
theorem gg_I {c0 c1 : Cond} (h0 : c1 ∈ GG) : GoodIn (c0 :: GG) (c1 :: GG) := by
  intro w hw
  have : w ∈ GG := by
    rcases List.mem_cons.mp hw with rfl | h
    · exact h0
    · exact h
  exact ⟨List.mem_cons_of_mem _ this, good_of_word (gg_good this)⟩
theorem gg_mem {c0 w : Cond} (h : w ∈ GG) : w ∈ c0 :: GG := List.mem_cons_of_mem _ h
end
section
/-! WALKING IN A CONTEXT: rows for this claim, the words GG and the classes Cls fixed -/
abbrev PP (D : va_G) (kc : Nat → ClassId) (L : List Nat) (f : Nat → va_E) (sz : Nat) (av : List Value) : Array Value → State → Prop := pPc EX D Cls (TY kc) L f sz av
abbrev Qi (D : va_G) (L : List Nat) (f : Nat → va_E) (sz : Nat) (post : Int32 → pU → Prop) : Array Value → State → Outcome → State → Prop := va_Qi post (pB D Cls (pA L f sz)) (pA L f sz)
abbrev Ql (D : va_G) (L : List Nat) (f : Nat → va_E) (sz : Nat) (post : Int64 → pU → Prop) : Array Value → State → Outcome → State → Prop := va_Ql post (pB D Cls (pA L f sz)) (pA L f sz)
abbrev Qv (D : va_G) (L : List Nat) (f : Nat → va_E) (sz : Nat) (post : pU → Prop) : Array Value → State → Outcome → State → Prop := va_Qv post (pB D Cls (pA L f sz)) (pA L f sz)
abbrev Qq (D : va_G) (L : List Nat) (f : Nat → va_E) (sz : Nat) (post : Option Nat → pU → Prop) : Array Value → State → Outcome → State → Prop := va_Qq post (pB D Cls (pA L f sz)) (pA L f sz)
abbrev XX (D : va_G) (L : List Nat) (f : Nat → va_E) (sz : Nat) (ok : String → pU → Prop) : String → State → State → Prop := pXC D Cls (pA L f sz) ok
def Kx (p : Program) (m : MethodId) (c : Code) (cc : ByteArray) (nL : Nat) (s : State) (args : Array Value) (c0 : Cond) (own : String) (meth : Method) (ret : Option FieldType) (D : va_G) (kc : Nat → ClassId) (A : Nat → Prop) : Prop :=
  pF p m c cc nL s args (c0 :: GG) own meth ret ∧ va_K D Cls (TY kc) s ∧ EX A s s.heap ∧ ∀ q, s.heap.size ≤ q → A q
section KX
variable {D : va_G} {kc : Nat → ClassId} {L : List Nat} {f : Nat → va_E} {sz : Nat} {av : List Value}
variable {p : Program} {l : Launch} {e : Env} {R : Room} {s : State} {m : MethodId} {args : Array Value} {below : List Frame} {meth : Method} {c : Code} {H : Heap} {locs : List Loc} {cells slots : Nat} {Q : State → Prop} {A : Nat → Prop}
variable {cc : ByteArray} {nL : Nat} {c0 : Cond} {own : String} {ret : Option FieldType} {pc : Nat} {ls : Array Slot} {rest : List Value} {a : Nat}
theorem kx_met {y : MethodName} {rm : Room} {Qc : Array Value → State → Outcome → State → Prop} {mc ms : Nat} {free : Addr → Prop} {maxL : Nat} (hy : plainName y.cls = true) (hlen : (lg_sl av).length ≤ maxL)
    (body : ∀ (p : Program) (e : Env) (s : State) (m : MethodId) (below : List Frame) (meth : Method) (c : Code), Kx p m c cc maxL s av.toArray (Cond.code y cc maxL ret) y.cls meth ret D kc (pA L f s.heap.size) → meth.name = y.name → pw D Cls (pA L f s.heap.size) s.heap s.heap [] L f → s.heap.size = sz → ∀ ls : Array Slot, lv_has ls maxL (lv_args 0 av) →
      W p l e rm s m av.toArray below meth c s.heap [] 0 0 (MQ below Qc av.toArray s mc ms free) (F0 m 0 ls [])) : Met l y (Cond.code y cc maxL ret :: GG) rm (PP D kc L f sz av) Qc mc ms free :=
  pg_met hy rfl hlen (fun p e s m below meth c hF hn hK hw hX hs hA ls hl => body p e s m below meth c ⟨hF, hK, hX, hA⟩ hn hw hs ls hl)
theorem kx_metX {y : MethodName} {rm : Room} {Qc : Array Value → State → Outcome → State → Prop} {XC : String → State → State → Prop} {mc ms : Nat} {free : Addr → Prop} {maxL : Nat} (hy : plainName y.cls = true) (hlen : (lg_sl av).length ≤ maxL)
    (body : ∀ (p : Program) (e : Env) (s : State) (m : MethodId) (below : List Frame) (meth : Method) (c : Code), Kx p m c cc maxL s av.toArray (Cond.code y cc maxL ret) y.cls meth ret D kc (pA L f s.heap.size) → (∀ x ∈ c.exceptionTable.toList, False) → pw D Cls (pA L f s.heap.size) s.heap s.heap [] L f → s.heap.size = sz → ∀ ls : Array Slot, lv_has ls maxL (lv_args 0 av) →
      W p l e rm s m av.toArray below meth c s.heap [] 0 0 (vx_MQ below Qc XC av.toArray s mc ms free) (F0 m 0 ls [])) : vx_Met l y (Cond.code y cc maxL ret :: GG) rm (PP D kc L f sz av) Qc XC mc ms free :=
  pg_metX hy rfl hlen (fun p e s m below meth c hF hex hK hw hX hs hA ls hl => body p e s m below meth c ⟨hF, hK, hX, hA⟩ hex hw hs ls hl)
theorem get_M (hC : Kx p m c cc nL s args c0 own meth ret D kc A) (hw : pw D Cls A s.heap H locs L f) (ha : a ∈ L) {fs : List Value} (he : f a = .inr (0, fs)) (k : Nat) (hk : k < 3) {index : Nat} (hl : Cond.fieldLink own index (T_M k).1 (T_M k).2.1 (T_M k).2.2.1 ∈ GG) {v : Value} (hv : fs[k]? = some v) (hdg : decode cc pc = .ok (.getfield index, 3))
    (kk : W p l e R s m args below meth c H locs cells slots Q (F0 m (pc + 3) ls (v :: rest))) : W p l e R s m args below meth c H locs cells slots Q (F0 m pc ls (.ref a :: rest)) :=
  pg_get hC.1.1.1 hC.1.1.2.1 hC.1.1.2.2.2.2 (fun w h => gg_mem (in_M w h)) hC.1.1.2.2.2.1 hC.2.1 hw ha he rfl k hk (hC.1.1.2.2.2.2 _ (gg_mem hl)) hv hdg kk
theorem put_M (hC : Kx p m c cc nL s args c0 own meth ret D kc A) (hw : pw D Cls A s.heap H locs L f) (ha : a ∈ L) {fs : List Value} (he : f a = .inr (0, fs)) (k : Nat) (hk : k < 3) {index : Nat} (hl : Cond.fieldLink own index (T_M k).1 (T_M k).2.1 (T_M k).2.2.1 ∈ GG) (hfin : (T_M k).2.2.2 = false) {v : Value} (hn : narrow (t_M k) v = v) (hfit : fits (t_M k) v = true) (hlen : k < fs.length) (hdg : decode cc pc = .ok (.putfield index, 3))
    (kk : ∀ (H1 : Heap) (locs1 : List Loc), pw D Cls A s.heap H1 locs1 L (va_up f a (.inr (0, fs.set k v))) → W p l e R s m args below meth c H1 locs1 cells slots Q (F0 m (pc + 3) ls rest)) : W p l e R s m args below meth c H locs cells slots Q (F0 m pc ls (v :: .ref a :: rest)) :=
  pg_put hC.1.1.1 hC.1.1.2.1 hC.1.1.2.2.2.2 (fun w h => gg_mem (in_M w h)) t_M ty_M n_M hC.1.1.2.2.2.1 hC.2.1 hw ha he rfl k hk (hC.1.1.2.2.2.2 _ (gg_mem hl)) hfin (ty_M k hk) hn hfit hlen hdg kk
theorem putF_M (hC : Kx p m c cc nL s args c0 own meth ret D kc A) (hw : pw D Cls A s.heap H locs L f) (hin2 : meth.name = "<init>") (ho : own = R_M) (ha : a ∈ L) {fs : List Value} (he : f a = .inr (0, fs)) (k : Nat) (hk : k < 3) {index : Nat} (hl : Cond.fieldLink own index (T_M k).1 (T_M k).2.1 (T_M k).2.2.1 ∈ GG) (hfin : (T_M k).2.2.2 = true) (hdecl : (T_M k).1 = R_M) {v : Value} (hn : narrow (t_M k) v = v) (hfit : fits (t_M k) v = true) (hlen : k < fs.length) (hdg : decode cc pc = .ok (.putfield index, 3))
    (kk : ∀ (H1 : Heap) (locs1 : List Loc), pw D Cls A s.heap H1 locs1 L (va_up f a (.inr (0, fs.set k v))) → W p l e R s m args below meth c H1 locs1 cells slots Q (F0 m (pc + 3) ls rest)) : W p l e R s m args below meth c H locs cells slots Q (F0 m pc ls (v :: .ref a :: rest)) :=
  pg_putF hC.1.1.1 hC.1.1.2.1 hC.1.1.2.2.2.2 (fun w h => gg_mem (in_M w h)) t_M ty_M n_M hC.1.1.2.2.2.1 hC.2.1 hw ha he rfl k hk (hC.1.1.2.2.2.2 _ (gg_mem hl)) hfin hin2 (hdecl.trans ho.symm) (ty_M k hk) hn hfit hlen hdg kk
theorem new_M (hC : Kx p m c cc nL s args c0 own meth ret D kc A) (hw : pw D Cls A s.heap H locs L f) {index : Nat} (hl : Cond.classLink own index R_M ∈ GG) (hi : Cond.instantiable R_M 3 ∈ GG) (hn : Cond.initialized R_M ∈ GG) {fs : List Value} (hfs : ∀ j, j < 3 → defaultValue (t_M j) = vp_V fs j) (hcells : cells + 1 ≤ R.cells) (hslots : slots + 3 ≤ R.slots) (hdg : decode cc pc = .ok (.new index, 3))
    (kk : ∀ (q : Nat) (H1 : Heap), q ∉ L → pw D Cls A s.heap H1 locs (L ++ [q]) (va_up f q (.inr (0, fs))) → W p l e R s m args below meth c H1 locs (cells + 1) (slots + 3) Q (F0 m (pc + 3) ls (.ref q :: rest))) : W p l e R s m args below meth c H locs cells slots Q (F0 m pc ls rest) :=
  pg_new hC.1.1.1 hC.1.1.2.1 hC.1.1.2.2.2.2 (fun w h => gg_mem (in_M w h)) t_M ty_M hC.1.1.2.2.2.1 (hC.1.1.2.2.2.2 _ (gg_mem hl)) (hC.1.1.2.2.2.2 _ (gg_mem hi)) (hC.1.1.2.2.2.2 _ (gg_mem hn)) hC.2.1 hw hC.2.2.2 rfl hfs hcells hslots hdg kk
theorem get_W (hC : Kx p m c cc nL s args c0 own meth ret D kc A) (hw : pw D Cls A s.heap H locs L f) (ha : a ∈ L) {fs : List Value} (he : f a = .inr (1, fs)) (k : Nat) (hk : k < 1) {index : Nat} (hl : Cond.fieldLink own index (T_W k).1 (T_W k).2.1 (T_W k).2.2.1 ∈ GG) {v : Value} (hv : fs[k]? = some v) (hdg : decode cc pc = .ok (.getfield index, 3))
    (kk : W p l e R s m args below meth c H locs cells slots Q (F0 m (pc + 3) ls (v :: rest))) : W p l e R s m args below meth c H locs cells slots Q (F0 m pc ls (.ref a :: rest)) :=
  pg_get hC.1.1.1 hC.1.1.2.1 hC.1.1.2.2.2.2 (fun w h => gg_mem (in_W w h)) hC.1.1.2.2.2.1 hC.2.1 hw ha he rfl k hk (hC.1.1.2.2.2.2 _ (gg_mem hl)) hv hdg kk
theorem put_W (hC : Kx p m c cc nL s args c0 own meth ret D kc A) (hw : pw D Cls A s.heap H locs L f) (ha : a ∈ L) {fs : List Value} (he : f a = .inr (1, fs)) (k : Nat) (hk : k < 1) {index : Nat} (hl : Cond.fieldLink own index (T_W k).1 (T_W k).2.1 (T_W k).2.2.1 ∈ GG) (hfin : (T_W k).2.2.2 = false) {v : Value} (hn : narrow (t_W k) v = v) (hfit : fits (t_W k) v = true) (hlen : k < fs.length) (hdg : decode cc pc = .ok (.putfield index, 3))
    (kk : ∀ (H1 : Heap) (locs1 : List Loc), pw D Cls A s.heap H1 locs1 L (va_up f a (.inr (1, fs.set k v))) → W p l e R s m args below meth c H1 locs1 cells slots Q (F0 m (pc + 3) ls rest)) : W p l e R s m args below meth c H locs cells slots Q (F0 m pc ls (v :: .ref a :: rest)) :=
  pg_put hC.1.1.1 hC.1.1.2.1 hC.1.1.2.2.2.2 (fun w h => gg_mem (in_W w h)) t_W ty_W n_W hC.1.1.2.2.2.1 hC.2.1 hw ha he rfl k hk (hC.1.1.2.2.2.2 _ (gg_mem hl)) hfin (ty_W k hk) hn hfit hlen hdg kk
theorem putF_W (hC : Kx p m c cc nL s args c0 own meth ret D kc A) (hw : pw D Cls A s.heap H locs L f) (hin2 : meth.name = "<init>") (ho : own = R_W) (ha : a ∈ L) {fs : List Value} (he : f a = .inr (1, fs)) (k : Nat) (hk : k < 1) {index : Nat} (hl : Cond.fieldLink own index (T_W k).1 (T_W k).2.1 (T_W k).2.2.1 ∈ GG) (hfin : (T_W k).2.2.2 = true) (hdecl : (T_W k).1 = R_W) {v : Value} (hn : narrow (t_W k) v = v) (hfit : fits (t_W k) v = true) (hlen : k < fs.length) (hdg : decode cc pc = .ok (.putfield index, 3))
    (kk : ∀ (H1 : Heap) (locs1 : List Loc), pw D Cls A s.heap H1 locs1 L (va_up f a (.inr (1, fs.set k v))) → W p l e R s m args below meth c H1 locs1 cells slots Q (F0 m (pc + 3) ls rest)) : W p l e R s m args below meth c H locs cells slots Q (F0 m pc ls (v :: .ref a :: rest)) :=
  pg_putF hC.1.1.1 hC.1.1.2.1 hC.1.1.2.2.2.2 (fun w h => gg_mem (in_W w h)) t_W ty_W n_W hC.1.1.2.2.2.1 hC.2.1 hw ha he rfl k hk (hC.1.1.2.2.2.2 _ (gg_mem hl)) hfin hin2 (hdecl.trans ho.symm) (ty_W k hk) hn hfit hlen hdg kk
theorem new_W (hC : Kx p m c cc nL s args c0 own meth ret D kc A) (hw : pw D Cls A s.heap H locs L f) {index : Nat} (hl : Cond.classLink own index R_W ∈ GG) (hi : Cond.instantiable R_W 1 ∈ GG) (hn : Cond.initialized R_W ∈ GG) {fs : List Value} (hfs : ∀ j, j < 1 → defaultValue (t_W j) = vp_V fs j) (hcells : cells + 1 ≤ R.cells) (hslots : slots + 1 ≤ R.slots) (hdg : decode cc pc = .ok (.new index, 3))
    (kk : ∀ (q : Nat) (H1 : Heap), q ∉ L → pw D Cls A s.heap H1 locs (L ++ [q]) (va_up f q (.inr (1, fs))) → W p l e R s m args below meth c H1 locs (cells + 1) (slots + 1) Q (F0 m (pc + 3) ls (.ref q :: rest))) : W p l e R s m args below meth c H locs cells slots Q (F0 m pc ls rest) :=
  pg_new hC.1.1.1 hC.1.1.2.1 hC.1.1.2.2.2.2 (fun w h => gg_mem (in_W w h)) t_W ty_W hC.1.1.2.2.2.1 (hC.1.1.2.2.2.2 _ (gg_mem hl)) (hC.1.1.2.2.2.2 _ (gg_mem hi)) (hC.1.1.2.2.2.2 _ (gg_mem hn)) hC.2.1 hw hC.2.2.2 rfl hfs hcells hslots hdg kk
theorem get_P (hC : Kx p m c cc nL s args c0 own meth ret D kc A) (hw : pw D Cls A s.heap H locs L f) (ha : a ∈ L) {fs : List Value} (he : f a = .inr (2, fs)) (k : Nat) (hk : k < 4) {index : Nat} (hl : Cond.fieldLink own index (T_P k).1 (T_P k).2.1 (T_P k).2.2.1 ∈ GG) {v : Value} (hv : fs[k]? = some v) (hdg : decode cc pc = .ok (.getfield index, 3))
    (kk : W p l e R s m args below meth c H locs cells slots Q (F0 m (pc + 3) ls (v :: rest))) : W p l e R s m args below meth c H locs cells slots Q (F0 m pc ls (.ref a :: rest)) :=
  pg_get hC.1.1.1 hC.1.1.2.1 hC.1.1.2.2.2.2 (fun w h => gg_mem (in_P w h)) hC.1.1.2.2.2.1 hC.2.1 hw ha he rfl k hk (hC.1.1.2.2.2.2 _ (gg_mem hl)) hv hdg kk
theorem put_P (hC : Kx p m c cc nL s args c0 own meth ret D kc A) (hw : pw D Cls A s.heap H locs L f) (ha : a ∈ L) {fs : List Value} (he : f a = .inr (2, fs)) (k : Nat) (hk : k < 4) {index : Nat} (hl : Cond.fieldLink own index (T_P k).1 (T_P k).2.1 (T_P k).2.2.1 ∈ GG) (hfin : (T_P k).2.2.2 = false) {v : Value} (hn : narrow (t_P k) v = v) (hfit : fits (t_P k) v = true) (hlen : k < fs.length) (hdg : decode cc pc = .ok (.putfield index, 3))
    (kk : ∀ (H1 : Heap) (locs1 : List Loc), pw D Cls A s.heap H1 locs1 L (va_up f a (.inr (2, fs.set k v))) → W p l e R s m args below meth c H1 locs1 cells slots Q (F0 m (pc + 3) ls rest)) : W p l e R s m args below meth c H locs cells slots Q (F0 m pc ls (v :: .ref a :: rest)) :=
  pg_put hC.1.1.1 hC.1.1.2.1 hC.1.1.2.2.2.2 (fun w h => gg_mem (in_P w h)) t_P ty_P n_P hC.1.1.2.2.2.1 hC.2.1 hw ha he rfl k hk (hC.1.1.2.2.2.2 _ (gg_mem hl)) hfin (ty_P k hk) hn hfit hlen hdg kk
theorem putF_P (hC : Kx p m c cc nL s args c0 own meth ret D kc A) (hw : pw D Cls A s.heap H locs L f) (hin2 : meth.name = "<init>") (ho : own = R_P) (ha : a ∈ L) {fs : List Value} (he : f a = .inr (2, fs)) (k : Nat) (hk : k < 4) {index : Nat} (hl : Cond.fieldLink own index (T_P k).1 (T_P k).2.1 (T_P k).2.2.1 ∈ GG) (hfin : (T_P k).2.2.2 = true) (hdecl : (T_P k).1 = R_P) {v : Value} (hn : narrow (t_P k) v = v) (hfit : fits (t_P k) v = true) (hlen : k < fs.length) (hdg : decode cc pc = .ok (.putfield index, 3))
    (kk : ∀ (H1 : Heap) (locs1 : List Loc), pw D Cls A s.heap H1 locs1 L (va_up f a (.inr (2, fs.set k v))) → W p l e R s m args below meth c H1 locs1 cells slots Q (F0 m (pc + 3) ls rest)) : W p l e R s m args below meth c H locs cells slots Q (F0 m pc ls (v :: .ref a :: rest)) :=
  pg_putF hC.1.1.1 hC.1.1.2.1 hC.1.1.2.2.2.2 (fun w h => gg_mem (in_P w h)) t_P ty_P n_P hC.1.1.2.2.2.1 hC.2.1 hw ha he rfl k hk (hC.1.1.2.2.2.2 _ (gg_mem hl)) hfin hin2 (hdecl.trans ho.symm) (ty_P k hk) hn hfit hlen hdg kk
theorem new_P (hC : Kx p m c cc nL s args c0 own meth ret D kc A) (hw : pw D Cls A s.heap H locs L f) {index : Nat} (hl : Cond.classLink own index R_P ∈ GG) (hi : Cond.instantiable R_P 4 ∈ GG) (hn : Cond.initialized R_P ∈ GG) {fs : List Value} (hfs : ∀ j, j < 4 → defaultValue (t_P j) = vp_V fs j) (hcells : cells + 1 ≤ R.cells) (hslots : slots + 4 ≤ R.slots) (hdg : decode cc pc = .ok (.new index, 3))
    (kk : ∀ (q : Nat) (H1 : Heap), q ∉ L → pw D Cls A s.heap H1 locs (L ++ [q]) (va_up f q (.inr (2, fs))) → W p l e R s m args below meth c H1 locs (cells + 1) (slots + 4) Q (F0 m (pc + 3) ls (.ref q :: rest))) : W p l e R s m args below meth c H locs cells slots Q (F0 m pc ls rest) :=
  pg_new hC.1.1.1 hC.1.1.2.1 hC.1.1.2.2.2.2 (fun w h => gg_mem (in_P w h)) t_P ty_P hC.1.1.2.2.2.1 (hC.1.1.2.2.2.2 _ (gg_mem hl)) (hC.1.1.2.2.2.2 _ (gg_mem hi)) (hC.1.1.2.2.2.2 _ (gg_mem hn)) hC.2.1 hw hC.2.2.2 rfl hfs hcells hslots hdg kk
theorem get_D (hC : Kx p m c cc nL s args c0 own meth ret D kc A) (hw : pw D Cls A s.heap H locs L f) (ha : a ∈ L) {fs : List Value} (he : f a = .inr (3, fs)) (k : Nat) (hk : k < 8) {index : Nat} (hl : Cond.fieldLink own index (T_D k).1 (T_D k).2.1 (T_D k).2.2.1 ∈ GG) {v : Value} (hv : fs[k]? = some v) (hdg : decode cc pc = .ok (.getfield index, 3))
    (kk : W p l e R s m args below meth c H locs cells slots Q (F0 m (pc + 3) ls (v :: rest))) : W p l e R s m args below meth c H locs cells slots Q (F0 m pc ls (.ref a :: rest)) :=
  pg_get hC.1.1.1 hC.1.1.2.1 hC.1.1.2.2.2.2 (fun w h => gg_mem (in_D w h)) hC.1.1.2.2.2.1 hC.2.1 hw ha he rfl k hk (hC.1.1.2.2.2.2 _ (gg_mem hl)) hv hdg kk
theorem put_D (hC : Kx p m c cc nL s args c0 own meth ret D kc A) (hw : pw D Cls A s.heap H locs L f) (ha : a ∈ L) {fs : List Value} (he : f a = .inr (3, fs)) (k : Nat) (hk : k < 8) {index : Nat} (hl : Cond.fieldLink own index (T_D k).1 (T_D k).2.1 (T_D k).2.2.1 ∈ GG) (hfin : (T_D k).2.2.2 = false) {v : Value} (hn : narrow (t_D k) v = v) (hfit : fits (t_D k) v = true) (hlen : k < fs.length) (hdg : decode cc pc = .ok (.putfield index, 3))
    (kk : ∀ (H1 : Heap) (locs1 : List Loc), pw D Cls A s.heap H1 locs1 L (va_up f a (.inr (3, fs.set k v))) → W p l e R s m args below meth c H1 locs1 cells slots Q (F0 m (pc + 3) ls rest)) : W p l e R s m args below meth c H locs cells slots Q (F0 m pc ls (v :: .ref a :: rest)) :=
  pg_put hC.1.1.1 hC.1.1.2.1 hC.1.1.2.2.2.2 (fun w h => gg_mem (in_D w h)) t_D ty_D n_D hC.1.1.2.2.2.1 hC.2.1 hw ha he rfl k hk (hC.1.1.2.2.2.2 _ (gg_mem hl)) hfin (ty_D k hk) hn hfit hlen hdg kk
theorem putF_D (hC : Kx p m c cc nL s args c0 own meth ret D kc A) (hw : pw D Cls A s.heap H locs L f) (hin2 : meth.name = "<init>") (ho : own = R_D) (ha : a ∈ L) {fs : List Value} (he : f a = .inr (3, fs)) (k : Nat) (hk : k < 8) {index : Nat} (hl : Cond.fieldLink own index (T_D k).1 (T_D k).2.1 (T_D k).2.2.1 ∈ GG) (hfin : (T_D k).2.2.2 = true) (hdecl : (T_D k).1 = R_D) {v : Value} (hn : narrow (t_D k) v = v) (hfit : fits (t_D k) v = true) (hlen : k < fs.length) (hdg : decode cc pc = .ok (.putfield index, 3))
    (kk : ∀ (H1 : Heap) (locs1 : List Loc), pw D Cls A s.heap H1 locs1 L (va_up f a (.inr (3, fs.set k v))) → W p l e R s m args below meth c H1 locs1 cells slots Q (F0 m (pc + 3) ls rest)) : W p l e R s m args below meth c H locs cells slots Q (F0 m pc ls (v :: .ref a :: rest)) :=
  pg_putF hC.1.1.1 hC.1.1.2.1 hC.1.1.2.2.2.2 (fun w h => gg_mem (in_D w h)) t_D ty_D n_D hC.1.1.2.2.2.1 hC.2.1 hw ha he rfl k hk (hC.1.1.2.2.2.2 _ (gg_mem hl)) hfin hin2 (hdecl.trans ho.symm) (ty_D k hk) hn hfit hlen hdg kk
theorem new_D (hC : Kx p m c cc nL s args c0 own meth ret D kc A) (hw : pw D Cls A s.heap H locs L f) {index : Nat} (hl : Cond.classLink own index R_D ∈ GG) (hi : Cond.instantiable R_D 8 ∈ GG) (hn : Cond.initialized R_D ∈ GG) {fs : List Value} (hfs : ∀ j, j < 8 → defaultValue (t_D j) = vp_V fs j) (hcells : cells + 1 ≤ R.cells) (hslots : slots + 8 ≤ R.slots) (hdg : decode cc pc = .ok (.new index, 3))
    (kk : ∀ (q : Nat) (H1 : Heap), q ∉ L → pw D Cls A s.heap H1 locs (L ++ [q]) (va_up f q (.inr (3, fs))) → W p l e R s m args below meth c H1 locs (cells + 1) (slots + 8) Q (F0 m (pc + 3) ls (.ref q :: rest))) : W p l e R s m args below meth c H locs cells slots Q (F0 m pc ls rest) :=
  pg_new hC.1.1.1 hC.1.1.2.1 hC.1.1.2.2.2.2 (fun w h => gg_mem (in_D w h)) t_D ty_D hC.1.1.2.2.2.1 (hC.1.1.2.2.2.2 _ (gg_mem hl)) (hC.1.1.2.2.2.2 _ (gg_mem hi)) (hC.1.1.2.2.2.2 _ (gg_mem hn)) hC.2.1 hw hC.2.2.2 rfl hfs hcells hslots hdg kk
theorem ald_B (hC : Kx p m c cc nL s args c0 own meth ret D kc A) (hw : pw D Cls A s.heap H locs L f) (ha : a ∈ L) {n : Nat} {g : Nat → Int32} (he : f a = .inl (kc 0, n, .inl g)) {i : Nat} (hin : i < n) (hn : n < 2 ^ 31) (hdg : decode cc pc = .ok (.baload, 1)) (kk : W p l e R s m args below meth c H locs cells slots Q (F0 m (pc + 1) ls (.int (g i) :: rest))) : W p l e R s m args below meth c H locs cells slots Q (F0 m pc ls (.int (nI i) :: .ref a :: rest)) := pg_bald hC.1.1.1 hC.1.1.2.1 hC.2.1 hw ha he 0 rfl hin hn hdg kk
theorem ald_I (hC : Kx p m c cc nL s args c0 own meth ret D kc A) (hw : pw D Cls A s.heap H locs L f) (ha : a ∈ L) {n : Nat} {g : Nat → Int32} (he : f a = .inl (kc 3, n, .inl g)) {i : Nat} (hin : i < n) (hn : n < 2 ^ 31) (hdg : decode cc pc = .ok (.iaload, 1)) (kk : W p l e R s m args below meth c H locs cells slots Q (F0 m (pc + 1) ls (.int (g i) :: rest))) : W p l e R s m args below meth c H locs cells slots Q (F0 m pc ls (.int (nI i) :: .ref a :: rest)) := pg_iald hC.1.1.1 hC.1.1.2.1 hC.2.1 hw ha he 3 rfl hin hn hdg kk
theorem ald_M (hC : Kx p m c cc nL s args c0 own meth ret D kc A) (hw : pw D Cls A s.heap H locs L f) (ha : a ∈ L) {n : Nat} {g : Nat → Option Nat} (he : f a = .inl (kc 1, n, .inr (.inr (.inr (.inr g))))) {i : Nat} (hin : i < n) (hn : n < 2 ^ 31) (hdg : decode cc pc = .ok (.aaload, 1)) (kk : W p l e R s m args below meth c H locs cells slots Q (F0 m (pc + 1) ls (va_rf (g i) :: rest))) : W p l e R s m args below meth c H locs cells slots Q (F0 m pc ls (.int (nI i) :: .ref a :: rest)) := pg_aald hC.1.1.1 hC.1.1.2.1 hC.2.1 hw ha he 1 rfl hin hn hdg kk
theorem ald_R (hC : Kx p m c cc nL s args c0 own meth ret D kc A) (hw : pw D Cls A s.heap H locs L f) (ha : a ∈ L) {n : Nat} {g : Nat → Option Nat} (he : f a = .inl (kc 2, n, .inr (.inr (.inr (.inr g))))) {i : Nat} (hin : i < n) (hn : n < 2 ^ 31) (hdg : decode cc pc = .ok (.aaload, 1)) (kk : W p l e R s m args below meth c H locs cells slots Q (F0 m (pc + 1) ls (va_rf (g i) :: rest))) : W p l e R s m args below meth c H locs cells slots Q (F0 m pc ls (.int (nI i) :: .ref a :: rest)) := pg_aald hC.1.1.1 hC.1.1.2.1 hC.2.1 hw ha he 2 rfl hin hn hdg kk
theorem ald_G (hC : Kx p m c cc nL s args c0 own meth ret D kc A) (hw : pw D Cls A s.heap H locs L f) (ha : a ∈ L) {n : Nat} {g : Nat → Option Nat} (he : f a = .inl (kc 4, n, .inr (.inr (.inr (.inr g))))) {i : Nat} (hin : i < n) (hn : n < 2 ^ 31) (hdg : decode cc pc = .ok (.aaload, 1)) (kk : W p l e R s m args below meth c H locs cells slots Q (F0 m (pc + 1) ls (va_rf (g i) :: rest))) : W p l e R s m args below meth c H locs cells slots Q (F0 m pc ls (.int (nI i) :: .ref a :: rest)) := by
  obtain ⟨q0, h0⟩ := pg_at ha he
  have hv := vp_in_nI hin hn
  have hlt : (nI i).toNatClampNeg < n := by rw [nI_clamp (Nat.lt_trans hin hn)]; exact hin
  refine W.aald (v := va_rf (g i)) (ty := .array .byte) hC.1.1.1 hC.1.1.2.1 (hw.1 q0 _ h0) ((hC.2.1.2 4 _ rfl).1 n (fun j => va_rf (g j))) rfl (fun q => by cases q) (by show ¬ (nI i < 0 ∨ (arrV _ _ _).slots.size ≤ _); rw [arrV_size]; exact hv) (by show (arrV _ _ _).slots[_]? = _; rw [arrV_read _ _ hlt, nI_clamp (Nat.lt_trans hin hn)]) rfl rfl hdg kk
theorem ast_B (hC : Kx p m c cc nL s args c0 own meth ret D kc A) (hw : pw D Cls A s.heap H locs L f) (ha : a ∈ L) {n : Nat} {g : Nat → Int32} (he : f a = .inl (kc 0, n, .inl g)) {i : Nat} {x y : Int32} (hy : vp_nar .byte x = y) (hin : i < n) (hn : n < 2 ^ 31) (hdg : decode cc pc = .ok (.bastore, 1))
    (kk : ∀ (H1 : Heap) (locs1 : List Loc), pw D Cls A s.heap H1 locs1 L (va_up f a (.inl (kc 0, n, .inl (upd g i y)))) → W p l e R s m args below meth c H1 locs1 cells slots Q (F0 m (pc + 1) ls rest)) : W p l e R s m args below meth c H locs cells slots Q (F0 m pc ls (.int x :: .int (nI i) :: .ref a :: rest)) := pg_bast hC.1.1.1 hC.1.1.2.1 hC.2.1 hw ha he 0 rfl hy hin hn hdg kk
theorem ast_I (hC : Kx p m c cc nL s args c0 own meth ret D kc A) (hw : pw D Cls A s.heap H locs L f) (ha : a ∈ L) {n : Nat} {g : Nat → Int32} (he : f a = .inl (kc 3, n, .inl g)) {i : Nat} {x : Int32} (hin : i < n) (hn : n < 2 ^ 31) (hdg : decode cc pc = .ok (.iastore, 1))
    (kk : ∀ (H1 : Heap) (locs1 : List Loc), pw D Cls A s.heap H1 locs1 L (va_up f a (.inl (kc 3, n, .inl (upd g i x)))) → W p l e R s m args below meth c H1 locs1 cells slots Q (F0 m (pc + 1) ls rest)) : W p l e R s m args below meth c H locs cells slots Q (F0 m pc ls (.int x :: .int (nI i) :: .ref a :: rest)) := pg_iast hC.1.1.1 hC.1.1.2.1 hC.2.1 hw ha he 3 rfl hin hn hdg kk
theorem ast_M (hC : Kx p m c cc nL s args c0 own meth ret D kc A) (hw : pw D Cls A s.heap H locs L f) (ha : a ∈ L) {n v : Nat} {vs : List Value} {g : Nat → Option Nat} (he : f a = .inl (kc 1, n, .inr (.inr (.inr (.inr g))))) (hv : v ∈ L) (hve : f v = .inr (0, vs)) {i : Nat} (hin : i < n) (hn : n < 2 ^ 31) (hdg : decode cc pc = .ok (.aastore, 1))
    (kk : ∀ (H1 : Heap) (locs1 : List Loc), pw D Cls A s.heap H1 locs1 L (va_up f a (.inl (kc 1, n, .inr (.inr (.inr (.inr (va_up g i (some v)))))))) → W p l e R s m args below meth c H1 locs1 cells slots Q (F0 m (pc + 1) ls rest)) : W p l e R s m args below meth c H locs cells slots Q (F0 m pc ls (.ref v :: .int (nI i) :: .ref a :: rest)) := pg_aast (r := (R_M, T_M, 3)) hC.1.1.1 hC.1.1.2.1 hC.2.1 hw ha he 1 rfl hv hve rfl hin hn hdg kk
theorem ast_R (hC : Kx p m c cc nL s args c0 own meth ret D kc A) (hw : pw D Cls A s.heap H locs L f) (ha : a ∈ L) {n v : Nat} {vs : List Value} {g : Nat → Option Nat} (he : f a = .inl (kc 2, n, .inr (.inr (.inr (.inr g))))) (hv : v ∈ L) (hve : f v = .inr (1, vs)) {i : Nat} (hin : i < n) (hn : n < 2 ^ 31) (hdg : decode cc pc = .ok (.aastore, 1))
    (kk : ∀ (H1 : Heap) (locs1 : List Loc), pw D Cls A s.heap H1 locs1 L (va_up f a (.inl (kc 2, n, .inr (.inr (.inr (.inr (va_up g i (some v)))))))) → W p l e R s m args below meth c H1 locs1 cells slots Q (F0 m (pc + 1) ls rest)) : W p l e R s m args below meth c H locs cells slots Q (F0 m pc ls (.ref v :: .int (nI i) :: .ref a :: rest)) := pg_aast (r := (R_W, T_W, 1)) hC.1.1.1 hC.1.1.2.1 hC.2.1 hw ha he 2 rfl hv hve rfl hin hn hdg kk
theorem ast_G (hC : Kx p m c cc nL s args c0 own meth ret D kc A) (hw : pw D Cls A s.heap H locs L f) (ha : a ∈ L) {n v nv : Nat} {gv : Nat → Int32} {g : Nat → Option Nat} (he : f a = .inl (kc 4, n, .inr (.inr (.inr (.inr g))))) (hv : v ∈ L) (hve : f v = .inl (kc 0, nv, .inl gv)) {i : Nat} (hin : i < n) (hn : n < 2 ^ 31) (hdg : decode cc pc = .ok (.aastore, 1))
    (kk : ∀ (H1 : Heap) (locs1 : List Loc), pw D Cls A s.heap H1 locs1 L (va_up f a (.inl (kc 4, n, .inr (.inr (.inr (.inr (va_up g i (some v)))))))) → W p l e R s m args below meth c H1 locs1 cells slots Q (F0 m (pc + 1) ls rest)) : W p l e R s m args below meth c H locs cells slots Q (F0 m pc ls (.ref v :: .int (nI i) :: .ref a :: rest)) := by
  obtain ⟨q0, h0⟩ := pg_at ha he
  obtain ⟨q1, h1⟩ := pg_at hv hve
  have hi31 := Nat.lt_trans hin hn
  obtain ⟨comp, c9, k9, f1, -, f3, f4, f5⟩ := arrayOverA_spec hC.2.2.1.2.2.2.2.2.1
  have hcA : kc 4 = c9 := Option.some.inj ((show s.vm.findClass _ = some (kc 4) from (hC.2.1.2 4 _ rfl).2).symm.trans f5)
  have hcB : kc 0 = comp := Option.some.inj ((show s.vm.findClass _ = some (kc 0) from (hC.2.1.2 0 _ rfl).2).symm.trans f1)
  obtain ⟨kC, hkC, -⟩ := Vm.findClass_spec f1
  refine W.aast hC.1.1.1 hC.1.1.2.1 (hw.1 q0 _ h0) (fun q h => by cases h) (fun h => by cases h) (show s.vm.classes[kc 4]? = some k9 by rw [hcA]; exact f3) f4 rfl hkC ⟨nI_pos hi31, by show _ < (arrV _ _ _).slots.size; rw [arrV_size, nI_clamp hi31]; exact hin⟩ (hw.1 q1 _ h1) (fun q h => by cases h) (show s.vm.classes[kc 0]? = some kC by rw [hcB]; exact hkC) (show s.vm.assignable (kc 0) comp = true by rw [hcB]; exact va_asg _ _) rfl rfl hdg fun H1 e z oq => ?_
  refine kk H1 _ ⟨?_, ?_, hw.2.2.put z oq (hw.2.1.2 q0 _ h0)⟩
  · rw [← pg_set (e := .inl (kc 4, n, .inr (.inr (.inr (.inr (va_up g i (some v))))))) hw.2.1 ha he h0]
    refine hw.1.set hw.2.1 h0 ?_ oq
    show H1[a]? = some (vp_cell _ _)
    rw [e]
    show some ((vp_cell _ _).setSlot _ _) = _
    rw [vp_cell_q, vp_cell_q, arrV_store, nI_clamp hi31]
    congr 2
    funext q
    by_cases hq : q = i
    · subst hq
      simp [updV, va_up, va_rf]
    · simp [updV, va_up, hq]
  · rw [← pg_set (e := .inl (kc 4, n, .inr (.inr (.inr (.inr (va_up g i (some v))))))) hw.2.1 ha he h0]
    exact hw.2.1.set h0
theorem len_B (hC : Kx p m c cc nL s args c0 own meth ret D kc A) (hw : pw D Cls A s.heap H locs L f) (ha : a ∈ L) {x : vp_A} (he : f a = .inl (kc 0, x)) (hdg : decode cc pc = .ok (.arraylength, 1)) (kk : W p l e R s m args below meth c H locs cells slots Q (F0 m (pc + 1) ls (.int (nI x.1) :: rest))) : W p l e R s m args below meth c H locs cells slots Q (F0 m pc ls (.ref a :: rest)) := pg_alen hC.1.1.1 hC.1.1.2.1 hC.2.1 hw ha he 0 rfl hdg kk
theorem len_M (hC : Kx p m c cc nL s args c0 own meth ret D kc A) (hw : pw D Cls A s.heap H locs L f) (ha : a ∈ L) {x : vp_A} (he : f a = .inl (kc 1, x)) (hdg : decode cc pc = .ok (.arraylength, 1)) (kk : W p l e R s m args below meth c H locs cells slots Q (F0 m (pc + 1) ls (.int (nI x.1) :: rest))) : W p l e R s m args below meth c H locs cells slots Q (F0 m pc ls (.ref a :: rest)) := pg_alen hC.1.1.1 hC.1.1.2.1 hC.2.1 hw ha he 1 rfl hdg kk
theorem len_R (hC : Kx p m c cc nL s args c0 own meth ret D kc A) (hw : pw D Cls A s.heap H locs L f) (ha : a ∈ L) {x : vp_A} (he : f a = .inl (kc 2, x)) (hdg : decode cc pc = .ok (.arraylength, 1)) (kk : W p l e R s m args below meth c H locs cells slots Q (F0 m (pc + 1) ls (.int (nI x.1) :: rest))) : W p l e R s m args below meth c H locs cells slots Q (F0 m pc ls (.ref a :: rest)) := pg_alen hC.1.1.1 hC.1.1.2.1 hC.2.1 hw ha he 2 rfl hdg kk
theorem len_I (hC : Kx p m c cc nL s args c0 own meth ret D kc A) (hw : pw D Cls A s.heap H locs L f) (ha : a ∈ L) {x : vp_A} (he : f a = .inl (kc 3, x)) (hdg : decode cc pc = .ok (.arraylength, 1)) (kk : W p l e R s m args below meth c H locs cells slots Q (F0 m (pc + 1) ls (.int (nI x.1) :: rest))) : W p l e R s m args below meth c H locs cells slots Q (F0 m pc ls (.ref a :: rest)) := pg_alen hC.1.1.1 hC.1.1.2.1 hC.2.1 hw ha he 3 rfl hdg kk
theorem len_G (hC : Kx p m c cc nL s args c0 own meth ret D kc A) (hw : pw D Cls A s.heap H locs L f) (ha : a ∈ L) {x : vp_A} (he : f a = .inl (kc 4, x)) (hdg : decode cc pc = .ok (.arraylength, 1)) (kk : W p l e R s m args below meth c H locs cells slots Q (F0 m (pc + 1) ls (.int (nI x.1) :: rest))) : W p l e R s m args below meth c H locs cells slots Q (F0 m pc ls (.ref a :: rest)) := pg_alen hC.1.1.1 hC.1.1.2.1 hC.2.1 hw ha he 4 rfl hdg kk
theorem len_J (hC : Kx p m c cc nL s args c0 own meth ret D kc A) (hw : pw D Cls A s.heap H locs L f) (ha : a ∈ L) {x : vp_A} (he : f a = .inl (kc 5, x)) (hdg : decode cc pc = .ok (.arraylength, 1)) (kk : W p l e R s m args below meth c H locs cells slots Q (F0 m (pc + 1) ls (.int (nI x.1) :: rest))) : W p l e R s m args below meth c H locs cells slots Q (F0 m pc ls (.ref a :: rest)) := pg_alen hC.1.1.1 hC.1.1.2.1 hC.2.1 hw ha he 5 rfl hdg kk
theorem newB (hC : Kx p m c cc nL s args c0 own meth ret D kc A) (hw : pw D Cls A s.heap H locs L f) (hl : Cond.arrayClass .byte ∈ GG) {N' : Nat} (hn : N' < 2 ^ 28) (hcells : cells + 1 ≤ R.cells) (hslots : slots + N' ≤ R.slots) (hdg : decode cc pc = .ok (.newarray .byte, 2))
    (kk : ∀ (q : Nat) (H1 : Heap), q ∉ L → pw D Cls A s.heap H1 locs (L ++ [q]) (va_up f q (.inl (kc 0, N', .inl (fun _ => 0)))) → W p l e R s m args below meth c H1 locs (cells + 1) (slots + N') Q (F0 m (pc + 2) ls (.ref q :: rest))) : W p l e R s m args below meth c H locs cells slots Q (F0 m pc ls (.int (nI N') :: rest)) :=
  pg_newa (atype := .byte) (ty := .byte) (a0 := (N', .inl (fun _ => 0))) hC.1.1.1 hC.1.1.2.1 (hC.1.1.2.2.2.2 _ (gg_mem hl)) rfl hC.2.1 hw hC.2.2.2 (fun cA => rfl) (Nat.lt_trans hn (by decide)) (by show N' * 1 ≤ _; omega) hcells hslots hdg (fun q cA H1 hk hq hw => kk q H1 hq (by rw [← ty_same0 hk]; exact hw))
theorem newI (hC : Kx p m c cc nL s args c0 own meth ret D kc A) (hw : pw D Cls A s.heap H locs L f) (hl : Cond.arrayClass .int ∈ GG) {N' : Nat} (hn : N' < 2 ^ 20) (hcells : cells + 1 ≤ R.cells) (hslots : slots + N' ≤ R.slots) (hdg : decode cc pc = .ok (.newarray .int, 2))
    (kk : ∀ (q : Nat) (H1 : Heap), q ∉ L → pw D Cls A s.heap H1 locs (L ++ [q]) (va_up f q (.inl (kc 3, N', .inl (fun _ => 0)))) → W p l e R s m args below meth c H1 locs (cells + 1) (slots + N') Q (F0 m (pc + 2) ls (.ref q :: rest))) : W p l e R s m args below meth c H locs cells slots Q (F0 m pc ls (.int (nI N') :: rest)) :=
  pg_newa (atype := .int) (ty := .int) (a0 := (N', .inl (fun _ => 0))) hC.1.1.1 hC.1.1.2.1 (hC.1.1.2.2.2.2 _ (gg_mem hl)) rfl hC.2.1 hw hC.2.2.2 (fun cA => rfl) (Nat.lt_trans hn (by decide)) (by show N' * 4 ≤ _; omega) hcells hslots hdg (fun q cA H1 hk hq hw => kk q H1 hq (by rw [← ty_same3 hk]; exact hw))
theorem newJ (hC : Kx p m c cc nL s args c0 own meth ret D kc A) (hw : pw D Cls A s.heap H locs L f) (hl : Cond.arrayClass .long ∈ GG) {N' : Nat} (hn : N' < 2 ^ 20) (hcells : cells + 1 ≤ R.cells) (hslots : slots + N' ≤ R.slots) (hdg : decode cc pc = .ok (.newarray .long, 2))
    (kk : ∀ (q : Nat) (H1 : Heap), q ∉ L → pw D Cls A s.heap H1 locs (L ++ [q]) (va_up f q (.inl (kc 5, N', .inr (.inl (fun _ => 0))))) → W p l e R s m args below meth c H1 locs (cells + 1) (slots + N') Q (F0 m (pc + 2) ls (.ref q :: rest))) : W p l e R s m args below meth c H locs cells slots Q (F0 m pc ls (.int (nI N') :: rest)) :=
  pg_newa (atype := .long) (ty := .long) (a0 := (N', .inr (.inl (fun _ => 0)))) hC.1.1.1 hC.1.1.2.1 (hC.1.1.2.2.2.2 _ (gg_mem hl)) rfl hC.2.1 hw hC.2.2.2 (fun cA => rfl) (Nat.lt_trans hn (by decide)) (by show N' * 8 ≤ _; omega) hcells hslots hdg (fun q cA H1 hk hq hw => kk q H1 hq (by rw [← ty_same5 hk]; exact hw))
theorem newM (hC : Kx p m c cc nL s args c0 own meth ret D kc A) (hw : pw D Cls A s.heap H locs L f) {index : Nat} (hl : Cond.classLink own index R_M ∈ GG) {N' : Nat} (hn : N' < 2 ^ 20) (hcells : cells + 1 ≤ R.cells) (hslots : slots + N' ≤ R.slots) (hdg : decode cc pc = .ok (.anewarray index, 3))
    (kk : ∀ (q : Nat) (H1 : Heap), q ∉ L → pw D Cls A s.heap H1 locs (L ++ [q]) (va_up f q (.inl (kc 1, N', .inr (.inr (.inr (.inr (fun _ => none))))))) → W p l e R s m args below meth c H1 locs (cells + 1) (slots + N') Q (F0 m (pc + 3) ls (.ref q :: rest))) : W p l e R s m args below meth c H locs cells slots Q (F0 m pc ls (.int (nI N') :: rest)) :=
  pg_newq hC.1.1.1 hC.1.1.2.1 hC.1.1.2.2.2.1 (hC.1.1.2.2.2.2 _ (gg_mem hl)) hC.2.2.1.2.2.2.1 hC.2.1 hw hC.2.2.2 (Nat.lt_trans hn (by decide)) (by omega) hcells hslots hdg (fun q cA H1 hk hq hw => kk q H1 hq (by rw [← ty_same1 hk]; exact hw))
theorem newR (hC : Kx p m c cc nL s args c0 own meth ret D kc A) (hw : pw D Cls A s.heap H locs L f) {index : Nat} (hl : Cond.classLink own index R_W ∈ GG) {N' : Nat} (hn : N' < 2 ^ 20) (hcells : cells + 1 ≤ R.cells) (hslots : slots + N' ≤ R.slots) (hdg : decode cc pc = .ok (.anewarray index, 3))
    (kk : ∀ (q : Nat) (H1 : Heap), q ∉ L → pw D Cls A s.heap H1 locs (L ++ [q]) (va_up f q (.inl (kc 2, N', .inr (.inr (.inr (.inr (fun _ => none))))))) → W p l e R s m args below meth c H1 locs (cells + 1) (slots + N') Q (F0 m (pc + 3) ls (.ref q :: rest))) : W p l e R s m args below meth c H locs cells slots Q (F0 m pc ls (.int (nI N') :: rest)) :=
  pg_newq hC.1.1.1 hC.1.1.2.1 hC.1.1.2.2.2.1 (hC.1.1.2.2.2.2 _ (gg_mem hl)) hC.2.2.1.2.2.2.2.1 hC.2.1 hw hC.2.2.2 (Nat.lt_trans hn (by decide)) (by omega) hcells hslots hdg (fun q cA H1 hk hq hw => kk q H1 hq (by rw [← ty_same2 hk]; exact hw))
theorem newG (hC : Kx p m c cc nL s args c0 own meth ret D kc A) (hw : pw D Cls A s.heap H locs L f) {index : Nat} (hl : Cond.classLink own index (FieldType.array .byte).toString ∈ GG) {N' : Nat} (hn : N' < 2 ^ 20) (hcells : cells + 1 ≤ R.cells) (hslots : slots + N' ≤ R.slots) (hdg : decode cc pc = .ok (.anewarray index, 3))
    (kk : ∀ (q : Nat) (H1 : Heap), q ∉ L → pw D Cls A s.heap H1 locs (L ++ [q]) (va_up f q (.inl (kc 4, N', .inr (.inr (.inr (.inr (fun _ => none))))))) → W p l e R s m args below meth c H1 locs (cells + 1) (slots + N') Q (F0 m (pc + 3) ls (.ref q :: rest))) : W p l e R s m args below meth c H locs cells slots Q (F0 m pc ls (.int (nI N') :: rest)) := by
  have hn31 : N' < 2 ^ 31 := Nat.lt_trans hn (by decide)
  refine W.anewA hC.1.1.1 hC.1.1.2.1 hC.1.1.2.2.2.1 (hC.1.1.2.2.2.2 _ (gg_mem hl)) (show (Cond.arrayOver (.array .byte)).before args s = true from hC.2.2.1.2.2.2.2.2.1) rfl hdg rfl (nI_pos hn31) (by rw [nI_clamp hn31]; omega) hcells (by rw [nI_clamp hn31]; exact hslots) fun cA kA comp f1 f2 f3 f4 => ?_
  have hcA : cA = kc 4 := Option.some.inj (f1.symm.trans (show s.vm.findClass _ = some (kc 4) from (hC.2.1.2 4 _ rfl).2))
  rw [nI_clamp hn31]
  generalize hH1 : H.push ({ cls := cA, slots := Array.replicate N' .null, vm := .none } : Cell) = H1
  have z1 : H1.size = H.size + 1 := by rw [← hH1, Array.size_push]
  have e1 : H1[H.size]? = some (arrV cA N' (fun _ => .null)) := by rw [← hH1, Array.getElem?_push_size, ← arrV_new]
  have o1 : ∀ q : Nat, q < H.size → H1[q]? = H[q]? := fun q hq => by rw [← hH1, Array.getElem?_push, if_neg (Nat.ne_of_lt hq)]
  have hk : ∀ (k : Nat) (x : Nat × va_E), (va_pl L f)[k]? = some x → H1[x.1]? = H[x.1]? := fun k x hx => o1 x.1 ((hw.1 k x hx).lt)
  have hP2 : va_P D Cls (va_pl L f ++ [(H.size, .inl (kc 4, N', .inr (.inr (.inr (.inr (fun _ => none))))))]) H1 := by
    refine (hw.1.kept hk).app (fun k x hx => ?_)
    have hz : k < 1 := (List.getElem?_eq_some_iff.mp hx).1
    rw [show k = 0 by omega] at hx
    cases hx
    show H1[H.size]? = some (vp_cell _ _)
    rw [vp_cell_q, ← hcA]
    exact e1
  have hD2 : va_D A (va_pl L f ++ [(H.size, .inl (kc 4, N', .inr (.inr (.inr (.inr (fun _ => none))))))]) := hw.2.1.push hw.1 rfl (hC.2.2.2 _ hw.2.2.1)
  obtain ⟨hq, he⟩ := pg_push hD2
  rw [he] at hP2 hD2
  exact kk H.size H1 hq ⟨hP2, hD2, ⟨Nat.le_trans hw.2.2.1 (by omega), fun x h1 h2 => (o1 x (Nat.lt_of_lt_of_le h1 hw.2.2.1)).trans (hw.2.2.2.1 x h1 h2), hw.2.2.2.2⟩⟩
end KX
end
section
/-! CALLS IN A CONTEXT -/
section KC
variable {D : va_G} {kc : Nat → ClassId} {L : List Nat} {f : Nat → va_E}
variable {p : Program} {l : Launch} {e : Env} {R : Room} {s : State} {m : MethodId} {args : Array Value} {below : List Frame} {meth : Method} {c : Code} {H : Heap} {locs : List Loc} {cells slots : Nat} {Q : State → Prop} {A : Nat → Prop}
variable {cc : ByteArray} {nL : Nat} {c0 : Cond} {own : String} {ret : Option FieldType} {pc : Nat} {ls : Array Slot} {rest st0 : List Value} {a : Nat}
variable {y : MethodName} {bytes : ByteArray} {maxL index mc ms : Nat} {rt : Option FieldType} {rm : Room} {As : List Value} {C : String} {b ci N n9 : Nat} {T : u_T} {fs : List Value}
theorem pg_callXq {aa : Array Value} {ok : String → pU → Prop} {post : Option Nat → pU → Prop} (hr : vx_Run p l e R s m args below meth c H locs cells slots mc ms (F0 m pc ls st0) rest (va_Qq post (pB D Cls (pA L f H.size)) (pA L f H.size) aa) (pXC D Cls (pA L f H.size) ok) (pA L f H.size)) (hw : pw D Cls A s.heap H locs L f) (hA : ∀ q, s.heap.size ≤ q → A q)
    (kx : ∀ (E : String) (ce : Cell) (q9 : Addr) (u : pU) (H1 : Heap) (locs1 : List Loc), ok E u → pw D Cls A s.heap H1 locs1 u.1 u.2 → H1[q9]? = some ce → ce.vm = .none → s.vm.findClass E = some ce.cls → vx_W p l e R s m args below meth c H1 locs1 (cells + mc) (slots + ms) Q (F0 m pc ls rest) q9)
    (kk : ∀ (r : Option Nat) (u : pU) (H1 : Heap) (locs1 : List Loc), post r u → pw D Cls A s.heap H1 locs1 u.1 u.2 → W p l e R s m args below meth c H1 locs1 (cells + mc) (slots + ms) Q (F0 m (pc + 3) ls (va_rf r :: rest))) : W p l e R s m args below meth c H locs cells slots Q (F0 m pc ls st0) := by
  intro T hT X
  rcases hr T hT X with ⟨v, st₀, t, T', L9, h0, X', hL, e1, e2, ⟨⟨r, u, hv, hp, hb⟩, hF⟩, st⟩ | ⟨q, st₀, t, T', L9, E, ce, h0, X', hL, e1, e2, ⟨u, -, hb, hF⟩, hce, hcv, hcl, st⟩
  · cases hv
    obtain ⟨k1, k2, k3⟩ := vx_keep h0 e1 hw.2.2 (fun q _ h => pg_free hw hA q h) (pg_free hw hA) hL hF
    obtain ⟨t2, a1, b1⟩ := kk r u T'.heap (locs ++ L9) hp (pg_back hw hA e1.symm hb k3) T' rfl X'
    exact ⟨t2, st t2 a1, b1⟩
  · obtain ⟨k1, k2, k3⟩ := vx_keep h0 e1 hw.2.2 (fun q _ h => pg_free hw hA q h) (pg_free hw hA) hL hF
    obtain ⟨t2, a1, b1⟩ := kx E ce q u T'.heap (locs ++ L9) hb.1 (pg_back hw hA e1.symm hb.2 k3) (by rw [e1]; exact hce) hcv hcl T' rfl X'
    exact ⟨t2, st.trans a1, b1⟩
theorem callVi {post : Int32 → pU → Prop} (hC : Kx p m c cc nL s args c0 own meth ret D kc A) (hw : pw D Cls A s.heap H locs L f) (hM : Met l y (Cond.code y bytes maxL rt :: GG) rm (PP D kc L f H.size (.ref b :: As)) (Qi D L f H.size post) mc ms (pA L f H.size)) (hco : Cond.code y bytes maxL rt ∈ GG) (hml : Cond.methodLink own index y ∈ GG) (him : Cond.instanceMethod y ∈ GG) (hse : Cond.selects C y y ∈ GG) (hin : Cond.initialized C ∈ GG) (hrc : rm.cells = mc) (hrs : rm.slots = ms) (hd : y.cls = C ∧ y.cls ≠ "java/lang/invoke/MethodHandle" ∧ y.cls ≠ "java/lang/invoke/VarHandle" ∧ (parseMethodDescriptor y.desc).map (fun d => d.parameters.length) = some n9) (hn9 : As.length = n9) (hR : rm.frames + 1 ≤ R.frames ∧ 8 + (maxL + 11) + rm.locals ≤ R.locals) (hb : b ∈ L) (he : f b = .inr (ci, fs)) (hcl : Cls[ci]? = some (C, T, N)) (hsz : ls.size = nL) (hst : st0 = As.reverse ++ .ref b :: rest) (hW : (rest.map fun v => v.category).sum ≤ 8) (hdg : decode cc pc = .ok (.invokevirtual index, 3)) (hf : cells + mc ≤ R.cells ∧ slots + ms ≤ R.slots)
     (kk : ∀ (r : Int32) (u : pU) (H1 : Heap) (locs1 : List Loc), post r u → pw D Cls A s.heap H1 locs1 u.1 u.2 → W p l e R s m args below meth c H1 locs1 (cells + mc) (slots + ms) Q (F0 m (pc + 3) ls (.int r :: rest))) : W p l e R s m args below meth c H locs cells slots Q (F0 m pc ls st0) :=
  pg_calli (va_runV (rest := rest) hC.1.1 hM (cwV n9 hC.1.1.2.2.2.2 (gg_V hco hml him hse hin) rfl hrc hrs hd hR) (pg_preV EX_ok hC.2.1 hw hC.2.2.2 hC.2.2.1 hb he hcl As) rfl hn9 hsz hst (lv_room hW) hdg hf) hw hC.2.2.2 kk
theorem callSi {post : Int32 → pU → Prop} (hC : Kx p m c cc nL s args c0 own meth ret D kc A) (hw : pw D Cls A s.heap H locs L f) (hM : Met l y (Cond.code y bytes maxL rt :: GG) rm (PP D kc L f H.size As) (Qi D L f H.size post) mc ms (pA L f H.size)) (hco : Cond.code y bytes maxL rt ∈ GG) (hml : Cond.methodLink own index y ∈ GG) (him : Cond.static y ∈ GG) (hin : Cond.initialized y.cls ∈ GG) (hrc : rm.cells = mc) (hrs : rm.slots = ms) (hd : y.cls ≠ "java/lang/invoke/MethodHandle" ∧ y.cls ≠ "java/lang/invoke/VarHandle" ∧ (parseMethodDescriptor y.desc).map (fun d => d.parameters.length) = some n9) (hn9 : As.length = n9) (hR : rm.frames + 1 ≤ R.frames ∧ 8 + (maxL + 11) + rm.locals ≤ R.locals) (hsz : ls.size = nL) (hst : st0 = As.reverse ++ rest) (hW : (rest.map fun v => v.category).sum ≤ 8) (hdg : decode cc pc = .ok (.invokestatic index, 3)) (hf : cells + mc ≤ R.cells ∧ slots + ms ≤ R.slots)
     (kk : ∀ (r : Int32) (u : pU) (H1 : Heap) (locs1 : List Loc), post r u → pw D Cls A s.heap H1 locs1 u.1 u.2 → W p l e R s m args below meth c H1 locs1 (cells + mc) (slots + ms) Q (F0 m (pc + 3) ls (.int r :: rest))) : W p l e R s m args below meth c H locs cells slots Q (F0 m pc ls st0) :=
  pg_calli (va_runS (rest := rest) hC.1.1 hM (va_cwS n9 hC.1.1.2.2.2.2 (gg_S hco hml him hin) rfl hrc hrs hd hR) (pg_preS EX_ok hC.2.1 hw hC.2.2.2 hC.2.2.1 As) rfl hn9 hsz hst (lv_room hW) hdg hf) hw hC.2.2.2 kk
theorem callVl {post : Int64 → pU → Prop} (hC : Kx p m c cc nL s args c0 own meth ret D kc A) (hw : pw D Cls A s.heap H locs L f) (hM : Met l y (Cond.code y bytes maxL rt :: GG) rm (PP D kc L f H.size (.ref b :: As)) (Ql D L f H.size post) mc ms (pA L f H.size)) (hco : Cond.code y bytes maxL rt ∈ GG) (hml : Cond.methodLink own index y ∈ GG) (him : Cond.instanceMethod y ∈ GG) (hse : Cond.selects C y y ∈ GG) (hin : Cond.initialized C ∈ GG) (hrc : rm.cells = mc) (hrs : rm.slots = ms) (hd : y.cls = C ∧ y.cls ≠ "java/lang/invoke/MethodHandle" ∧ y.cls ≠ "java/lang/invoke/VarHandle" ∧ (parseMethodDescriptor y.desc).map (fun d => d.parameters.length) = some n9) (hn9 : As.length = n9) (hR : rm.frames + 1 ≤ R.frames ∧ 8 + (maxL + 11) + rm.locals ≤ R.locals) (hb : b ∈ L) (he : f b = .inr (ci, fs)) (hcl : Cls[ci]? = some (C, T, N)) (hsz : ls.size = nL) (hst : st0 = As.reverse ++ .ref b :: rest) (hW : (rest.map fun v => v.category).sum ≤ 8) (hdg : decode cc pc = .ok (.invokevirtual index, 3)) (hf : cells + mc ≤ R.cells ∧ slots + ms ≤ R.slots)
     (kk : ∀ (r : Int64) (u : pU) (H1 : Heap) (locs1 : List Loc), post r u → pw D Cls A s.heap H1 locs1 u.1 u.2 → W p l e R s m args below meth c H1 locs1 (cells + mc) (slots + ms) Q (F0 m (pc + 3) ls (.long r :: rest))) : W p l e R s m args below meth c H locs cells slots Q (F0 m pc ls st0) :=
  pg_calll (va_runV (rest := rest) hC.1.1 hM (cwV n9 hC.1.1.2.2.2.2 (gg_V hco hml him hse hin) rfl hrc hrs hd hR) (pg_preV EX_ok hC.2.1 hw hC.2.2.2 hC.2.2.1 hb he hcl As) rfl hn9 hsz hst (lv_room hW) hdg hf) hw hC.2.2.2 kk
theorem callSl {post : Int64 → pU → Prop} (hC : Kx p m c cc nL s args c0 own meth ret D kc A) (hw : pw D Cls A s.heap H locs L f) (hM : Met l y (Cond.code y bytes maxL rt :: GG) rm (PP D kc L f H.size As) (Ql D L f H.size post) mc ms (pA L f H.size)) (hco : Cond.code y bytes maxL rt ∈ GG) (hml : Cond.methodLink own index y ∈ GG) (him : Cond.static y ∈ GG) (hin : Cond.initialized y.cls ∈ GG) (hrc : rm.cells = mc) (hrs : rm.slots = ms) (hd : y.cls ≠ "java/lang/invoke/MethodHandle" ∧ y.cls ≠ "java/lang/invoke/VarHandle" ∧ (parseMethodDescriptor y.desc).map (fun d => d.parameters.length) = some n9) (hn9 : As.length = n9) (hR : rm.frames + 1 ≤ R.frames ∧ 8 + (maxL + 11) + rm.locals ≤ R.locals) (hsz : ls.size = nL) (hst : st0 = As.reverse ++ rest) (hW : (rest.map fun v => v.category).sum ≤ 8) (hdg : decode cc pc = .ok (.invokestatic index, 3)) (hf : cells + mc ≤ R.cells ∧ slots + ms ≤ R.slots)
     (kk : ∀ (r : Int64) (u : pU) (H1 : Heap) (locs1 : List Loc), post r u → pw D Cls A s.heap H1 locs1 u.1 u.2 → W p l e R s m args below meth c H1 locs1 (cells + mc) (slots + ms) Q (F0 m (pc + 3) ls (.long r :: rest))) : W p l e R s m args below meth c H locs cells slots Q (F0 m pc ls st0) :=
  pg_calll (va_runS (rest := rest) hC.1.1 hM (va_cwS n9 hC.1.1.2.2.2.2 (gg_S hco hml him hin) rfl hrc hrs hd hR) (pg_preS EX_ok hC.2.1 hw hC.2.2.2 hC.2.2.1 As) rfl hn9 hsz hst (lv_room hW) hdg hf) hw hC.2.2.2 kk
theorem callVq {post : Option Nat → pU → Prop} (hC : Kx p m c cc nL s args c0 own meth ret D kc A) (hw : pw D Cls A s.heap H locs L f) (hM : Met l y (Cond.code y bytes maxL rt :: GG) rm (PP D kc L f H.size (.ref b :: As)) (Qq D L f H.size post) mc ms (pA L f H.size)) (hco : Cond.code y bytes maxL rt ∈ GG) (hml : Cond.methodLink own index y ∈ GG) (him : Cond.instanceMethod y ∈ GG) (hse : Cond.selects C y y ∈ GG) (hin : Cond.initialized C ∈ GG) (hrc : rm.cells = mc) (hrs : rm.slots = ms) (hd : y.cls = C ∧ y.cls ≠ "java/lang/invoke/MethodHandle" ∧ y.cls ≠ "java/lang/invoke/VarHandle" ∧ (parseMethodDescriptor y.desc).map (fun d => d.parameters.length) = some n9) (hn9 : As.length = n9) (hR : rm.frames + 1 ≤ R.frames ∧ 8 + (maxL + 11) + rm.locals ≤ R.locals) (hb : b ∈ L) (he : f b = .inr (ci, fs)) (hcl : Cls[ci]? = some (C, T, N)) (hsz : ls.size = nL) (hst : st0 = As.reverse ++ .ref b :: rest) (hW : (rest.map fun v => v.category).sum ≤ 8) (hdg : decode cc pc = .ok (.invokevirtual index, 3)) (hf : cells + mc ≤ R.cells ∧ slots + ms ≤ R.slots)
     (kk : ∀ (r : Option Nat) (u : pU) (H1 : Heap) (locs1 : List Loc), post r u → pw D Cls A s.heap H1 locs1 u.1 u.2 → W p l e R s m args below meth c H1 locs1 (cells + mc) (slots + ms) Q (F0 m (pc + 3) ls (va_rf r :: rest))) : W p l e R s m args below meth c H locs cells slots Q (F0 m pc ls st0) :=
  pg_callq (va_runV (rest := rest) hC.1.1 hM (cwV n9 hC.1.1.2.2.2.2 (gg_V hco hml him hse hin) rfl hrc hrs hd hR) (pg_preV EX_ok hC.2.1 hw hC.2.2.2 hC.2.2.1 hb he hcl As) rfl hn9 hsz hst (lv_room hW) hdg hf) hw hC.2.2.2 kk
theorem callSq {post : Option Nat → pU → Prop} (hC : Kx p m c cc nL s args c0 own meth ret D kc A) (hw : pw D Cls A s.heap H locs L f) (hM : Met l y (Cond.code y bytes maxL rt :: GG) rm (PP D kc L f H.size As) (Qq D L f H.size post) mc ms (pA L f H.size)) (hco : Cond.code y bytes maxL rt ∈ GG) (hml : Cond.methodLink own index y ∈ GG) (him : Cond.static y ∈ GG) (hin : Cond.initialized y.cls ∈ GG) (hrc : rm.cells = mc) (hrs : rm.slots = ms) (hd : y.cls ≠ "java/lang/invoke/MethodHandle" ∧ y.cls ≠ "java/lang/invoke/VarHandle" ∧ (parseMethodDescriptor y.desc).map (fun d => d.parameters.length) = some n9) (hn9 : As.length = n9) (hR : rm.frames + 1 ≤ R.frames ∧ 8 + (maxL + 11) + rm.locals ≤ R.locals) (hsz : ls.size = nL) (hst : st0 = As.reverse ++ rest) (hW : (rest.map fun v => v.category).sum ≤ 8) (hdg : decode cc pc = .ok (.invokestatic index, 3)) (hf : cells + mc ≤ R.cells ∧ slots + ms ≤ R.slots)
     (kk : ∀ (r : Option Nat) (u : pU) (H1 : Heap) (locs1 : List Loc), post r u → pw D Cls A s.heap H1 locs1 u.1 u.2 → W p l e R s m args below meth c H1 locs1 (cells + mc) (slots + ms) Q (F0 m (pc + 3) ls (va_rf r :: rest))) : W p l e R s m args below meth c H locs cells slots Q (F0 m pc ls st0) :=
  pg_callq (va_runS (rest := rest) hC.1.1 hM (va_cwS n9 hC.1.1.2.2.2.2 (gg_S hco hml him hin) rfl hrc hrs hd hR) (pg_preS EX_ok hC.2.1 hw hC.2.2.2 hC.2.2.1 As) rfl hn9 hsz hst (lv_room hW) hdg hf) hw hC.2.2.2 kk
theorem callVv {post : pU → Prop} (hC : Kx p m c cc nL s args c0 own meth ret D kc A) (hw : pw D Cls A s.heap H locs L f) (hM : Met l y (Cond.code y bytes maxL rt :: GG) rm (PP D kc L f H.size (.ref b :: As)) (Qv D L f H.size post) mc ms (pA L f H.size)) (hco : Cond.code y bytes maxL rt ∈ GG) (hml : Cond.methodLink own index y ∈ GG) (him : Cond.instanceMethod y ∈ GG) (hse : Cond.selects C y y ∈ GG) (hin : Cond.initialized C ∈ GG) (hrc : rm.cells = mc) (hrs : rm.slots = ms) (hd : y.cls = C ∧ y.cls ≠ "java/lang/invoke/MethodHandle" ∧ y.cls ≠ "java/lang/invoke/VarHandle" ∧ (parseMethodDescriptor y.desc).map (fun d => d.parameters.length) = some n9) (hn9 : As.length = n9) (hR : rm.frames + 1 ≤ R.frames ∧ 8 + (maxL + 11) + rm.locals ≤ R.locals) (hb : b ∈ L) (he : f b = .inr (ci, fs)) (hcl : Cls[ci]? = some (C, T, N)) (hsz : ls.size = nL) (hst : st0 = As.reverse ++ .ref b :: rest) (hW : (rest.map fun v => v.category).sum ≤ 8) (hdg : decode cc pc = .ok (.invokevirtual index, 3)) (hf : cells + mc ≤ R.cells ∧ slots + ms ≤ R.slots)
     (kk : ∀ (u : pU) (H1 : Heap) (locs1 : List Loc), post u → pw D Cls A s.heap H1 locs1 u.1 u.2 → W p l e R s m args below meth c H1 locs1 (cells + mc) (slots + ms) Q (F0 m (pc + 3) ls rest)) : W p l e R s m args below meth c H locs cells slots Q (F0 m pc ls st0) :=
  pg_callv (va_runV (rest := rest) hC.1.1 hM (cwV n9 hC.1.1.2.2.2.2 (gg_V hco hml him hse hin) rfl hrc hrs hd hR) (pg_preV EX_ok hC.2.1 hw hC.2.2.2 hC.2.2.1 hb he hcl As) rfl hn9 hsz hst (lv_room hW) hdg hf) hw hC.2.2.2 kk
theorem callSv {post : pU → Prop} (hC : Kx p m c cc nL s args c0 own meth ret D kc A) (hw : pw D Cls A s.heap H locs L f) (hM : Met l y (Cond.code y bytes maxL rt :: GG) rm (PP D kc L f H.size As) (Qv D L f H.size post) mc ms (pA L f H.size)) (hco : Cond.code y bytes maxL rt ∈ GG) (hml : Cond.methodLink own index y ∈ GG) (him : Cond.static y ∈ GG) (hin : Cond.initialized y.cls ∈ GG) (hrc : rm.cells = mc) (hrs : rm.slots = ms) (hd : y.cls ≠ "java/lang/invoke/MethodHandle" ∧ y.cls ≠ "java/lang/invoke/VarHandle" ∧ (parseMethodDescriptor y.desc).map (fun d => d.parameters.length) = some n9) (hn9 : As.length = n9) (hR : rm.frames + 1 ≤ R.frames ∧ 8 + (maxL + 11) + rm.locals ≤ R.locals) (hsz : ls.size = nL) (hst : st0 = As.reverse ++ rest) (hW : (rest.map fun v => v.category).sum ≤ 8) (hdg : decode cc pc = .ok (.invokestatic index, 3)) (hf : cells + mc ≤ R.cells ∧ slots + ms ≤ R.slots)
     (kk : ∀ (u : pU) (H1 : Heap) (locs1 : List Loc), post u → pw D Cls A s.heap H1 locs1 u.1 u.2 → W p l e R s m args below meth c H1 locs1 (cells + mc) (slots + ms) Q (F0 m (pc + 3) ls rest)) : W p l e R s m args below meth c H locs cells slots Q (F0 m pc ls st0) :=
  pg_callv (va_runS (rest := rest) hC.1.1 hM (va_cwS n9 hC.1.1.2.2.2.2 (gg_S hco hml him hin) rfl hrc hrs hd hR) (pg_preS EX_ok hC.2.1 hw hC.2.2.2 hC.2.2.1 As) rfl hn9 hsz hst (lv_room hW) hdg hf) hw hC.2.2.2 kk
theorem callXVi {ok : String → pU → Prop} {post : Int32 → pU → Prop} (hC : Kx p m c cc nL s args c0 own meth ret D kc A) (hw : pw D Cls A s.heap H locs L f) (hM : vx_Met l y (Cond.code y bytes maxL rt :: GG) rm (PP D kc L f H.size (.ref b :: As)) (Qi D L f H.size post) (XX D L f H.size ok) mc ms (pA L f H.size)) (hco : Cond.code y bytes maxL rt ∈ GG) (hml : Cond.methodLink own index y ∈ GG) (him : Cond.instanceMethod y ∈ GG) (hse : Cond.selects C y y ∈ GG) (hin : Cond.initialized C ∈ GG) (hrc : rm.cells = mc) (hrs : rm.slots = ms) (hd : y.cls = C ∧ y.cls ≠ "java/lang/invoke/MethodHandle" ∧ y.cls ≠ "java/lang/invoke/VarHandle" ∧ (parseMethodDescriptor y.desc).map (fun d => d.parameters.length) = some n9) (hn9 : As.length = n9) (hR : rm.frames + 1 ≤ R.frames ∧ 8 + (maxL + 11) + rm.locals ≤ R.locals) (hb : b ∈ L) (he : f b = .inr (ci, fs)) (hcl : Cls[ci]? = some (C, T, N)) (hsz : ls.size = nL) (hst : st0 = As.reverse ++ .ref b :: rest) (hW : (rest.map fun v => v.category).sum ≤ 8) (hdg : decode cc pc = .ok (.invokevirtual index, 3)) (hf : cells + mc ≤ R.cells ∧ slots + ms ≤ R.slots)
    (kx : ∀ (E : String) (ce : Cell) (q9 : Addr) (u : pU) (H1 : Heap) (locs1 : List Loc), ok E u → pw D Cls A s.heap H1 locs1 u.1 u.2 → H1[q9]? = some ce → ce.vm = .none → s.vm.findClass E = some ce.cls → vx_W p l e R s m args below meth c H1 locs1 (cells + mc) (slots + ms) Q (F0 m pc ls rest) q9) (kk : ∀ (r : Int32) (u : pU) (H1 : Heap) (locs1 : List Loc), post r u → pw D Cls A s.heap H1 locs1 u.1 u.2 → W p l e R s m args below meth c H1 locs1 (cells + mc) (slots + ms) Q (F0 m (pc + 3) ls (.int r :: rest))) : W p l e R s m args below meth c H locs cells slots Q (F0 m pc ls st0) :=
  pg_callXi (vx_runV (rest := rest) hC.1.1 hM (cwV n9 hC.1.1.2.2.2.2 (gg_V hco hml him hse hin) rfl hrc hrs hd hR) (pg_preV EX_ok hC.2.1 hw hC.2.2.2 hC.2.2.1 hb he hcl As) rfl hn9 hsz hst (lv_room hW) hdg hf) hw hC.2.2.2 kx kk
theorem callXSi {ok : String → pU → Prop} {post : Int32 → pU → Prop} (hC : Kx p m c cc nL s args c0 own meth ret D kc A) (hw : pw D Cls A s.heap H locs L f) (hM : vx_Met l y (Cond.code y bytes maxL rt :: GG) rm (PP D kc L f H.size As) (Qi D L f H.size post) (XX D L f H.size ok) mc ms (pA L f H.size)) (hco : Cond.code y bytes maxL rt ∈ GG) (hml : Cond.methodLink own index y ∈ GG) (him : Cond.static y ∈ GG) (hin : Cond.initialized y.cls ∈ GG) (hrc : rm.cells = mc) (hrs : rm.slots = ms) (hd : y.cls ≠ "java/lang/invoke/MethodHandle" ∧ y.cls ≠ "java/lang/invoke/VarHandle" ∧ (parseMethodDescriptor y.desc).map (fun d => d.parameters.length) = some n9) (hn9 : As.length = n9) (hR : rm.frames + 1 ≤ R.frames ∧ 8 + (maxL + 11) + rm.locals ≤ R.locals) (hsz : ls.size = nL) (hst : st0 = As.reverse ++ rest) (hW : (rest.map fun v => v.category).sum ≤ 8) (hdg : decode cc pc = .ok (.invokestatic index, 3)) (hf : cells + mc ≤ R.cells ∧ slots + ms ≤ R.slots)
    (kx : ∀ (E : String) (ce : Cell) (q9 : Addr) (u : pU) (H1 : Heap) (locs1 : List Loc), ok E u → pw D Cls A s.heap H1 locs1 u.1 u.2 → H1[q9]? = some ce → ce.vm = .none → s.vm.findClass E = some ce.cls → vx_W p l e R s m args below meth c H1 locs1 (cells + mc) (slots + ms) Q (F0 m pc ls rest) q9) (kk : ∀ (r : Int32) (u : pU) (H1 : Heap) (locs1 : List Loc), post r u → pw D Cls A s.heap H1 locs1 u.1 u.2 → W p l e R s m args below meth c H1 locs1 (cells + mc) (slots + ms) Q (F0 m (pc + 3) ls (.int r :: rest))) : W p l e R s m args below meth c H locs cells slots Q (F0 m pc ls st0) :=
  pg_callXi (vx_runS (rest := rest) hC.1.1 hM (va_cwS n9 hC.1.1.2.2.2.2 (gg_S hco hml him hin) rfl hrc hrs hd hR) (pg_preS EX_ok hC.2.1 hw hC.2.2.2 hC.2.2.1 As) rfl hn9 hsz hst (lv_room hW) hdg hf) hw hC.2.2.2 kx kk
theorem callXVl {ok : String → pU → Prop} {post : Int64 → pU → Prop} (hC : Kx p m c cc nL s args c0 own meth ret D kc A) (hw : pw D Cls A s.heap H locs L f) (hM : vx_Met l y (Cond.code y bytes maxL rt :: GG) rm (PP D kc L f H.size (.ref b :: As)) (Ql D L f H.size post) (XX D L f H.size ok) mc ms (pA L f H.size)) (hco : Cond.code y bytes maxL rt ∈ GG) (hml : Cond.methodLink own index y ∈ GG) (him : Cond.instanceMethod y ∈ GG) (hse : Cond.selects C y y ∈ GG) (hin : Cond.initialized C ∈ GG) (hrc : rm.cells = mc) (hrs : rm.slots = ms) (hd : y.cls = C ∧ y.cls ≠ "java/lang/invoke/MethodHandle" ∧ y.cls ≠ "java/lang/invoke/VarHandle" ∧ (parseMethodDescriptor y.desc).map (fun d => d.parameters.length) = some n9) (hn9 : As.length = n9) (hR : rm.frames + 1 ≤ R.frames ∧ 8 + (maxL + 11) + rm.locals ≤ R.locals) (hb : b ∈ L) (he : f b = .inr (ci, fs)) (hcl : Cls[ci]? = some (C, T, N)) (hsz : ls.size = nL) (hst : st0 = As.reverse ++ .ref b :: rest) (hW : (rest.map fun v => v.category).sum ≤ 8) (hdg : decode cc pc = .ok (.invokevirtual index, 3)) (hf : cells + mc ≤ R.cells ∧ slots + ms ≤ R.slots)
    (kx : ∀ (E : String) (ce : Cell) (q9 : Addr) (u : pU) (H1 : Heap) (locs1 : List Loc), ok E u → pw D Cls A s.heap H1 locs1 u.1 u.2 → H1[q9]? = some ce → ce.vm = .none → s.vm.findClass E = some ce.cls → vx_W p l e R s m args below meth c H1 locs1 (cells + mc) (slots + ms) Q (F0 m pc ls rest) q9) (kk : ∀ (r : Int64) (u : pU) (H1 : Heap) (locs1 : List Loc), post r u → pw D Cls A s.heap H1 locs1 u.1 u.2 → W p l e R s m args below meth c H1 locs1 (cells + mc) (slots + ms) Q (F0 m (pc + 3) ls (.long r :: rest))) : W p l e R s m args below meth c H locs cells slots Q (F0 m pc ls st0) :=
  pg_callXl (vx_runV (rest := rest) hC.1.1 hM (cwV n9 hC.1.1.2.2.2.2 (gg_V hco hml him hse hin) rfl hrc hrs hd hR) (pg_preV EX_ok hC.2.1 hw hC.2.2.2 hC.2.2.1 hb he hcl As) rfl hn9 hsz hst (lv_room hW) hdg hf) hw hC.2.2.2 kx kk
theorem callXSl {ok : String → pU → Prop} {post : Int64 → pU → Prop} (hC : Kx p m c cc nL s args c0 own meth ret D kc A) (hw : pw D Cls A s.heap H locs L f) (hM : vx_Met l y (Cond.code y bytes maxL rt :: GG) rm (PP D kc L f H.size As) (Ql D L f H.size post) (XX D L f H.size ok) mc ms (pA L f H.size)) (hco : Cond.code y bytes maxL rt ∈ GG) (hml : Cond.methodLink own index y ∈ GG) (him : Cond.static y ∈ GG) (hin : Cond.initialized y.cls ∈ GG) (hrc : rm.cells = mc) (hrs : rm.slots = ms) (hd : y.cls ≠ "java/lang/invoke/MethodHandle" ∧ y.cls ≠ "java/lang/invoke/VarHandle" ∧ (parseMethodDescriptor y.desc).map (fun d => d.parameters.length) = some n9) (hn9 : As.length = n9) (hR : rm.frames + 1 ≤ R.frames ∧ 8 + (maxL + 11) + rm.locals ≤ R.locals) (hsz : ls.size = nL) (hst : st0 = As.reverse ++ rest) (hW : (rest.map fun v => v.category).sum ≤ 8) (hdg : decode cc pc = .ok (.invokestatic index, 3)) (hf : cells + mc ≤ R.cells ∧ slots + ms ≤ R.slots)
    (kx : ∀ (E : String) (ce : Cell) (q9 : Addr) (u : pU) (H1 : Heap) (locs1 : List Loc), ok E u → pw D Cls A s.heap H1 locs1 u.1 u.2 → H1[q9]? = some ce → ce.vm = .none → s.vm.findClass E = some ce.cls → vx_W p l e R s m args below meth c H1 locs1 (cells + mc) (slots + ms) Q (F0 m pc ls rest) q9) (kk : ∀ (r : Int64) (u : pU) (H1 : Heap) (locs1 : List Loc), post r u → pw D Cls A s.heap H1 locs1 u.1 u.2 → W p l e R s m args below meth c H1 locs1 (cells + mc) (slots + ms) Q (F0 m (pc + 3) ls (.long r :: rest))) : W p l e R s m args below meth c H locs cells slots Q (F0 m pc ls st0) :=
  pg_callXl (vx_runS (rest := rest) hC.1.1 hM (va_cwS n9 hC.1.1.2.2.2.2 (gg_S hco hml him hin) rfl hrc hrs hd hR) (pg_preS EX_ok hC.2.1 hw hC.2.2.2 hC.2.2.1 As) rfl hn9 hsz hst (lv_room hW) hdg hf) hw hC.2.2.2 kx kk
theorem callXVq {ok : String → pU → Prop} {post : Option Nat → pU → Prop} (hC : Kx p m c cc nL s args c0 own meth ret D kc A) (hw : pw D Cls A s.heap H locs L f) (hM : vx_Met l y (Cond.code y bytes maxL rt :: GG) rm (PP D kc L f H.size (.ref b :: As)) (Qq D L f H.size post) (XX D L f H.size ok) mc ms (pA L f H.size)) (hco : Cond.code y bytes maxL rt ∈ GG) (hml : Cond.methodLink own index y ∈ GG) (him : Cond.instanceMethod y ∈ GG) (hse : Cond.selects C y y ∈ GG) (hin : Cond.initialized C ∈ GG) (hrc : rm.cells = mc) (hrs : rm.slots = ms) (hd : y.cls = C ∧ y.cls ≠ "java/lang/invoke/MethodHandle" ∧ y.cls ≠ "java/lang/invoke/VarHandle" ∧ (parseMethodDescriptor y.desc).map (fun d => d.parameters.length) = some n9) (hn9 : As.length = n9) (hR : rm.frames + 1 ≤ R.frames ∧ 8 + (maxL + 11) + rm.locals ≤ R.locals) (hb : b ∈ L) (he : f b = .inr (ci, fs)) (hcl : Cls[ci]? = some (C, T, N)) (hsz : ls.size = nL) (hst : st0 = As.reverse ++ .ref b :: rest) (hW : (rest.map fun v => v.category).sum ≤ 8) (hdg : decode cc pc = .ok (.invokevirtual index, 3)) (hf : cells + mc ≤ R.cells ∧ slots + ms ≤ R.slots)
    (kx : ∀ (E : String) (ce : Cell) (q9 : Addr) (u : pU) (H1 : Heap) (locs1 : List Loc), ok E u → pw D Cls A s.heap H1 locs1 u.1 u.2 → H1[q9]? = some ce → ce.vm = .none → s.vm.findClass E = some ce.cls → vx_W p l e R s m args below meth c H1 locs1 (cells + mc) (slots + ms) Q (F0 m pc ls rest) q9) (kk : ∀ (r : Option Nat) (u : pU) (H1 : Heap) (locs1 : List Loc), post r u → pw D Cls A s.heap H1 locs1 u.1 u.2 → W p l e R s m args below meth c H1 locs1 (cells + mc) (slots + ms) Q (F0 m (pc + 3) ls (va_rf r :: rest))) : W p l e R s m args below meth c H locs cells slots Q (F0 m pc ls st0) :=
  pg_callXq (vx_runV (rest := rest) hC.1.1 hM (cwV n9 hC.1.1.2.2.2.2 (gg_V hco hml him hse hin) rfl hrc hrs hd hR) (pg_preV EX_ok hC.2.1 hw hC.2.2.2 hC.2.2.1 hb he hcl As) rfl hn9 hsz hst (lv_room hW) hdg hf) hw hC.2.2.2 kx kk
theorem callXSq {ok : String → pU → Prop} {post : Option Nat → pU → Prop} (hC : Kx p m c cc nL s args c0 own meth ret D kc A) (hw : pw D Cls A s.heap H locs L f) (hM : vx_Met l y (Cond.code y bytes maxL rt :: GG) rm (PP D kc L f H.size As) (Qq D L f H.size post) (XX D L f H.size ok) mc ms (pA L f H.size)) (hco : Cond.code y bytes maxL rt ∈ GG) (hml : Cond.methodLink own index y ∈ GG) (him : Cond.static y ∈ GG) (hin : Cond.initialized y.cls ∈ GG) (hrc : rm.cells = mc) (hrs : rm.slots = ms) (hd : y.cls ≠ "java/lang/invoke/MethodHandle" ∧ y.cls ≠ "java/lang/invoke/VarHandle" ∧ (parseMethodDescriptor y.desc).map (fun d => d.parameters.length) = some n9) (hn9 : As.length = n9) (hR : rm.frames + 1 ≤ R.frames ∧ 8 + (maxL + 11) + rm.locals ≤ R.locals) (hsz : ls.size = nL) (hst : st0 = As.reverse ++ rest) (hW : (rest.map fun v => v.category).sum ≤ 8) (hdg : decode cc pc = .ok (.invokestatic index, 3)) (hf : cells + mc ≤ R.cells ∧ slots + ms ≤ R.slots)
    (kx : ∀ (E : String) (ce : Cell) (q9 : Addr) (u : pU) (H1 : Heap) (locs1 : List Loc), ok E u → pw D Cls A s.heap H1 locs1 u.1 u.2 → H1[q9]? = some ce → ce.vm = .none → s.vm.findClass E = some ce.cls → vx_W p l e R s m args below meth c H1 locs1 (cells + mc) (slots + ms) Q (F0 m pc ls rest) q9) (kk : ∀ (r : Option Nat) (u : pU) (H1 : Heap) (locs1 : List Loc), post r u → pw D Cls A s.heap H1 locs1 u.1 u.2 → W p l e R s m args below meth c H1 locs1 (cells + mc) (slots + ms) Q (F0 m (pc + 3) ls (va_rf r :: rest))) : W p l e R s m args below meth c H locs cells slots Q (F0 m pc ls st0) :=
  pg_callXq (vx_runS (rest := rest) hC.1.1 hM (va_cwS n9 hC.1.1.2.2.2.2 (gg_S hco hml him hin) rfl hrc hrs hd hR) (pg_preS EX_ok hC.2.1 hw hC.2.2.2 hC.2.2.1 As) rfl hn9 hsz hst (lv_room hW) hdg hf) hw hC.2.2.2 kx kk
theorem callXVv {ok : String → pU → Prop} {post : pU → Prop} (hC : Kx p m c cc nL s args c0 own meth ret D kc A) (hw : pw D Cls A s.heap H locs L f) (hM : vx_Met l y (Cond.code y bytes maxL rt :: GG) rm (PP D kc L f H.size (.ref b :: As)) (Qv D L f H.size post) (XX D L f H.size ok) mc ms (pA L f H.size)) (hco : Cond.code y bytes maxL rt ∈ GG) (hml : Cond.methodLink own index y ∈ GG) (him : Cond.instanceMethod y ∈ GG) (hse : Cond.selects C y y ∈ GG) (hin : Cond.initialized C ∈ GG) (hrc : rm.cells = mc) (hrs : rm.slots = ms) (hd : y.cls = C ∧ y.cls ≠ "java/lang/invoke/MethodHandle" ∧ y.cls ≠ "java/lang/invoke/VarHandle" ∧ (parseMethodDescriptor y.desc).map (fun d => d.parameters.length) = some n9) (hn9 : As.length = n9) (hR : rm.frames + 1 ≤ R.frames ∧ 8 + (maxL + 11) + rm.locals ≤ R.locals) (hb : b ∈ L) (he : f b = .inr (ci, fs)) (hcl : Cls[ci]? = some (C, T, N)) (hsz : ls.size = nL) (hst : st0 = As.reverse ++ .ref b :: rest) (hW : (rest.map fun v => v.category).sum ≤ 8) (hdg : decode cc pc = .ok (.invokevirtual index, 3)) (hf : cells + mc ≤ R.cells ∧ slots + ms ≤ R.slots)
    (kx : ∀ (E : String) (ce : Cell) (q9 : Addr) (u : pU) (H1 : Heap) (locs1 : List Loc), ok E u → pw D Cls A s.heap H1 locs1 u.1 u.2 → H1[q9]? = some ce → ce.vm = .none → s.vm.findClass E = some ce.cls → vx_W p l e R s m args below meth c H1 locs1 (cells + mc) (slots + ms) Q (F0 m pc ls rest) q9) (kk : ∀ (u : pU) (H1 : Heap) (locs1 : List Loc), post u → pw D Cls A s.heap H1 locs1 u.1 u.2 → W p l e R s m args below meth c H1 locs1 (cells + mc) (slots + ms) Q (F0 m (pc + 3) ls rest)) : W p l e R s m args below meth c H locs cells slots Q (F0 m pc ls st0) :=
  pg_callXv (vx_runV (rest := rest) hC.1.1 hM (cwV n9 hC.1.1.2.2.2.2 (gg_V hco hml him hse hin) rfl hrc hrs hd hR) (pg_preV EX_ok hC.2.1 hw hC.2.2.2 hC.2.2.1 hb he hcl As) rfl hn9 hsz hst (lv_room hW) hdg hf) hw hC.2.2.2 kx kk
theorem callXSv {ok : String → pU → Prop} {post : pU → Prop} (hC : Kx p m c cc nL s args c0 own meth ret D kc A) (hw : pw D Cls A s.heap H locs L f) (hM : vx_Met l y (Cond.code y bytes maxL rt :: GG) rm (PP D kc L f H.size As) (Qv D L f H.size post) (XX D L f H.size ok) mc ms (pA L f H.size)) (hco : Cond.code y bytes maxL rt ∈ GG) (hml : Cond.methodLink own index y ∈ GG) (him : Cond.static y ∈ GG) (hin : Cond.initialized y.cls ∈ GG) (hrc : rm.cells = mc) (hrs : rm.slots = ms) (hd : y.cls ≠ "java/lang/invoke/MethodHandle" ∧ y.cls ≠ "java/lang/invoke/VarHandle" ∧ (parseMethodDescriptor y.desc).map (fun d => d.parameters.length) = some n9) (hn9 : As.length = n9) (hR : rm.frames + 1 ≤ R.frames ∧ 8 + (maxL + 11) + rm.locals ≤ R.locals) (hsz : ls.size = nL) (hst : st0 = As.reverse ++ rest) (hW : (rest.map fun v => v.category).sum ≤ 8) (hdg : decode cc pc = .ok (.invokestatic index, 3)) (hf : cells + mc ≤ R.cells ∧ slots + ms ≤ R.slots)
    (kx : ∀ (E : String) (ce : Cell) (q9 : Addr) (u : pU) (H1 : Heap) (locs1 : List Loc), ok E u → pw D Cls A s.heap H1 locs1 u.1 u.2 → H1[q9]? = some ce → ce.vm = .none → s.vm.findClass E = some ce.cls → vx_W p l e R s m args below meth c H1 locs1 (cells + mc) (slots + ms) Q (F0 m pc ls rest) q9) (kk : ∀ (u : pU) (H1 : Heap) (locs1 : List Loc), post u → pw D Cls A s.heap H1 locs1 u.1 u.2 → W p l e R s m args below meth c H1 locs1 (cells + mc) (slots + ms) Q (F0 m (pc + 3) ls rest)) : W p l e R s m args below meth c H locs cells slots Q (F0 m pc ls st0) :=
  pg_callXv (vx_runS (rest := rest) hC.1.1 hM (va_cwS n9 hC.1.1.2.2.2.2 (gg_S hco hml him hin) rfl hrc hrs hd hR) (pg_preS EX_ok hC.2.1 hw hC.2.2.2 hC.2.2.1 As) rfl hn9 hsz hst (lv_room hW) hdg hf) hw hC.2.2.2 kx kk
theorem callCtor {post : pU → Prop} (hC : Kx p m c cc nL s args c0 own meth ret D kc A) (hw : pw D Cls A s.heap H locs L f) (hM : Met l y (Cond.code y bytes maxL none :: GG) rm (PP D kc L f H.size (.ref b :: As)) (Qv D L f H.size post) mc ms (pA L f H.size)) (hco : Cond.code y bytes maxL none ∈ GG) (hml : Cond.methodLink own index y ∈ GG) (him : Cond.instanceMethod y ∈ GG) (hin : Cond.initialized y.cls ∈ GG) (hrc : rm.cells = mc) (hrs : rm.slots = ms) (hnm : y.name = "<init>") (hd : y.cls ≠ "java/lang/invoke/MethodHandle" ∧ y.cls ≠ "java/lang/invoke/VarHandle" ∧ (parseMethodDescriptor y.desc).map (fun d => d.parameters.length) = some n9) (hn9 : As.length = n9) (hR : rm.frames + 1 ≤ R.frames ∧ 8 + (maxL + 11) + rm.locals ≤ R.locals) (hsz : ls.size = nL) (hst : st0 = As.reverse ++ .ref b :: rest) (hW : (rest.map fun v => v.category).sum ≤ 8) (hdg : decode cc pc = .ok (.invokespecial index, 3)) (hf : cells + mc ≤ R.cells ∧ slots + ms ≤ R.slots)
    (kk : ∀ (u : pU) (H1 : Heap) (locs1 : List Loc), post u → pw D Cls A s.heap H1 locs1 u.1 u.2 → W p l e R s m args below meth c H1 locs1 (cells + mc) (slots + ms) Q (F0 m (pc + 3) ls rest)) : W p l e R s m args below meth c H locs cells slots Q (F0 m pc ls st0) :=
  pg_callv (va_runI (rest := rest) hC.1.1 hM (cwI n9 hC.1.1.2.2.2.2 (gg_I hco) rfl hrc hrs (hC.1.1.2.2.2.2 _ (gg_mem hin)) (hC.1.1.2.2.2.2 _ (gg_mem hml)) (hC.1.1.2.2.2.2 _ (gg_mem him)) hnm hd hR) (pg_preS EX_ok hC.2.1 hw hC.2.2.2 hC.2.2.1 (.ref b :: As)) rfl hn9 hsz hst (lv_room hW) hdg hf) hw hC.2.2.2 kk
/-- Object's constructor -/
theorem callO (hC : Kx p m c cc nL s args c0 own meth ret D kc A) (hw : pw D Cls A s.heap H locs L f) (hsz : ls.size = nL) {b : Nat} (hml : Cond.methodLink own index objectInit ∈ GG) (hdg : decode cc pc = .ok (.invokespecial index, 3)) (hfr : 1 ≤ R.frames) (hlo : (rest.map fun v => v.category).sum + 12 ≤ R.locals) (kk : W p l e R s m args below meth c H locs cells slots Q (F0 m (pc + 3) ls rest)) : W p l e R s m args below meth c H locs cells slots Q (F0 m pc ls (.ref b :: rest)) := by
  refine W.objInit hC.1.1.1 hC.1.1.2.1 hC.1.1.2.2.2.1 (hC.1.1.2.2.2.2 _ (gg_mem hml)) (hC.1.1.2.2.2.2 _ (gg_mem k_im_JObject_init)) (hC.1.1.2.2.2.2 _ (gg_mem k_co_JObject_init)) rfl (by rw [hC.1.1.2.2.1]; exact hsz) rfl hdg hfr (by simpa using hlo) ?_
  exact W.eq rfl kk
end KC
end
section
/-! 'throw new E("..")' in PagedBytes -/
def exN : List String := ["java/lang/RuntimeException", "java/lang/Exception"]
def thr : List (String × Nat) := [(eIAE, 31), (eISE, 40), (eUOE, 45), (eIOB, 136)]
theorem thr_g : ∀ q ∈ thr, ∀ w ∈ (vx_atS R_P q.2 q.1 exN).filter goodWord, w ∈ lw_tbl := by decide +kernel
theorem thr_b : ∀ q ∈ thr, ∀ w ∈ (vx_atS R_P q.2 q.1 exN).filter (fun w => !goodWord w), w ∈ lw_tbl := by decide +kernel
theorem thr_d : ∀ q ∈ thr, ∀ w ∈ (vx_atS R_P q.2 q.1 exN).filter (fun w => !goodWord w), isDC w = true := by decide +kernel
theorem thr_o : ∀ q ∈ thr, ∀ w ∈ vx_atS R_P q.2 q.1 exN, vx_ot w = true := by decide +kernel
theorem thr_f : ∀ q ∈ thr, Bundle.fit q.1 = true := by decide +kernel
theorem exN_f : ∀ n ∈ exN, Bundle.fit n = true := by decide +kernel
section TH
variable {D : va_G} {kc : Nat → ClassId} {L : List Nat} {f : Nat → va_E}
variable {p : Program} {l : Launch} {e : Env} {R : Room} {s : State} {m : MethodId} {args : Array Value} {below : List Frame} {meth : Method} {c : Code} {H : Heap} {locs : List Loc} {cells slots : Nat} {A : Nat → Prop}
variable {cc : ByteArray} {nL : Nat} {c0 : Cond} {ret : Option FieldType} {pc : Nat} {ls : Array Slot} {rest : List Value}
theorem throwS {ok : String → pU → Prop} {Qc : Array Value → State → Outcome → State → Prop} {mc ms : Nat} (hC : Kx p m c cc nL s args c0 R_P meth ret D kc A) (hw : pw D Cls A s.heap H locs L f) (hl : l.stackTraces = false) (hex : ∀ x ∈ c.exceptionTable.toList, False) {cls : String} {ic ik is : Nat} (hq : (cls, ic) ∈ thr) (hk : Cond.classLink R_P ik cls ∈ GG) (hi : Cond.initialized cls ∈ GG) {text : String} (hstr : (is, text) ∈ STRs) (hsz : ls.size = nL)
    (d0 : decode cc pc = .ok (.new ik, 3)) (d3 : decode cc (pc + 3) = .ok (.dup, 1)) (d4 : decode cc (pc + 4) = .ok (.ldc is, 2)) (d6 : decode cc (pc + 6) = .ok (.invokespecial ic, 3)) (d9 : decode cc (pc + 9) = .ok (.athrow, 1))
    (hR : 5 < R.frames ∧ (rest.map fun v => v.category).sum + 82 ≤ R.locals ∧ cells + 1 ≤ R.cells ∧ slots + 6 ≤ R.slots) (hc : cells + 1 ≤ mc) (hs : slots + 6 ≤ ms) (ho : ok cls (L, f)) :
    W p l e R s m args below meth c H locs cells slots (vx_MQ below Qc (pXC D Cls A ok) args s mc ms A) (F0 m pc ls rest) := by
  obtain ⟨⟨⟨hx, hb, hml, hown, hts⟩, hr, hlocks⟩, hK, ⟨⟨hU, hN⟩, hDC, -, -, -, -, hST, -⟩, hA⟩ := hC
  obtain ⟨sa, hsa⟩ := hST _ hstr
  refine vx_throwS (names := exN) (sa := sa) (A := A) hx hb hl hown (thr_f _ hq) exN_f (hts _ (gg_mem hk)) (hts _ (gg_mem hi)) hsa ?_ ?_ hU hN hw.2.2 (hsz.trans hml.symm) d0 d3 d4 d6 d9 (fun x h => (hex x h).elim) (by show 2 + 3 < R.frames; exact hR.1) (by show _ + (13 * (2 + 1) + 43) ≤ R.locals; exact hR.2.1) hR.2.2.1 hR.2.2.2 hlocks ?_ hw.2.2.2.2 hc hs
  · intro w hw9
    cases hg : goodWord w with
    | true => exact hts _ (gg_mem (gg_of (thr_g _ hq w (List.mem_filter.mpr ⟨hw9, hg⟩)) hg))
    | false =>
      have hm : w ∈ (vx_atS R_P ic cls exN).filter (fun w => !goodWord w) := List.mem_filter.mpr ⟨hw9, by rw [hg]; rfl⟩
      have hd := thr_d _ hq w hm
      exact va_Nw.use (dc_onTables hd) (hDC w (List.mem_filter.mpr ⟨thr_b _ hq w hm, hd⟩))
  · intro w hw9
    rcases List.mem_cons.mp hw9 with rfl | h9
    · rfl
    · rcases List.mem_cons.mp h9 with rfl | h9
      · rfl
      · exact thr_o _ hq w h9
  · intro t _ hz hk9
    obtain ⟨h1, h2⟩ := pg_grown hw hz hk9
    exact ⟨(L, f), trivial, ⟨ho, h1⟩, h2⟩
end TH
end
section
/-! PagedBytes and Memory: the leaves -/
def uI (x : Int32) : Nat := x.toBitVec.toNat
theorem uI_lt (x : Int32) : uI x < 4294967296 := x.toBitVec.isLt
theorem uI_and (x : Int32) : x.toInt64 &&& 4294967295 = lN (uI x) := by
  apply Int64.toBitVec_inj.1
  rw [Int64.toBitVec_and, Int32.toBitVec_toInt64]
  show x.toBitVec.signExtend 64 &&& 4294967295#64 = BitVec.ofNat 64 x.toBitVec.toNat
  apply BitVec.eq_of_getLsbD_eq
  intro i hi
  have h2 : (4294967295#64).getLsbD i = decide (i < 32) := (by decide +kernel : ∀ i, i < 64 → (4294967295#64).getLsbD i = decide (i < 32)) i hi
  rw [BitVec.getLsbD_and, h2, BitVec.getLsbD_signExtend, BitVec.getLsbD_ofNat]
  rcases Nat.lt_or_ge i 32 with h | h
  · simp [h, hi, BitVec.getLsbD]
  · have : x.toBitVec.toNat.testBit i = false := Nat.testBit_lt_two_pow (Nat.lt_of_lt_of_le x.toBitVec.isLt (Nat.pow_le_pow_right (by decide) h))
    simp [Nat.not_lt.mpr h, this]
set_option maxHeartbeats 4000000 in
set_option maxRecDepth 100000 in
theorem c_withoutSign (l : Launch) (D : va_G) (kc : Nat → ClassId) (L : List Nat) (f : Nat → va_E) (sz : Nat) (a : Int32) : Met l y_P_withoutSign w_P_withoutSign ({ frames := 0, cells := 0, slots := 0, locals := 0 }) (PP D kc L f sz [.int a]) (Ql D L f sz (fun r u => r = lN (uI a) ∧ u = (L, f))) 0 0 (pA L f sz) := by
  refine kx_met (by decide) (Nat.le_of_ble_eq_true rfl) ?_
  intro p e s m below meth c hC hnm hw hsz ls hl
  subst hsz
  have hl : lv_has ls 1 [(0, .int a)] := hl
  obtain ⟨⟨⟨hx, hb, hml, hown, hts⟩, hret9, hlocks⟩, hK, hE, hA⟩ := id hC
  refine lv_iload_n hx hb d_P_withoutSign_0 rfl (lv_at hl 0 rfl) ?_
  refine lv_i2l hx hb d_P_withoutSign_1 rfl ?_
  refine lv_ldc2 (v := 4294967295) hx hb hown (hts _ (gg_mem k_cn_P_95)) d_P_withoutSign_2 ?_
  refine lv_land hx hb d_P_withoutSign_5 ?_
  refine tp_l (v := lN (uI a)) (uI_and a) ?_
  exact pg_lret hC.1 hw (⟨rfl, rfl⟩) d_P_withoutSign_6
set_option maxHeartbeats 4000000 in
set_option maxRecDepth 100000 in
theorem c_withSign (l : Launch) (D : va_G) (kc : Nat → ClassId) (L : List Nat) (f : Nat → va_E) (sz : Nat) (x : Int64) (n : Int32) : Met l y_P_withSign w_P_withSign ({ frames := 0, cells := 0, slots := 0, locals := 0 }) (PP D kc L f sz [.long x, .int n]) (Ql D L f sz (fun r u => r = (x <<< ((8 * (8 - n)).toInt64 &&& 63)) >>> ((8 * (8 - n)).toInt64 &&& 63) ∧ u = (L, f))) 0 0 (pA L f sz) := by
  refine kx_met (by decide) (Nat.le_of_ble_eq_true rfl) ?_
  intro p e s m below meth c hC hnm hw hsz ls hl
  subst hsz
  have hl : lv_has ls 4 [(0, .long x), (2, .int n)] := hl
  obtain ⟨⟨⟨hx, hb, hml, hown, hts⟩, hret9, hlocks⟩, hK, hE, hA⟩ := id hC
  refine lv_bipush (v := 8) hx hb d_P_withSign_0 (by decide) ?_
  refine lv_bipush (v := 8) hx hb d_P_withSign_2 (by decide) ?_
  refine lv_iload_n hx hb d_P_withSign_4 rfl (lv_at hl 1 rfl) ?_
  refine lv_isub hx hb d_P_withSign_5 ?_
  refine lv_imul hx hb d_P_withSign_6 ?_
  refine lv_istore_n (lv' := [(3, .int (8 * (8 - n))), (0, .long x), (2, .int n)]) hx hb d_P_withSign_7 rfl hl (by decide) rfl (fun ls hl => ?_)
  refine lv_lload_n hx hb d_P_withSign_8 rfl (lv_at hl 1 rfl) ?_
  refine lv_iload_n hx hb d_P_withSign_9 rfl (lv_at hl 0 rfl) ?_
  refine lv_lshl hx hb d_P_withSign_10 rfl ?_
  refine lv_iload_n hx hb d_P_withSign_11 rfl (lv_at hl 0 rfl) ?_
  refine lv_lshr hx hb d_P_withSign_12 rfl ?_
  exact pg_lret hC.1 hw (⟨rfl, rfl⟩) d_P_withSign_13
set_option maxHeartbeats 4000000 in
set_option maxRecDepth 100000 in
theorem c_kindOf (l : Launch) (hst : l.stackTraces = false) (D : va_G) (kc : Nat → ClassId) (L : List Nat) (f : Nat → va_E) (sz : Nat) (op fi ks : Int32) : vx_Met l y_P_kindOf w_P_kindOf ({ frames := 6, cells := 1, slots := 6, locals := 82 }) (PP D kc L f sz [.int op, .int fi, .int ks]) (Qi D L f sz (fun r u => r = op - fi ∧ (¬ op < fi ∧ op < fi + ks) ∧ u = (L, f))) (XX D L f sz (fun E u => E = eIAE ∧ ¬ (¬ op < fi ∧ op < fi + ks) ∧ u = (L, f))) 1 6 (pA L f sz) := by
  refine kx_metX (by decide) (Nat.le_of_ble_eq_true rfl) ?_
  intro p e s m below meth c hC hex hw hsz ls hl
  subst hsz
  have hl : lv_has ls 3 [(0, .int op), (1, .int fi), (2, .int ks)] := hl
  obtain ⟨⟨⟨hx, hb, hml, hown, hts⟩, hret9, hlocks⟩, hK, hE, hA⟩ := id hC
  refine lv_iload_n hx hb d_P_kindOf_0 rfl (lv_at hl 0 rfl) ?_
  refine lv_iload_n hx hb d_P_kindOf_1 rfl (lv_at hl 1 rfl) ?_
  refine lv_icmp_lt (tgt := 12) hx hb d_P_kindOf_2 (by decide) (fun c1 => ?_) (fun c1 => ?_)
  · exact throwS (cls := eIAE) (is := 124) (text := "there is no such load or store") hC hw hst hex (by decide +kernel) k_cl_P_27 k_in_JIllegalArgumentException (by decide +kernel) hl.1 d_P_kindOf_12 d_P_kindOf_15 d_P_kindOf_16 d_P_kindOf_18 d_P_kindOf_21 ⟨Nat.le_of_ble_eq_true rfl, Nat.le_of_ble_eq_true rfl, Nat.le_of_ble_eq_true rfl, Nat.le_of_ble_eq_true rfl⟩ (Nat.le_refl _) (Nat.le_refl _) (⟨rfl, fun h => h.1 c1, rfl⟩)
  · refine lv_iload_n hx hb d_P_kindOf_5 rfl (lv_at hl 0 rfl) ?_
    refine lv_iload_n hx hb d_P_kindOf_6 rfl (lv_at hl 1 rfl) ?_
    refine lv_iload_n hx hb d_P_kindOf_7 rfl (lv_at hl 2 rfl) ?_
    refine lv_iadd hx hb d_P_kindOf_8 ?_
    refine lv_icmp_lt (tgt := 22) hx hb d_P_kindOf_9 (by decide) (fun c2 => ?_) (fun c2 => ?_)
    · refine lv_iload_n hx hb d_P_kindOf_22 rfl (lv_at hl 0 rfl) ?_
      refine lv_iload_n hx hb d_P_kindOf_23 rfl (lv_at hl 1 rfl) ?_
      refine lv_isub hx hb d_P_kindOf_24 ?_
      refine W.widen (k := 1) (n := 6) (by omega) (by omega) ?_
      exact vx_ret (pg_iret hC.1 hw (⟨rfl, ⟨c1, c2⟩, rfl⟩) d_P_kindOf_25)
    · exact throwS (cls := eIAE) (is := 124) (text := "there is no such load or store") hC hw hst hex (by decide +kernel) k_cl_P_27 k_in_JIllegalArgumentException (by decide +kernel) hl.1 d_P_kindOf_12 d_P_kindOf_15 d_P_kindOf_16 d_P_kindOf_18 d_P_kindOf_21 ⟨Nat.le_of_ble_eq_true rfl, Nat.le_of_ble_eq_true rfl, Nat.le_of_ble_eq_true rfl, Nat.le_of_ble_eq_true rfl⟩ (Nat.le_refl _) (Nat.le_refl _) (⟨rfl, fun h => c2 h.2, rfl⟩)
set_option maxHeartbeats 4000000 in
set_option maxRecDepth 100000 in
theorem c_checkCount (l : Launch) (hst : l.stackTraces = false) (D : va_G) (kc : Nat → ClassId) (L : List Nat) (f : Nat → va_E) (sz : Nat) (n li : Int32) : vx_Met l y_P_checkCount w_P_checkCount ({ frames := 6, cells := 1, slots := 6, locals := 82 }) (PP D kc L f sz [.int n, .int li]) (Qv D L f sz (fun u => (¬ n < 0 ∧ n ≤ li) ∧ u = (L, f))) (XX D L f sz (fun E u => E = eIAE ∧ ¬ (¬ n < 0 ∧ n ≤ li) ∧ u = (L, f))) 1 6 (pA L f sz) := by
  refine kx_metX (by decide) (Nat.le_of_ble_eq_true rfl) ?_
  intro p e s m below meth c hC hex hw hsz ls hl
  subst hsz
  have hl : lv_has ls 2 [(0, .int n), (1, .int li)] := hl
  obtain ⟨⟨⟨hx, hb, hml, hown, hts⟩, hret9, hlocks⟩, hK, hE, hA⟩ := id hC
  refine lv_iload_n hx hb d_P_checkCount_0 rfl (lv_at hl 0 rfl) ?_
  refine lv_if_lt (tgt := 9) hx hb d_P_checkCount_1 (by decide) (fun c1 => ?_) (fun c1 => ?_)
  · exact throwS (cls := eIAE) (is := 126) (text := "n is below 0 or too great") hC hw hst hex (by decide +kernel) k_cl_P_27 k_in_JIllegalArgumentException (by decide +kernel) hl.1 d_P_checkCount_9 d_P_checkCount_12 d_P_checkCount_13 d_P_checkCount_15 d_P_checkCount_18 ⟨Nat.le_of_ble_eq_true rfl, Nat.le_of_ble_eq_true rfl, Nat.le_of_ble_eq_true rfl, Nat.le_of_ble_eq_true rfl⟩ (Nat.le_refl _) (Nat.le_refl _) (⟨rfl, fun h => h.1 c1, rfl⟩)
  · refine lv_iload_n hx hb d_P_checkCount_4 rfl (lv_at hl 0 rfl) ?_
    refine lv_iload_n hx hb d_P_checkCount_5 rfl (lv_at hl 1 rfl) ?_
    refine lv_icmp_le (tgt := 19) hx hb d_P_checkCount_6 (by decide) (fun c2 => ?_) (fun c2 => ?_)
    · refine W.widen (k := 1) (n := 6) (by omega) (by omega) ?_
      exact vx_ret (pg_vret hC.1 hw (⟨⟨c1, c2⟩, rfl⟩) d_P_checkCount_19)
    · exact throwS (cls := eIAE) (is := 126) (text := "n is below 0 or too great") hC hw hst hex (by decide +kernel) k_cl_P_27 k_in_JIllegalArgumentException (by decide +kernel) hl.1 d_P_checkCount_9 d_P_checkCount_12 d_P_checkCount_13 d_P_checkCount_15 d_P_checkCount_18 ⟨Nat.le_of_ble_eq_true rfl, Nat.le_of_ble_eq_true rfl, Nat.le_of_ble_eq_true rfl, Nat.le_of_ble_eq_true rfl⟩ (Nat.le_refl _) (Nat.le_refl _) (⟨rfl, fun h => c2 h.2, rfl⟩)
set_option maxHeartbeats 4000000 in
set_option maxRecDepth 100000 in
theorem c_M_size (l : Launch) (D : va_G) (kc : Nat → ClassId) (L : List Nat) (f : Nat → va_E) (sz : Nat) (am : Nat) (ham : am ∈ L) (mo : Int32) (pg ra : Nat) (hpg : pg ≤ 65536) (hem : f am = .inr (0, [.int mo, .int (nI pg), .ref ra])) : Met l y_M_size w_M_size ({ frames := 0, cells := 0, slots := 0, locals := 0 }) (PP D kc L f sz [.ref am]) (Ql D L f sz (fun r u => r = lN (pg * 65536) ∧ u = (L, f))) 0 0 (pA L f sz) := by
  refine kx_met (by decide) (Nat.le_of_ble_eq_true rfl) ?_
  intro p e s m below meth c hC hnm hw hsz ls hl
  subst hsz
  have hl : lv_has ls 1 [(0, .ref am)] := hl
  obtain ⟨⟨⟨hx, hb, hml, hown, hts⟩, hret9, hlocks⟩, hK, hE, hA⟩ := id hC
  refine lv_aload_n hx hb d_M_size_0 rfl (lv_at hl 0 rfl) ?_
  refine get_M hC hw ham hem 1 (by decide) k_fl_M_15 rfl d_M_size_1 ?_
  refine lv_i2l hx hb d_M_size_4 rfl ?_
  refine lv_ldc2 (v := 65536) hx hb hown (hts _ (gg_mem k_cn_M_34)) d_M_size_5 ?_
  refine lv_lmul hx hb d_M_size_8 ?_
  refine tp_l (v := lN (pg * 65536)) (by rw [nI_l (Nat.lt_of_le_of_lt hpg (by decide))]; exact lN_mul pg 65536) ?_
  exact pg_lret hC.1 hw (⟨rfl, rfl⟩) d_M_size_9
set_option maxHeartbeats 4000000 in
set_option maxRecDepth 100000 in
theorem c_M_pageLimit (l : Launch) (D : va_G) (kc : Nat → ClassId) (L : List Nat) (f : Nat → va_E) (sz : Nat) (am : Nat) (ham : am ∈ L) (mo : Int32) (pg ra : Nat) (hpg : pg ≤ 65536) (hem : f am = .inr (0, [.int mo, .int (nI pg), .ref ra])) : Met l y_M_pageLimit w_M_pageLimit ({ frames := 0, cells := 0, slots := 0, locals := 0 }) (PP D kc L f sz [.ref am]) (Qi D L f sz (fun r u => r = (if mo = -1 then 65536 else mo) ∧ u = (L, f))) 0 0 (pA L f sz) := by
  refine kx_met (by decide) (Nat.le_of_ble_eq_true rfl) ?_
  intro p e s m below meth c hC hnm hw hsz ls hl
  subst hsz
  have hl : lv_has ls 1 [(0, .ref am)] := hl
  obtain ⟨⟨⟨hx, hb, hml, hown, hts⟩, hret9, hlocks⟩, hK, hE, hA⟩ := id hC
  refine lv_aload_n hx hb d_M_pageLimit_0 rfl (lv_at hl 0 rfl) ?_
  refine get_M hC hw ham hem 0 (by decide) k_fl_M_9 rfl d_M_pageLimit_1 ?_
  refine lv_iconst (v := (-1)) hx hb d_M_pageLimit_4 (by decide) ?_
  refine lv_icmp_ne (tgt := 13) hx hb d_M_pageLimit_5 (by decide) (fun c1 => ?_) (fun c1 => ?_)
  · refine lv_aload_n hx hb d_M_pageLimit_13 rfl (lv_at hl 0 rfl) ?_
    refine get_M hC hw ham hem 0 (by decide) k_fl_M_9 rfl d_M_pageLimit_14 ?_
    exact pg_iret hC.1 hw (⟨by rw [if_neg c1], rfl⟩) d_M_pageLimit_17
  · refine lv_ldc (v := 65536) hx hb hown (hts _ (gg_mem k_cn_M_33)) d_M_pageLimit_8 ?_
    refine lv_goto (tgt := 17) hx hb d_M_pageLimit_10 (by decide) ?_
    exact pg_iret hC.1 hw (⟨by rw [if_pos c1], rfl⟩) d_M_pageLimit_17
set_option maxHeartbeats 4000000 in
set_option maxRecDepth 100000 in
theorem c_checkThere (l : Launch) (hst : l.stackTraces = false) (D : va_G) (kc : Nat → ClassId) (L : List Nat) (f : Nat → va_E) (sz : Nat) (am : Nat) (ham : am ∈ L) (mo : Int32) (pg ra : Nat) (hpg : pg ≤ 65536) (hem : f am = .inr (0, [.int mo, .int (nI pg), .ref ra])) (pl : Int64) (n : Int32) : vx_Met l y_P_checkThere w_P_checkThere ({ frames := 6, cells := 1, slots := 6, locals := 82 }) (PP D kc L f sz [.ref am, .long pl, .int n]) (Qv D L f sz (fun u => (¬ pl < 0 ∧ pl + n.toInt64 ≤ lN (pg * 65536)) ∧ u = (L, f))) (XX D L f sz (fun E u => E = eIOB ∧ ¬ (¬ pl < 0 ∧ pl + n.toInt64 ≤ lN (pg * 65536)) ∧ u = (L, f))) 1 6 (pA L f sz) := by
  refine kx_metX (by decide) (Nat.le_of_ble_eq_true rfl) ?_
  intro p e s m below meth c hC hex hw hsz ls hl
  subst hsz
  have hl : lv_has ls 4 [(0, .ref am), (1, .long pl), (3, .int n)] := hl
  obtain ⟨⟨⟨hx, hb, hml, hown, hts⟩, hret9, hlocks⟩, hK, hE, hA⟩ := id hC
  refine lv_lload_n hx hb d_P_checkThere_0 rfl (lv_at hl 1 rfl) ?_
  refine lv_lconst (v := 0) hx hb d_P_checkThere_1 (by decide) ?_
  refine W.lcmp hx hb d_P_checkThere_2 ?_
  refine lv_if_lt (tgt := 18) hx hb d_P_checkThere_3 (by decide) (fun c1 => ?_) (fun c1 => ?_)
  · exact throwS (cls := eIOB) (is := 134) (text := "a byte is not in the memory") hC hw hst hex (by decide +kernel) k_cl_P_132 k_in_JIndexOutOfBoundsException (by decide +kernel) hl.1 d_P_checkThere_18 d_P_checkThere_21 d_P_checkThere_22 d_P_checkThere_24 d_P_checkThere_27 ⟨Nat.le_of_ble_eq_true rfl, Nat.le_of_ble_eq_true rfl, Nat.le_of_ble_eq_true rfl, Nat.le_of_ble_eq_true rfl⟩ (Nat.le_refl _) (Nat.le_refl _) (⟨rfl, fun h => h.1 ((lg_cmp_lt _ _).mp c1), rfl⟩)
  · refine lv_lload_n hx hb d_P_checkThere_6 rfl (lv_at hl 1 rfl) ?_
    refine lv_iload_n hx hb d_P_checkThere_7 rfl (lv_at hl 2 rfl) ?_
    refine lv_i2l hx hb d_P_checkThere_8 rfl ?_
    refine lv_ladd hx hb d_P_checkThere_9 ?_
    refine lv_aload_n hx hb d_P_checkThere_10 rfl (lv_at hl 0 rfl) ?_
    refine callVl (As := []) (n9 := 0) hC hw (c_M_size l D kc _ _ _ am ham mo pg ra hpg hem) k_co_M_size k_ml_P_128 k_im_M_size k_se_M_size k_in_M rfl rfl (by decide +kernel) rfl ⟨Nat.le_of_ble_eq_true rfl, Nat.le_of_ble_eq_true rfl⟩ ham hem rfl hl.1 rfl (Nat.le_of_ble_eq_true rfl) d_P_checkThere_11 ⟨Nat.le_of_ble_eq_true rfl, Nat.le_of_ble_eq_true rfl⟩ (fun r u H locs hp hw => ?_)
    obtain ⟨rfl, rfl⟩ := hp
    refine W.lcmp hx hb d_P_checkThere_14 ?_
    refine lv_if_le (tgt := 28) hx hb d_P_checkThere_15 (by decide) (fun c2 => ?_) (fun c2 => ?_)
    · refine W.widen (k := 1) (n := 6) (by omega) (by omega) ?_
      exact vx_ret (pg_vret hC.1 hw (⟨⟨fun h => c1 ((lg_cmp_lt _ _).mpr h), (lg_cmp_le _ _).mp c2⟩, rfl⟩) d_P_checkThere_28)
    · exact throwS (cls := eIOB) (is := 134) (text := "a byte is not in the memory") hC hw hst hex (by decide +kernel) k_cl_P_132 k_in_JIndexOutOfBoundsException (by decide +kernel) hl.1 d_P_checkThere_18 d_P_checkThere_21 d_P_checkThere_22 d_P_checkThere_24 d_P_checkThere_27 ⟨Nat.le_of_ble_eq_true rfl, Nat.le_of_ble_eq_true rfl, Nat.le_of_ble_eq_true rfl, Nat.le_of_ble_eq_true rfl⟩ (Nat.le_refl _) (Nat.le_refl _) (⟨rfl, fun h => c2 ((lg_cmp_le _ _).mpr h.2), rfl⟩)
end
section
/-! PagedBytes: placeOf, memoryOf; the picture of a memory; its leaves -/
theorem nI_toI64 (n : Nat) (h : n < 2 ^ 31) : (nI n).toInt64 = lN n := nI_l h
theorem lN_nlt0 {n : Nat} (h : n < 2 ^ 62) : ¬ lN n < 0 := by
  intro q
  have h1 : lN n < lN 0 := q
  rw [pk_lLT (Nat.lt_trans h (by decide)) (by decide)] at h1
  exact absurd h1 (Nat.not_lt_zero n)
set_option maxHeartbeats 4000000 in
set_option maxRecDepth 100000 in
theorem c_placeOf (l : Launch) (hst : l.stackTraces = false) (D : va_G) (kc : Nat → ClassId) (L : List Nat) (f : Nat → va_E) (sz : Nat) (am : Nat) (ham : am ∈ L) (mo : Int32) (pg ra : Nat) (hpg : pg ≤ 65536) (hem : f am = .inr (0, [.int mo, .int (nI pg), .ref ra])) (ad of : Int32) (n : Nat) (hn : n ≤ 8) : vx_Met l y_P_placeOf w_P_placeOf ({ frames := 7, cells := 1, slots := 6, locals := 105 }) (PP D kc L f sz [.ref am, .int ad, .int of, .int (nI n)]) (Qi D L f sz (fun r u => r = nI (uI ad + uI of) ∧ uI ad + uI of + n ≤ pg * 65536 ∧ u = (L, f))) (XX D L f sz (fun E u => E = eIOB ∧ ¬ (uI ad + uI of + n ≤ pg * 65536) ∧ u = (L, f))) 1 6 (pA L f sz) := by
  refine kx_metX (by decide) (Nat.le_of_ble_eq_true rfl) ?_
  intro p e s m below meth c hC hex hw hsz ls hl
  subst hsz
  have hl : lv_has ls 6 [(0, .ref am), (1, .int ad), (2, .int of), (3, .int (nI n))] := hl
  obtain ⟨⟨⟨hx, hb, hml, hown, hts⟩, hret9, hlocks⟩, hK, hE, hA⟩ := id hC
  refine lv_iload_n hx hb d_P_placeOf_0 rfl (lv_at hl 1 rfl) ?_
  refine callSl (As := [.int ad]) (n9 := 1) hC hw (c_withoutSign l D kc _ _ _ ad) k_co_P_withoutSign k_ml_P_56 k_sm_P_withoutSign k_in_P rfl rfl (by decide +kernel) rfl ⟨Nat.le_of_ble_eq_true rfl, Nat.le_of_ble_eq_true rfl⟩ hl.1 rfl (Nat.le_of_ble_eq_true rfl) d_P_placeOf_1 ⟨Nat.le_of_ble_eq_true rfl, Nat.le_of_ble_eq_true rfl⟩ (fun r u H locs hp hw => ?_)
  obtain ⟨rfl, rfl⟩ := hp
  refine lv_iload_n hx hb d_P_placeOf_4 rfl (lv_at hl 2 rfl) ?_
  refine callSl (As := [.int of]) (n9 := 1) hC hw (c_withoutSign l D kc _ _ _ of) k_co_P_withoutSign k_ml_P_56 k_sm_P_withoutSign k_in_P rfl rfl (by decide +kernel) rfl ⟨Nat.le_of_ble_eq_true rfl, Nat.le_of_ble_eq_true rfl⟩ hl.1 rfl (Nat.le_of_ble_eq_true rfl) d_P_placeOf_5 ⟨Nat.le_of_ble_eq_true rfl, Nat.le_of_ble_eq_true rfl⟩ (fun r u H locs hp hw => ?_)
  obtain ⟨rfl, rfl⟩ := hp
  refine lv_ladd hx hb d_P_placeOf_8 ?_
  refine tp_l (v := lN (uI ad + uI of)) (lN_add _ _) ?_
  refine lv_lstore (lv' := [(4, .long (lN (uI ad + uI of))), (0, .ref am), (1, .int ad), (2, .int of), (3, .int (nI n))]) hx hb d_P_placeOf_9 hl (by decide) rfl (fun ls hl => ?_)
  refine lv_aload_n hx hb d_P_placeOf_11 rfl (lv_at hl 1 rfl) ?_
  refine lv_lload hx hb d_P_placeOf_12 (lv_at hl 0 rfl) ?_
  refine lv_iload_n hx hb d_P_placeOf_14 rfl (lv_at hl 4 rfl) ?_
  have h33 : uI ad + uI of < 2 ^ 33 := by have := uI_lt ad; have := uI_lt of; omega
  refine callXSv (As := [.ref am, .long (lN (uI ad + uI of)), .int (nI n)]) (n9 := 3) hC hw (c_checkThere l hst D kc _ _ _ am ham mo pg ra hpg hem (lN (uI ad + uI of)) (nI n)) k_co_P_checkThere k_ml_P_107 k_sm_P_checkThere k_in_P rfl rfl (by decide +kernel) rfl ⟨Nat.le_of_ble_eq_true rfl, Nat.le_of_ble_eq_true rfl⟩ hl.1 rfl (Nat.le_of_ble_eq_true rfl) d_P_placeOf_15 ⟨Nat.le_of_ble_eq_true rfl, Nat.le_of_ble_eq_true rfl⟩ (fun E ce q9 u H locs ho hw h1 h2 h3 => ?_) (fun u H locs hp hw => ?_)
  · obtain ⟨rfl, ho, rfl⟩ := ho
    refine pg_out hex hlocks hw h1 h2 h3 ⟨rfl, fun h => ho ?_, rfl⟩ (Nat.le_refl _) (Nat.le_refl _)
    refine ⟨lN_nlt0 (by omega), ?_⟩
    rw [nI_toI64 n (by omega), lN_add, pk_lLE (by omega) (by omega)]
    exact h
  · obtain ⟨⟨-, hp⟩, rfl⟩ := hp
    rw [nI_toI64 n (by omega), lN_add, pk_lLE (by omega) (by omega)] at hp
    refine lv_lload hx hb d_P_placeOf_18 (lv_at hl 0 rfl) ?_
    refine lv_l2i hx hb d_P_placeOf_20 rfl ?_
    refine tp_i (v := nI (uI ad + uI of)) (lN_i _) ?_
    exact vx_ret (pg_iret hC.1 hw (⟨rfl, hp, rfl⟩) d_P_placeOf_21)
set_option maxHeartbeats 4000000 in
set_option maxRecDepth 100000 in
theorem c_memoryOf (l : Launch) (hst : l.stackTraces = false) (D : va_G) (kc : Nat → ClassId) (L : List Nat) (f : Nat → va_E) (sz : Nat) (x ms cp : Nat) (nn tt : Int32) (gm : Nat → Option Nat) (hx9 : x ∈ L) (hex9 : f x = .inr (2, [.ref ms, .ref cp, .int nn, .int tt])) (hms : ms ∈ L) (hems : f ms = .inl (kc 1, 24, .inr (.inr (.inr (.inr gm))))) (mm : Int32) : vx_Met l y_P_memoryOf w_P_memoryOf ({ frames := 6, cells := 1, slots := 6, locals := 82 }) (PP D kc L f sz [.ref x, .int mm]) (Qq D L f sz (fun r u => ∃ k, k < 24 ∧ mm = nI k ∧ r = gm k ∧ gm k ≠ none ∧ u = (L, f))) (XX D L f sz (fun E u => E = eIAE ∧ ¬ (∃ k, k < 24 ∧ mm = nI k ∧ gm k ≠ none) ∧ u = (L, f))) 1 6 (pA L f sz) := by
  refine kx_metX (by decide) (Nat.le_of_ble_eq_true rfl) ?_
  intro p e s m below meth c hC hex hw hsz ls hl
  subst hsz
  have hl : lv_has ls 2 [(0, .ref x), (1, .int mm)] := hl
  obtain ⟨⟨⟨hx, hb, hml, hown, hts⟩, hret9, hlocks⟩, hK, hE, hA⟩ := id hC
  refine lv_iload_n hx hb d_P_memoryOf_0 rfl (lv_at hl 1 rfl) ?_
  refine lv_if_lt (tgt := 22) hx hb d_P_memoryOf_1 (by decide) (fun c1 => ?_) (fun c1 => ?_)
  · exact throwS (cls := eIAE) (is := 122) (text := "there is no such memory") hC hw hst hex (by decide +kernel) k_cl_P_27 k_in_JIllegalArgumentException (by decide +kernel) hl.1 d_P_memoryOf_22 d_P_memoryOf_25 d_P_memoryOf_26 d_P_memoryOf_28 d_P_memoryOf_31 ⟨Nat.le_of_ble_eq_true rfl, Nat.le_of_ble_eq_true rfl, Nat.le_of_ble_eq_true rfl, Nat.le_of_ble_eq_true rfl⟩ (Nat.le_refl _) (Nat.le_refl _) (⟨rfl, fun h => by obtain ⟨k, h1, rfl, -⟩ := h; exact nI_pos (by omega) c1, rfl⟩)
  · refine lv_iload_n hx hb d_P_memoryOf_4 rfl (lv_at hl 1 rfl) ?_
    refine lv_aload_n hx hb d_P_memoryOf_5 rfl (lv_at hl 0 rfl) ?_
    refine get_P hC hw hx9 hex9 0 (by decide) k_fl_P_11 rfl d_P_memoryOf_6 ?_
    refine len_M hC hw hms hems d_P_memoryOf_9 ?_
    refine lv_icmp_ge (tgt := 22) hx hb d_P_memoryOf_10 (by decide) (fun c2 => ?_) (fun c2 => ?_)
    · exact throwS (cls := eIAE) (is := 122) (text := "there is no such memory") hC hw hst hex (by decide +kernel) k_cl_P_27 k_in_JIllegalArgumentException (by decide +kernel) hl.1 d_P_memoryOf_22 d_P_memoryOf_25 d_P_memoryOf_26 d_P_memoryOf_28 d_P_memoryOf_31 ⟨Nat.le_of_ble_eq_true rfl, Nat.le_of_ble_eq_true rfl, Nat.le_of_ble_eq_true rfl, Nat.le_of_ble_eq_true rfl⟩ (Nat.le_refl _) (Nat.le_refl _) (⟨rfl, fun h => by obtain ⟨k, h1, rfl, -⟩ := h; exact nI_ge h1 (by omega) c2, rfl⟩)
    · obtain ⟨k, hk, rfl⟩ : ∃ k, k < 24 ∧ mm = nI k := by
        obtain ⟨j, h1, h2, -⟩ := pk_mu (L := 24) c1 c2 (by decide)
        exact ⟨j, h1, h2⟩
      refine lv_aload_n hx hb d_P_memoryOf_13 rfl (lv_at hl 0 rfl) ?_
      refine get_P hC hw hx9 hex9 0 (by decide) k_fl_P_11 rfl d_P_memoryOf_14 ?_
      refine lv_iload_n hx hb d_P_memoryOf_17 rfl (lv_at hl 1 rfl) ?_
      refine ald_M hC hw hms hems (hk) (by decide) d_P_memoryOf_18 ?_
      cases hg : gm k with
      | none =>
        refine lv_ifnonnullN hx hb d_P_memoryOf_19 ?_
        exact throwS (cls := eIAE) (is := 122) (text := "there is no such memory") hC hw hst hex (by decide +kernel) k_cl_P_27 k_in_JIllegalArgumentException (by decide +kernel) hl.1 d_P_memoryOf_22 d_P_memoryOf_25 d_P_memoryOf_26 d_P_memoryOf_28 d_P_memoryOf_31 ⟨Nat.le_of_ble_eq_true rfl, Nat.le_of_ble_eq_true rfl, Nat.le_of_ble_eq_true rfl, Nat.le_of_ble_eq_true rfl⟩ (Nat.le_refl _) (Nat.le_refl _) (⟨rfl, fun h => by obtain ⟨k2, h1, h2, h3⟩ := h; rw [nI_eq (by omega) (by omega)] at h2; subst h2; exact h3 hg, rfl⟩)
      | some am =>
        refine lv_ifnonnull (tgt := 32) hx hb d_P_memoryOf_19 (by decide) ?_
        refine lv_aload_n hx hb d_P_memoryOf_32 rfl (lv_at hl 0 rfl) ?_
        refine get_P hC hw hx9 hex9 0 (by decide) k_fl_P_11 rfl d_P_memoryOf_33 ?_
        refine lv_iload_n hx hb d_P_memoryOf_36 rfl (lv_at hl 1 rfl) ?_
        refine ald_M hC hw hms hems (hk) (by decide) d_P_memoryOf_37 ?_
        refine W.widen (k := 1) (n := 6) (by omega) (by omega) ?_
        exact vx_ret (pg_aret hC.1 hw (⟨k, hk, rfl, rfl, by rw [hg]; exact fun h => (Option.some_ne_none _ h), rfl⟩) d_P_memoryOf_38)
end
section
/-! THE PICTURE OF A MEMORY. tg: every address of the pool has a region and a place in it; region k < 24: memory k -/
def rowAt (kc : Nat → ClassId) (L : List Nat) (f : Nat → va_E) (tg : Nat → Nat × Nat) (k r : Nat) (o : Option Nat) (bs : Nat → Nat) : Prop :=
  (o = none ∧ ∀ j, j < 1024 → bs (1024 * r + j) = 0) ∨
  (∃ (w b : Nat) (h : Nat → Int32), o = some w ∧ w ∈ L ∧ tg w = (k, 2 + 2 * r) ∧ f w = .inr (1, [.ref b]) ∧ b ∈ L ∧ tg b = (k, 3 + 2 * r) ∧ f b = .inl (kc 0, 1024, .inl h) ∧ ∀ j, j < 1024 → h j = sb_b (bs (1024 * r + j)))
def memG (kc : Nat → ClassId) (L : List Nat) (f : Nat → va_E) (tg : Nat → Nat × Nat) (k am ra : Nat) (mo : Int32) (pg N : Nat) (g : Nat → Option Nat) (bs : Nat → Nat) : Prop :=
  (am ∈ L ∧ tg am = (k, 0) ∧ f am = .inr (0, [.int mo, .int (nI pg), .ref ra])) ∧ (ra ∈ L ∧ tg ra = (k, 1) ∧ f ra = .inl (kc 2, N, .inr (.inr (.inr (.inr g))))) ∧ N ≤ 1024 ∧ (∀ j, bs j < 256) ∧ ∀ r, r < N → rowAt kc L f tg k r (g r) bs
def Ext (S : Nat → Prop) (L : List Nat) (f : Nat → va_E) (tg : Nat → Nat × Nat) (u : pU) (tg' : Nat → Nat × Nat) : Prop :=
  (∀ a, a ∈ L → a ∈ u.1) ∧ (∀ a, a ∈ L → tg' a = tg a) ∧ (∀ a, a ∈ L → ¬ S (tg a).1 → u.2 a = f a) ∧ (∀ a, a ∈ u.1 → a ∉ L → S (tg' a).1)
theorem Ext.rf {S : Nat → Prop} {L : List Nat} {f : Nat → va_E} {tg : Nat → Nat × Nat} : Ext S L f tg (L, f) tg := ⟨fun _ h => h, fun _ _ => rfl, fun _ _ _ => rfl, fun _ h h2 => absurd h h2⟩
theorem Ext.tr {S : Nat → Prop} {L : List Nat} {f : Nat → va_E} {tg t1 t2 : Nat → Nat × Nat} {u v : pU} (h1 : Ext S L f tg u t1) (h2 : Ext S u.1 u.2 t1 v t2) : Ext S L f tg v t2 := by
  refine ⟨fun a h => h2.1 a (h1.1 a h), fun a h => (h2.2.1 a (h1.1 a h)).trans (h1.2.1 a h), fun a h hs => ?_, fun a h hn => ?_⟩
  · rw [h2.2.2.1 a (h1.1 a h) (by rw [h1.2.1 a h]; exact hs), h1.2.2.1 a h hs]
  · by_cases hu : a ∈ u.1
    · rw [h2.2.1 a hu]; exact h1.2.2.2 a hu hn
    · exact h2.2.2.2 a h hu
theorem Ext.mono {S S' : Nat → Prop} {L : List Nat} {f : Nat → va_E} {tg t1 : Nat → Nat × Nat} {u : pU} (h : Ext S L f tg u t1) (hS : ∀ k, S k → S' k) : Ext S' L f tg u t1 := ⟨h.1, h.2.1, fun a ha hs => h.2.2.1 a ha (fun q => hs (hS _ q)), fun a ha hn => hS _ (h.2.2.2 a ha hn)⟩
theorem rowAt_keep {kc : Nat → ClassId} {L L' : List Nat} {f f' : Nat → va_E} {tg tg' : Nat → Nat × Nat} {k r : Nat} {o : Option Nat} {bs bs' : Nat → Nat} (h : rowAt kc L f tg k r o bs) (hL : ∀ a, a ∈ L → a ∈ L') (ht : ∀ a, a ∈ L → tg' a = tg a) (hf : ∀ a, a ∈ L → (tg a = (k, 2 + 2 * r) ∨ tg a = (k, 3 + 2 * r)) → f' a = f a) (hb : ∀ j, j < 1024 → bs' (1024 * r + j) = bs (1024 * r + j)) : rowAt kc L' f' tg' k r o bs' := by
  rcases h with ⟨h1, h2⟩ | ⟨w, b, hh, h1, h2, h3, h4, h5, h6, h7, h8⟩
  · exact Or.inl ⟨h1, fun j hj => by rw [hb j hj]; exact h2 j hj⟩
  · exact Or.inr ⟨w, b, hh, h1, hL w h2, by rw [ht w h2]; exact h3, by rw [hf w h2 (Or.inl h3)]; exact h4, hL b h5, by rw [ht b h5]; exact h6, by rw [hf b h5 (Or.inr h6)]; exact h7, fun j hj => by rw [hb j hj]; exact h8 j hj⟩
/-- a memory of another region is as it was -/
theorem memG_ext {S : Nat → Prop} {kc : Nat → ClassId} {L : List Nat} {f : Nat → va_E} {tg tg' : Nat → Nat × Nat} {u : pU} {k am ra : Nat} {mo : Int32} {pg N : Nat} {g : Nat → Option Nat} {bs : Nat → Nat} (h : memG kc L f tg k am ra mo pg N g bs) (he : Ext S L f tg u tg') (hk : ¬ S k) : memG kc u.1 u.2 tg' k am ra mo pg N g bs := by
  obtain ⟨⟨a1, a2, a3⟩, ⟨b1, b2, b3⟩, hN, hb, hr⟩ := h
  have kf : ∀ a, a ∈ L → (tg a).1 = k → u.2 a = f a := fun a ha ht => he.2.2.1 a ha (by rw [ht]; exact hk)
  refine ⟨⟨he.1 _ a1, by rw [he.2.1 _ a1]; exact a2, by rw [kf _ a1 (by rw [a2])]; exact a3⟩, ⟨he.1 _ b1, by rw [he.2.1 _ b1]; exact b2, by rw [kf _ b1 (by rw [b2])]; exact b3⟩, hN, hb, fun r h => rowAt_keep (hr r h) he.1 he.2.1 (fun a ha ht => kf a ha (by rcases ht with q | q <;> rw [q])) (fun _ _ => rfl)⟩
/-- a byte put into a row that is there -/
theorem memG_put {kc : Nat → ClassId} {L : List Nat} {f : Nat → va_E} {tg : Nat → Nat × Nat} {k am ra : Nat} {mo : Int32} {pg N : Nat} {g : Nat → Option Nat} {bs : Nat → Nat} (h : memG kc L f tg k am ra mo pg N g bs) {r w b : Nat} {hh : Nat → Int32} (hr : r < N) (hg : g r = some w) (hw : w ∈ L) (htw : tg w = (k, 2 + 2 * r)) (hfw : f w = .inr (1, [.ref b])) (hb : b ∈ L) (htb : tg b = (k, 3 + 2 * r)) (hfb : f b = .inl (kc 0, 1024, .inl hh)) {h' : Nat → Int32} {bs' : Nat → Nat} (hb' : ∀ j, bs' j < 256) (hin : ∀ j, j < 1024 → h' j = sb_b (bs' (1024 * r + j))) (hout : ∀ j, (j < 1024 * r ∨ 1024 * r + 1024 ≤ j) → bs' j = bs j) :
    memG kc L (va_up f b (.inl (kc 0, 1024, .inl h'))) tg k am ra mo pg N g bs' ∧ Ext (fun i => i = k) L f tg (L, va_up f b (.inl (kc 0, 1024, .inl h'))) tg := by
  obtain ⟨⟨a1, a2, a3⟩, ⟨b1, b2, b3⟩, hN, -, hrow⟩ := h
  have ne : ∀ a, tg a ≠ (k, 3 + 2 * r) → va_up f b (.inl (kc 0, 1024, .inl h')) a = f a := fun a ha => va_up_ne _ _ (fun q => ha (by rw [q]; exact htb))
  refine ⟨⟨⟨a1, a2, by rw [ne _ (by rw [a2]; simp only [ne_eq, Prod.mk.injEq, not_and]; omega)]; exact a3⟩, ⟨b1, b2, by rw [ne _ (by rw [b2]; simp only [ne_eq, Prod.mk.injEq, not_and]; omega)]; exact b3⟩, hN, hb', fun r' hr' => ?_⟩, fun _ h => h, fun _ _ => rfl, fun a _ hs => ?_, fun a h h2 => absurd h h2⟩
  · by_cases e : r' = r
    · subst e
      exact Or.inr ⟨w, b, h', hg, hw, htw, by rw [ne _ (by rw [htw]; simp only [ne_eq, Prod.mk.injEq, not_and]; omega)]; exact hfw, hb, htb, va_up_self _ _ _, hin⟩
    · refine rowAt_keep (hrow r' hr') (fun _ h => h) (fun _ _ => rfl) (fun a _ ht => ne a ?_) (fun j hj => hout _ ?_)
      · rcases ht with q | q <;> rw [q] <;> simp only [ne_eq, Prod.mk.injEq, not_and] <;> omega
      · rcases Nat.lt_or_gt_of_ne e with q | q
        · left
          have := Nat.mul_le_mul_left 1024 (show r' + 1 ≤ r from q)
          omega
        · right
          have := Nat.mul_le_mul_left 1024 (show r + 1 ≤ r' from q)
          omega
  · exact va_up_ne _ _ (fun q => hs (by rw [q, htb]))
/-- a row comes to be -/
theorem memG_new {kc : Nat → ClassId} {L : List Nat} {f : Nat → va_E} {tg : Nat → Nat × Nat} {k am ra : Nat} {mo : Int32} {pg N : Nat} {g : Nat → Option Nat} {bs : Nat → Nat} (h : memG kc L f tg k am ra mo pg N g bs) {r q b : Nat} (hr : r < N) (hg : g r = none) (hq : q ∉ L) (hb : b ∉ L) (hqb : q ≠ b) {f' : Nat → va_E} (h1 : f' q = .inr (1, [.ref b])) (h2 : f' b = .inl (kc 0, 1024, .inl (fun _ => 0))) (h3 : f' ra = .inl (kc 2, N, .inr (.inr (.inr (.inr (va_up g r (some q))))))) (h4 : ∀ a, a ∈ L → a ≠ ra → f' a = f a) :
    ∃ tg', memG kc ((L ++ [q]) ++ [b]) f' tg' k am ra mo pg N (va_up g r (some q)) bs ∧ Ext (fun i => i = k) L f tg ((L ++ [q]) ++ [b], f') tg' := by
  obtain ⟨⟨a1, a2, a3⟩, ⟨b1, b2, b3⟩, hN, hb2, hrow⟩ := h
  refine ⟨va_up (va_up tg q (k, 2 + 2 * r)) b (k, 3 + 2 * r), ?_⟩
  have kt : ∀ a, a ∈ L → va_up (va_up tg q (k, 2 + 2 * r)) b (k, 3 + 2 * r) a = tg a := fun a ha => by
    have e1 : a ≠ b := fun e => hb (e ▸ ha)
    have e2 : a ≠ q := fun e => hq (e ▸ ha)
    rw [va_up_ne _ _ e1, va_up_ne _ _ e2]
  have tq : va_up (va_up tg q (k, 2 + 2 * r)) b (k, 3 + 2 * r) q = (k, 2 + 2 * r) := by rw [va_up_ne _ _ hqb, va_up_self]
  have tb : va_up (va_up tg q (k, 2 + 2 * r)) b (k, 3 + 2 * r) b = (k, 3 + 2 * r) := va_up_self _ _ _
  have kL : ∀ a, a ∈ L → a ∈ (L ++ [q]) ++ [b] := fun a ha => List.mem_append_left _ (List.mem_append_left _ ha)
  have mq : q ∈ (L ++ [q]) ++ [b] := List.mem_append_left _ (List.mem_append_right _ List.mem_cons_self)
  have mb : b ∈ (L ++ [q]) ++ [b] := List.mem_append_right _ List.mem_cons_self
  have nra : ∀ a, tg a ≠ (k, 1) → a ≠ ra := fun a ha e => ha (e ▸ b2)
  refine ⟨⟨⟨kL _ a1, by rw [kt _ a1]; exact a2, by rw [h4 _ a1 (nra _ (by rw [a2]; simp))]; exact a3⟩, ⟨kL _ b1, by rw [kt _ b1]; exact b2, h3⟩, hN, hb2, fun r' hr' => ?_⟩, kL, kt, fun a ha hs => h4 a ha (fun e => hs (by rw [e, b2])), fun a ha hn => ?_⟩
  · by_cases e : r' = r
    · subst e
      have hz : ∀ j, j < 1024 → bs (1024 * r' + j) = 0 := by
        rcases hrow r' hr' with ⟨-, z⟩ | ⟨w, -, -, z, -⟩
        · exact z
        · rw [hg] at z; cases z
      exact Or.inr ⟨q, b, fun _ => 0, va_up_self _ _ _, mq, tq, h1, mb, tb, h2, fun j hj => by rw [hz j hj]; rfl⟩
    · rw [va_up_ne _ _ e]
      exact rowAt_keep (hrow r' hr') kL kt (fun a ha ht => h4 a ha (nra a (by rcases ht with z | z <;> rw [z] <;> simp only [ne_eq, Prod.mk.injEq, not_and] <;> omega))) (fun _ _ => rfl)
  · rcases List.mem_append.mp ha with h | h
    · rcases List.mem_append.mp h with h | h
      · exact absurd h hn
      · rw [List.mem_singleton.mp h, tq]
    · rw [List.mem_singleton.mp h, tb]
end
section
/-! Row and Memory: rows and bytes -/
theorem ne_in {L : List Nat} {a q : Nat} (ha : a ∈ L) (hq : q ∉ L) : a ≠ q := fun e => hq (e ▸ ha)
theorem mem_l {L : List Nat} {a q : Nat} (ha : a ∈ L) : a ∈ L ++ [q] := List.mem_append_left _ ha
theorem pw_as {D : va_G} {cl : List vw_C} {A : Nat → Prop} {H0 H : Heap} {locs : List Loc} {L L' : List Nat} {f f' : Nat → va_E} (hw : pw D cl A H0 H locs L f) (e1 : L = L') (e2 : f = f') : pw D cl A H0 H locs L' f' := by subst e1; subst e2; exact hw
theorem mem_r {L : List Nat} {q : Nat} : q ∈ L ++ [q] := List.mem_append_right _ List.mem_cons_self
set_option maxHeartbeats 4000000 in
set_option maxRecDepth 100000 in
theorem c_M_rowOrNull (l : Launch) (D : va_G) (kc : Nat → ClassId) (L : List Nat) (f : Nat → va_E) (sz : Nat) (am ra : Nat) (mo : Int32) (pg N : Nat) (g : Nat → Option Nat) (ham : am ∈ L) (hem : f am = .inr (0, [.int mo, .int (nI pg), .ref ra])) (hra : ra ∈ L) (her : f ra = .inl (kc 2, N, .inr (.inr (.inr (.inr g))))) (hN : N ≤ 1024) (r : Nat) (hr : r < N) : Met l y_M_rowOrNull w_M_rowOrNull ({ frames := 0, cells := 0, slots := 0, locals := 0 }) (PP D kc L f sz [.ref am, .int (nI r)]) (Qq D L f sz (fun o u => o = g r ∧ u = (L, f))) 0 0 (pA L f sz) := by
  refine kx_met (by decide) (Nat.le_of_ble_eq_true rfl) ?_
  intro p e s m below meth c hC hnm hw hsz ls hl
  subst hsz
  have hl : lv_has ls 2 [(0, .ref am), (1, .int (nI r))] := hl
  obtain ⟨⟨⟨hx, hb, hml, hown, hts⟩, hret9, hlocks⟩, hK, hE, hA⟩ := id hC
  have h31 : r < 2 ^ 31 := by omega
  refine lv_iload_n hx hb d_M_rowOrNull_0 rfl (lv_at hl 1 rfl) ?_
  refine lv_if_lt (tgt := 13) hx hb d_M_rowOrNull_1 (by decide) (fun c1 => (nI_pos h31 c1).elim) (fun c1 => ?_)
  refine lv_iload_n hx hb d_M_rowOrNull_4 rfl (lv_at hl 1 rfl) ?_
  refine lv_aload_n hx hb d_M_rowOrNull_5 rfl (lv_at hl 0 rfl) ?_
  refine get_M hC hw ham hem 2 (by decide) k_fl_M_29 rfl d_M_rowOrNull_6 ?_
  refine len_R hC hw hra her d_M_rowOrNull_9 ?_
  refine lv_icmp_lt (tgt := 17) hx hb d_M_rowOrNull_10 (by decide) (fun c2 => ?_) (fun c2 => (c2 (nI_lt hr (by omega))).elim)
  refine lv_aload_n hx hb d_M_rowOrNull_17 rfl (lv_at hl 0 rfl) ?_
  refine get_M hC hw ham hem 2 (by decide) k_fl_M_29 rfl d_M_rowOrNull_18 ?_
  refine lv_iload_n hx hb d_M_rowOrNull_21 rfl (lv_at hl 1 rfl) ?_
  refine ald_R hC hw hra her (hr) (by omega) d_M_rowOrNull_22 ?_
  exact pg_aret hC.1 hw (⟨rfl, rfl⟩) d_M_rowOrNull_23
set_option maxHeartbeats 4000000 in
set_option maxRecDepth 100000 in
theorem c_M_byteAt (l : Launch) (D : va_G) (kc : Nat → ClassId) (L : List Nat) (f : Nat → va_E) (sz : Nat) (tg : Nat → Nat × Nat) (k am ra : Nat) (mo : Int32) (pg N : Nat) (g : Nat → Option Nat) (bs : Nat → Nat) (hm : memG kc L f tg k am ra mo pg N g bs) (P : Nat) (hP : P < 1024 * N) : Met l y_M_byteAt w_M_byteAt ({ frames := 1, cells := 0, slots := 0, locals := 21 }) (PP D kc L f sz [.ref am, .int (nI P)]) (Qi D L f sz (fun r u => r = nI (bs P) ∧ u = (L, f))) 0 0 (pA L f sz) := by
  refine kx_met (by decide) (Nat.le_of_ble_eq_true rfl) ?_
  intro p e s m below meth c hC hnm hw hsz ls hl
  subst hsz
  have hl : lv_has ls 3 [(0, .ref am), (1, .int (nI P))] := hl
  obtain ⟨⟨⟨hx, hb, hml, hown, hts⟩, hret9, hlocks⟩, hK, hE, hA⟩ := id hC
  obtain ⟨⟨ham, hta, hem⟩, ⟨hra, htr, her⟩, hN, hbs, hrow⟩ := id hm
  have hr : P / 1024 < N := by omega
  have h31 : P < 2 ^ 31 := by omega
  refine lv_aload_n hx hb d_M_byteAt_0 rfl (lv_at hl 0 rfl) ?_
  refine lv_iload_n hx hb d_M_byteAt_1 rfl (lv_at hl 1 rfl) ?_
  refine lv_sipush (v := 1024) hx hb d_M_byteAt_2 (by decide) ?_
  refine lv_idiv hx hb d_M_byteAt_5 (by decide) ?_
  refine tp_i (v := nI (P / 1024)) (pk_div (d := 1024) h31 (by decide) (by decide)) ?_
  refine callVq (As := [.int (nI (P / 1024))]) (n9 := 1) hC hw (c_M_rowOrNull l D kc _ _ _ am ra mo pg N g ham hem hra her hN (P / 1024) hr) k_co_M_rowOrNull k_ml_M_44 k_im_M_rowOrNull k_se_M_rowOrNull k_in_M rfl rfl (by decide +kernel) rfl ⟨Nat.le_of_ble_eq_true rfl, Nat.le_of_ble_eq_true rfl⟩ ham hem rfl hl.1 rfl (Nat.le_of_ble_eq_true rfl) d_M_byteAt_6 ⟨Nat.le_of_ble_eq_true rfl, Nat.le_of_ble_eq_true rfl⟩ (fun o u H locs hp hw => ?_)
  obtain ⟨rfl, rfl⟩ := hp
  rcases hrow (P / 1024) hr with ⟨hg, hz⟩ | ⟨w9, b9, hh, hg, hw9, htw, hfw, hb9, htb, hfb, hv⟩
  · refine tp_v (v := .null) (by rw [hg]; rfl) ?_
    refine lv_astore_nN (lv' := [(2, .null), (0, .ref am), (1, .int (nI P))]) hx hb d_M_byteAt_9 rfl hl (by decide) rfl (fun ls hl => ?_)
    refine lv_aload_nN hx hb d_M_byteAt_10 rfl (lv_at hl 0 rfl) ?_
    refine lv_ifnullN (tgt := 18) hx hb d_M_byteAt_11 (by decide) ?_
    refine lv_iconst (v := 0) hx hb d_M_byteAt_18 (by decide) ?_
    refine lv_goto (tgt := 36) hx hb d_M_byteAt_19 (by decide) ?_
    exact pg_iret hC.1 hw (⟨by rw [show P = 1024 * (P / 1024) + P % 1024 by omega, hz (P % 1024) (by omega)]; rfl, rfl⟩) d_M_byteAt_36
  · refine tp_v (v := .ref w9) (by rw [hg]; rfl) ?_
    refine lv_astore_n (lv' := [(2, .ref w9), (0, .ref am), (1, .int (nI P))]) hx hb d_M_byteAt_9 rfl hl (by decide) rfl (fun ls hl => ?_)
    refine lv_aload_n hx hb d_M_byteAt_10 rfl (lv_at hl 0 rfl) ?_
    refine lv_ifnull hx hb d_M_byteAt_11 ?_
    refine lv_iload_n hx hb d_M_byteAt_14 rfl (lv_at hl 2 rfl) ?_
    refine lv_if_ge (tgt := 22) hx hb d_M_byteAt_15 (by decide) (fun c1 => ?_) (fun c1 => (c1 (nI_pos' h31)).elim)
    refine lv_aload_n hx hb d_M_byteAt_22 rfl (lv_at hl 0 rfl) ?_
    refine get_W hC hw hw9 hfw 0 (by decide) k_fl_M_52 rfl d_M_byteAt_23 ?_
    refine lv_iload_n hx hb d_M_byteAt_26 rfl (lv_at hl 2 rfl) ?_
    refine lv_sipush (v := 1024) hx hb d_M_byteAt_27 (by decide) ?_
    refine lv_irem hx hb d_M_byteAt_30 (by decide) ?_
    refine tp_i (v := nI (P % 1024)) (pk_rem (d := 1024) h31 (by decide) (by decide)) ?_
    refine ald_B hC hw hb9 hfb (by omega) (by decide) d_M_byteAt_31 ?_
    refine lv_sipush (v := 255) hx hb d_M_byteAt_32 (by decide) ?_
    refine lv_iand hx hb d_M_byteAt_35 ?_
    refine tp_i (v := nI (bs P)) (by rw [hv _ (by omega), show 1024 * (P / 1024) + P % 1024 = P by omega]; exact (sb_byte _ (hbs P)).1) ?_
    exact pg_iret hC.1 hw (⟨rfl, rfl⟩) d_M_byteAt_36
set_option maxHeartbeats 4000000 in
set_option maxRecDepth 100000 in
theorem c_W_init (l : Launch) (D : va_G) (kc : Nat → ClassId) (L : List Nat) (f : Nat → va_E) (sz : Nat) (wa : Nat) (hwa : wa ∈ L) (hew : f wa = .inr (1, [.null])) : Met l y_W_init w_W_init ({ frames := 1, cells := 1, slots := 1024, locals := 12 }) (PP D kc L f sz [.ref wa]) (Qv D L f sz (fun u => ∃ b, b ∉ L ∧ u = (L ++ [b], va_up (va_up f b (.inl (kc 0, 1024, .inl (fun _ => 0)))) wa (.inr (1, [.ref b]))))) 1 1024 (pA L f sz) := by
  refine kx_met (by decide) (Nat.le_of_ble_eq_true rfl) ?_
  intro p e s m below meth c hC hnm hw hsz ls hl
  subst hsz
  have hl : lv_has ls 1 [(0, .ref wa)] := hl
  obtain ⟨⟨⟨hx, hb, hml, hown, hts⟩, hret9, hlocks⟩, hK, hE, hA⟩ := id hC
  refine lv_aload_n hx hb d_W_init_0 rfl (lv_at hl 0 rfl) ?_
  refine callO hC hw hl.1 k_ml_W_3 d_W_init_1 (Nat.le_of_ble_eq_true rfl) (Nat.le_of_ble_eq_true rfl) ?_
  refine lv_aload_n hx hb d_W_init_4 rfl (lv_at hl 0 rfl) ?_
  refine lv_sipush (v := 1024) hx hb d_W_init_5 (by decide) ?_
  refine tp_i (v := nI 1024) (rfl) ?_
  refine newB hC hw (gg_of (by decide +kernel) (by decide +kernel)) (by decide) (Nat.le_of_ble_eq_true rfl) (Nat.le_of_ble_eq_true rfl) d_W_init_8 (fun b H hb9 hw => ?_)
  refine putF_W hC hw hnm rfl (mem_l hwa) ((va_up_ne _ _ (ne_in hwa hb9)).trans hew) 0 (by decide) k_fl_W_9 rfl rfl rfl rfl (Nat.le_of_ble_eq_true rfl) d_W_init_10 (fun H locs hw => ?_)
  exact pg_vret hC.1 hw (⟨b, hb9, rfl⟩) d_W_init_13
set_option maxHeartbeats 4000000 in
set_option maxRecDepth 100000 in
theorem c_M_rowToWrite_some (l : Launch) (D : va_G) (kc : Nat → ClassId) (L : List Nat) (f : Nat → va_E) (sz : Nat) (am ra : Nat) (mo : Int32) (pg N : Nat) (g : Nat → Option Nat) (ham : am ∈ L) (hem : f am = .inr (0, [.int mo, .int (nI pg), .ref ra])) (hra : ra ∈ L) (her : f ra = .inl (kc 2, N, .inr (.inr (.inr (.inr g))))) (hN : N ≤ 1024) (r : Nat) (hr : r < N) (w9 : Nat) (hg : g r = some w9) : Met l y_M_rowToWrite w_M_rowToWrite ({ frames := 0, cells := 0, slots := 0, locals := 0 }) (PP D kc L f sz [.ref am, .int (nI r)]) (Qq D L f sz (fun o u => o = some w9 ∧ u = (L, f))) 0 0 (pA L f sz) := by
  refine kx_met (by decide) (Nat.le_of_ble_eq_true rfl) ?_
  intro p e s m below meth c hC hnm hw hsz ls hl
  subst hsz
  have hl : lv_has ls 2 [(0, .ref am), (1, .int (nI r))] := hl
  obtain ⟨⟨⟨hx, hb, hml, hown, hts⟩, hret9, hlocks⟩, hK, hE, hA⟩ := id hC
  have h31 : r < 2 ^ 31 := by omega
  refine lv_iload_n hx hb d_M_rowToWrite_0 rfl (lv_at hl 1 rfl) ?_
  refine lv_if_lt (tgt := 13) hx hb d_M_rowToWrite_1 (by decide) (fun c1 => (nI_pos h31 c1).elim) (fun c1 => ?_)
  refine lv_iload_n hx hb d_M_rowToWrite_4 rfl (lv_at hl 1 rfl) ?_
  refine lv_aload_n hx hb d_M_rowToWrite_5 rfl (lv_at hl 0 rfl) ?_
  refine get_M hC hw ham hem 2 (by decide) k_fl_M_29 rfl d_M_rowToWrite_6 ?_
  refine len_R hC hw hra her d_M_rowToWrite_9 ?_
  refine lv_icmp_lt (tgt := 15) hx hb d_M_rowToWrite_10 (by decide) (fun c2 => ?_) (fun c2 => (c2 (nI_lt hr (by omega))).elim)
  refine lv_aload_n hx hb d_M_rowToWrite_15 rfl (lv_at hl 0 rfl) ?_
  refine get_M hC hw ham hem 2 (by decide) k_fl_M_29 rfl d_M_rowToWrite_16 ?_
  refine lv_iload_n hx hb d_M_rowToWrite_19 rfl (lv_at hl 1 rfl) ?_
  refine ald_R hC hw hra her (hr) (by omega) d_M_rowToWrite_20 ?_
  refine tp_v (v := .ref w9) (by rw [hg]; rfl) ?_
  refine lv_ifnonnull (tgt := 37) hx hb d_M_rowToWrite_21 (by decide) ?_
  refine lv_aload_n hx hb d_M_rowToWrite_37 rfl (lv_at hl 0 rfl) ?_
  refine get_M hC hw ham hem 2 (by decide) k_fl_M_29 rfl d_M_rowToWrite_38 ?_
  refine lv_iload_n hx hb d_M_rowToWrite_41 rfl (lv_at hl 1 rfl) ?_
  refine ald_R hC hw hra her (hr) (by omega) d_M_rowToWrite_42 ?_
  exact pg_aret hC.1 hw (⟨hg, rfl⟩) d_M_rowToWrite_43
set_option maxHeartbeats 4000000 in
set_option maxRecDepth 100000 in
theorem c_M_rowToWrite_none (l : Launch) (D : va_G) (kc : Nat → ClassId) (L : List Nat) (f : Nat → va_E) (sz : Nat) (tg : Nat → Nat × Nat) (k am ra : Nat) (mo : Int32) (pg N : Nat) (g : Nat → Option Nat) (bs : Nat → Nat) (hm : memG kc L f tg k am ra mo pg N g bs) (r : Nat) (hr : r < N) (hg : g r = none) : Met l y_M_rowToWrite w_M_rowToWrite ({ frames := 2, cells := 2, slots := 1025, locals := 32 }) (PP D kc L f sz [.ref am, .int (nI r)]) (Qq D L f sz (fun o u => ∃ tg' g' w, o = some w ∧ memG kc u.1 u.2 tg' k am ra mo pg N g' bs ∧ g' r = some w ∧ (∀ r2, r2 ≠ r → g' r2 = g r2) ∧ Ext (fun i => i = k) L f tg u tg')) 2 1025 (pA L f sz) := by
  refine kx_met (by decide) (Nat.le_of_ble_eq_true rfl) ?_
  intro p e s m below meth c hC hnm hw hsz ls hl
  subst hsz
  have hl : lv_has ls 2 [(0, .ref am), (1, .int (nI r))] := hl
  obtain ⟨⟨⟨hx, hb, hml, hown, hts⟩, hret9, hlocks⟩, hK, hE, hA⟩ := id hC
  obtain ⟨⟨ham, hta, hem⟩, ⟨hra, htr, her⟩, hN, hbs, hrow⟩ := id hm
  have h31 : r < 2 ^ 31 := by omega
  refine lv_iload_n hx hb d_M_rowToWrite_0 rfl (lv_at hl 1 rfl) ?_
  refine lv_if_lt (tgt := 13) hx hb d_M_rowToWrite_1 (by decide) (fun c1 => (nI_pos h31 c1).elim) (fun c1 => ?_)
  refine lv_iload_n hx hb d_M_rowToWrite_4 rfl (lv_at hl 1 rfl) ?_
  refine lv_aload_n hx hb d_M_rowToWrite_5 rfl (lv_at hl 0 rfl) ?_
  refine get_M hC hw ham hem 2 (by decide) k_fl_M_29 rfl d_M_rowToWrite_6 ?_
  refine len_R hC hw hra her d_M_rowToWrite_9 ?_
  refine lv_icmp_lt (tgt := 15) hx hb d_M_rowToWrite_10 (by decide) (fun c2 => ?_) (fun c2 => (c2 (nI_lt hr (by omega))).elim)
  refine lv_aload_n hx hb d_M_rowToWrite_15 rfl (lv_at hl 0 rfl) ?_
  refine get_M hC hw ham hem 2 (by decide) k_fl_M_29 rfl d_M_rowToWrite_16 ?_
  refine lv_iload_n hx hb d_M_rowToWrite_19 rfl (lv_at hl 1 rfl) ?_
  refine ald_R hC hw hra her (hr) (by omega) d_M_rowToWrite_20 ?_
  refine tp_v (v := .null) (by rw [hg]; rfl) ?_
  refine lv_ifnonnullN hx hb d_M_rowToWrite_21 ?_
  refine lv_aload_n hx hb d_M_rowToWrite_24 rfl (lv_at hl 0 rfl) ?_
  refine get_M hC hw ham hem 2 (by decide) k_fl_M_29 rfl d_M_rowToWrite_25 ?_
  refine lv_iload_n hx hb d_M_rowToWrite_28 rfl (lv_at hl 1 rfl) ?_
  refine new_W hC hw k_cl_M_27 k_it_W k_in_W (fs := [.null]) (fun j hj => by rcases (show j = 0 by omega) with rfl; rfl) (Nat.le_of_ble_eq_true rfl) (Nat.le_of_ble_eq_true rfl) d_M_rowToWrite_29 (fun q H hq hw => ?_)
  refine lv_dup hx hb d_M_rowToWrite_32 rfl ?_
  refine callCtor (b := q) (As := []) (n9 := 0) hC hw (c_W_init l D kc _ _ _ q mem_r (va_up_self _ _ _)) k_co_W_init k_ml_M_69 k_im_W_init k_in_W rfl rfl rfl (by decide +kernel) rfl ⟨Nat.le_of_ble_eq_true rfl, Nat.le_of_ble_eq_true rfl⟩ hl.1 rfl (Nat.le_of_ble_eq_true rfl) d_M_rowToWrite_33 ⟨Nat.le_of_ble_eq_true rfl, Nat.le_of_ble_eq_true rfl⟩ (fun u H locs hp hw => ?_)
  obtain ⟨b, hb9, rfl⟩ := hp
  have hbL : b ∉ L := fun h => hb9 (mem_l h)
  have hqb : q ≠ b := ne_in mem_r hb9
  have hraq : ra ≠ q := ne_in hra hq
  have hrab : ra ≠ b := ne_in hra hbL
  have hamq : am ≠ q := ne_in ham hq
  have hamb : am ≠ b := ne_in ham hbL
  obtain ⟨f2, hf2⟩ : ∃ F, F = va_up (va_up (va_up f q (.inr (1, [.null]))) b (.inl (kc 0, 1024, .inl (fun _ => 0)))) q (.inr (1, [.ref b])) := ⟨_, rfl⟩
  have k2 : ∀ a, a ≠ q → a ≠ b → f2 a = f a := fun a h1 h2 => by rw [hf2, va_up_ne _ _ h1, va_up_ne _ _ h2, va_up_ne _ _ h1]
  have q2 : f2 q = .inr (1, [.ref b]) := by rw [hf2]; exact va_up_self _ _ _
  have b2 : f2 b = .inl (kc 0, 1024, .inl (fun _ => 0)) := by rw [hf2, va_up_ne _ _ (Ne.symm hqb)]; exact va_up_self _ _ _
  have hw := pw_as (L' := (L ++ [q]) ++ [b]) (f' := f2) hw rfl hf2.symm
  refine ast_R hC hw (mem_l (mem_l hra)) ((k2 ra hraq hrab).trans her) (mem_l mem_r) q2 hr (by omega) d_M_rowToWrite_36 (fun H locs hw => ?_)
  obtain ⟨f3, hf3⟩ : ∃ F, F = va_up f2 ra (.inl (kc 2, N, .inr (.inr (.inr (.inr (va_up g r (some q))))))) := ⟨_, rfl⟩
  rw [← hf3] at hw
  have k3 : ∀ a, a ≠ ra → f3 a = f2 a := fun a h1 => by rw [hf3, va_up_ne _ _ h1]
  have r3 : f3 ra = .inl (kc 2, N, .inr (.inr (.inr (.inr (va_up g r (some q)))))) := by rw [hf3]; exact va_up_self _ _ _
  have hamra : am ≠ ra := fun e => by rw [e, htr] at hta; cases hta
  have hem3 : f3 am = .inr (0, [.int mo, .int (nI pg), .ref ra]) := by rw [k3 am hamra, k2 am hamq hamb]; exact hem
  refine lv_aload_n hx hb d_M_rowToWrite_37 rfl (lv_at hl 0 rfl) ?_
  refine get_M hC hw (mem_l (mem_l ham)) hem3 2 (by decide) k_fl_M_29 rfl d_M_rowToWrite_38 ?_
  refine lv_iload_n hx hb d_M_rowToWrite_41 rfl (lv_at hl 1 rfl) ?_
  refine ald_R hC hw (mem_l (mem_l hra)) r3 (hr) (by omega) d_M_rowToWrite_42 ?_
  obtain ⟨tg2, hm2, he2⟩ := memG_new hm hr hg hq hbL hqb (f' := f3) (by rw [k3 q (Ne.symm hraq)]; exact q2) (by rw [k3 b (Ne.symm hrab)]; exact b2) r3 (fun a ha hne => by rw [k3 a hne, k2 a (ne_in ha hq) (ne_in ha hbL)])
  refine W.widen (k := 2) (n := 1025) (by omega) (by omega) ?_
  exact pg_aret hC.1 hw (⟨tg2, va_up g r (some q), q, va_up_self _ _ _, hm2, va_up_self _ _ _, fun r2 h2 => va_up_ne _ _ h2, he2⟩) d_M_rowToWrite_43
end
section
/-! pasted out of kit/laws/BITS.to-paste.lean.txt: two families -/
/-! ===== lN n to 2^64: shifts, and, or, masks, one bit ===== -/
theorem wb_tb (n : Nat) : (lN n).toBitVec = BitVec.ofNat 64 n := rfl
theorem wb_inj {a b : Int64} (h : a.toBitVec = b.toBitVec) : a = b := Int64.toBitVec_inj.mp h
theorem wb_tn {n : Nat} (h : n < 2 ^ 64) : (lN n).toBitVec.toNat = n := by rw [wb_tb, BitVec.toNat_ofNat, Nat.mod_eq_of_lt h]
theorem wb_of (x : Int64) : ∃ n, n < 2 ^ 64 ∧ x = lN n := ⟨x.toBitVec.toNat, x.toBitVec.isLt, wb_inj (by rw [wb_tb]; simp)⟩
theorem wb_of32 (x : Int32) : ∃ n, n < 2 ^ 32 ∧ x = nI n := ⟨x.toBitVec.toNat, x.toBitVec.isLt, Int32.toBitVec_inj.mp (by show _ = BitVec.ofNat 32 _; simp)⟩
theorem wb_c : ∀ k, k < 64 → ((nI k).toInt64 &&& 63) = lN k := by decide +kernel
theorem wb_cu : ∀ k, k < 64 → ((nI k).toInt64.toUInt64 &&& Int64.toUInt64 63) = UInt64.ofNat k := by decide +kernel
theorem wb_sm : ∀ k, k < 64 → (BitVec.ofNat 64 k).smod 64 = BitVec.ofNat 64 k := by decide +kernel
theorem wb_pw {a b : Nat} (h : a ≤ b) : 2 ^ b = 2 ^ a * 2 ^ (b - a) := by rw [← Nat.pow_add]; congr 1; omega
theorem wb_lt2 {a b : Nat} (h : a < b) : 2 ^ a < 2 ^ b := Nat.pow_lt_pow_right (by decide) h
theorem wb_mod (n : Nat) : lN n = lN (n % 2 ^ 64) := wb_inj (by rw [wb_tb, wb_tb]; apply BitVec.eq_of_toNat_eq; rw [BitVec.toNat_ofNat, BitVec.toNat_ofNat, Nat.mod_mod])
theorem wb_shr {n k : Nat} (hn : n < 2 ^ 64) (hk : k < 64) : ((lN n).toUInt64 >>> ((nI k).toInt64.toUInt64 &&& Int64.toUInt64 63)).toInt64 = lN (n / 2 ^ k) := by
  rw [wb_cu k hk]
  apply wb_inj
  apply BitVec.eq_of_toNat_eq
  show ((lN n).toUInt64 >>> UInt64.ofNat k).toNat = (BitVec.ofNat 64 _).toNat
  have h1 : (UInt64.ofNat k).toNat = k := by
    show (BitVec.ofNat 64 k).toNat = k
    rw [BitVec.toNat_ofNat, Nat.mod_eq_of_lt (by omega)]
  have h2 : (lN n).toUInt64.toNat = n := wb_tn hn
  rw [UInt64.toNat_shiftRight, h1, h2, Nat.mod_eq_of_lt hk, Nat.shiftRight_eq_div_pow, BitVec.toNat_ofNat, Nat.mod_eq_of_lt (Nat.lt_of_le_of_lt (Nat.div_le_self _ _) hn)]
theorem wb_shl (n : Nat) {k : Nat} (hk : k < 64) : lN n <<< ((nI k).toInt64 &&& 63) = lN (n * 2 ^ k) := by
  rw [wb_c k hk]
  apply wb_inj
  rw [Int64.toBitVec_shiftLeft, wb_tb, wb_tb, wb_tb, wb_sm k hk]
  apply BitVec.eq_of_toNat_eq
  rw [BitVec.shiftLeft_eq', BitVec.toNat_shiftLeft, BitVec.toNat_ofNat, BitVec.toNat_ofNat, BitVec.toNat_ofNat, Nat.mod_eq_of_lt (show k < 2 ^ 64 by omega), Nat.shiftLeft_eq, Nat.mul_mod, Nat.mod_mod, ← Nat.mul_mod]
theorem wb_and {a b : Nat} (ha : a < 2 ^ 64) (hb : b < 2 ^ 64) : lN a &&& lN b = lN (a &&& b) := by
  apply wb_inj
  rw [Int64.toBitVec_and, wb_tb, wb_tb, wb_tb]
  apply BitVec.eq_of_toNat_eq
  rw [BitVec.toNat_and, BitVec.toNat_ofNat, BitVec.toNat_ofNat, BitVec.toNat_ofNat, Nat.mod_eq_of_lt ha, Nat.mod_eq_of_lt hb, Nat.mod_eq_of_lt (Nat.and_lt_two_pow _ hb)]
theorem wb_or {a b : Nat} (ha : a < 2 ^ 64) (hb : b < 2 ^ 64) : lN a ||| lN b = lN (a ||| b) := by
  apply wb_inj
  rw [Int64.toBitVec_or, wb_tb, wb_tb, wb_tb]
  apply BitVec.eq_of_toNat_eq
  rw [BitVec.toNat_or, BitVec.toNat_ofNat, BitVec.toNat_ofNat, BitVec.toNat_ofNat, Nat.mod_eq_of_lt ha, Nat.mod_eq_of_lt hb, Nat.mod_eq_of_lt (Nat.or_lt_two_pow ha hb)]
theorem wb_mask {n k : Nat} (hn : n < 2 ^ 64) (hk : k < 64) : lN n &&& lN (2 ^ k - 1) = lN (n % 2 ^ k) := by
  rw [wb_and hn (by have := wb_lt2 hk; omega), Nat.and_two_pow_sub_one_eq_mod]
theorem wb_a1 {n : Nat} (hn : n < 2 ^ 64) : lN n &&& 1 = lN (n % 2) := wb_mask (k := 1) hn (by decide)
theorem wb_bit {n k : Nat} (hn : n < 2 ^ 64) (hk : k < 64) : ((lN n).toUInt64 >>> ((nI k).toInt64.toUInt64 &&& Int64.toUInt64 63)).toInt64 &&& 1 = lN (n / 2 ^ k % 2) := by
  rw [wb_shr hn hk, wb_a1 (Nat.lt_of_le_of_lt (Nat.div_le_self _ _) hn)]
theorem wb_xor {q k : Nat} (hk : k < 63) (h : 2 ^ k ≤ q) (h2 : q < 2 ^ (k + 1)) : lN q ^^^ lN (2 ^ k) = lN (q - 2 ^ k) := by
  obtain ⟨r, rfl⟩ : ∃ r, q = 2 ^ k + r := ⟨q - 2 ^ k, by omega⟩
  have hr : r < 2 ^ k := by rw [Nat.pow_succ] at h2; omega
  have hx : (2 ^ k + r) ^^^ 2 ^ k = r := by
    apply Nat.eq_of_testBit_eq
    intro i
    rw [Nat.testBit_xor, Nat.testBit_two_pow]
    rcases Nat.lt_trichotomy i k with h | h | h
    · rw [Nat.testBit_two_pow_add_gt h]
      simp [show ¬ k = i by omega]
    · subst h
      rw [Nat.testBit_two_pow_add_eq]
      simp
    · have a1 : 2 ^ (k + 1) ≤ 2 ^ i := Nat.pow_le_pow_right (by decide) h
      rw [Nat.testBit_lt_two_pow (show 2 ^ k + r < 2 ^ i by omega), Nat.testBit_lt_two_pow (show r < 2 ^ i by omega)]
      simp [show ¬ k = i by omega]
  have b1 := wb_lt2 (show k + 1 < 64 by omega)
  have b2 := wb_lt2 (show k < 64 by omega)
  apply wb_inj
  rw [Int64.toBitVec_xor, wb_tb, wb_tb, wb_tb]
  apply BitVec.eq_of_toNat_eq
  rw [BitVec.toNat_xor, BitVec.toNat_ofNat, BitVec.toNat_ofNat, BitVec.toNat_ofNat, Nat.mod_eq_of_lt (by omega : 2 ^ k + r < 2 ^ 64), Nat.mod_eq_of_lt b2, hx, Nat.add_sub_cancel_left, Nat.mod_eq_of_lt (by omega)]
/-! ===== lN: masks, 'or' of parts that don't overlap is a sum ===== -/
theorem u_tn {n : Nat} (h : n < 2 ^ 64) : (UInt64.ofNat n).toNat = n := Nat.mod_eq_of_lt h
theorem g_and {a b c : Nat} (ha : a < 2 ^ 64) (hb : b < 2 ^ 64) (hc : a &&& b = c) : lN a &&& lN b = lN c := by
  subst hc
  have h : UInt64.ofNat a &&& UInt64.ofNat b = UInt64.ofNat (a &&& b) := UInt64.toNat_inj.mp (by rw [UInt64.toNat_and, u_tn ha, u_tn hb, u_tn (Nat.and_lt_two_pow a hb)])
  have h2 := congrArg UInt64.toInt64 h
  exact h2
theorem g_and1 {a : Nat} (ha : a < 2 ^ 64) : lN a &&& 1 = lN (a % 2) := g_and (b := 1) ha (by decide) (Nat.and_two_pow_sub_one_eq_mod a 1)
theorem g_mask {a s p : Nat} (hp : 2 ^ s = p) (hs : s < 64) (ha : a < 2 ^ 64) : lN a &&& lN (p - 1) = lN (a % p) := by
  subst hp
  have := Nat.pow_lt_pow_right (show 1 < 2 by decide) hs
  exact g_and ha (by omega) (Nat.and_two_pow_sub_one_eq_mod a s)
theorem g_or {k p a b : Nat} (hp : 2 ^ k = p) (ha : a < p) (h : b * p + a < 2 ^ 64) : lN (b * p) ||| lN a = lN (b * p + a) := by
  subst hp
  have h1 : b * 2 ^ k ||| a = b * 2 ^ k + a := by rw [← Nat.shiftLeft_eq, Nat.shiftLeft_add_eq_or_of_lt ha]
  have h3 : UInt64.ofNat (b * 2 ^ k) ||| UInt64.ofNat a = UInt64.ofNat (b * 2 ^ k + a) := UInt64.toNat_inj.mp (by rw [UInt64.toNat_or, u_tn (by omega), u_tn (by omega), u_tn h, h1])
  have h2 := congrArg UInt64.toInt64 h3
  exact h2
theorem g_or' {k p a b : Nat} (hp : 2 ^ k = p) (ha : a < p) (h : a + b * p < 2 ^ 64) : lN a ||| lN (b * p) = lN (a + b * p) := by
  rw [Int64.or_comm, g_or hp ha (by omega), Nat.add_comm]
theorem g_ushr {a k p : Nat} {y : UInt64} (hy : y = UInt64.ofNat k) (hk : k < 64) (hp : 2 ^ k = p) (ha : a < 2 ^ 64) : ((lN a).toUInt64 >>> y).toInt64 = lN (a / p) := by
  subst hy hp
  have h : UInt64.ofNat a >>> UInt64.ofNat k = UInt64.ofNat (a / 2 ^ k) := UInt64.toNat_inj.mp (by rw [UInt64.toNat_shiftRight, u_tn ha, u_tn (by omega), u_tn (Nat.lt_of_le_of_lt (Nat.div_le_self _ _) ha), Nat.mod_eq_of_lt hk, Nat.shiftRight_eq_div_pow])
  have h2 := congrArg UInt64.toInt64 h
  exact h2
theorem g_shl {a k p : Nat} {y : Int64} (hy : y.toBitVec.smod 64 = BitVec.ofNat 64 k) (hk : k < 64) (hp : 2 ^ k = p) (ha : a < 2 ^ 64) : lN a <<< y = lN (a * p) := by
  subst hp
  apply Int64.toBitVec_inj.mp
  rw [Int64.toBitVec_shiftLeft, hy]
  apply BitVec.eq_of_toNat_eq
  have hb : (lN a).toBitVec.toNat = a := Nat.mod_eq_of_lt ha
  have hk' : (BitVec.ofNat 64 k).toNat = k := Nat.mod_eq_of_lt (by omega)
  have h : ((lN a).toBitVec <<< BitVec.ofNat 64 k).toNat = (a * 2 ^ k) % 2 ^ 64 := by simp only [BitVec.shiftLeft_eq', BitVec.toNat_shiftLeft, hb, hk', Nat.shiftLeft_eq]
  exact h
/-! ===== numbers out of bytes, the lowest first ===== -/
def leN (bs : Nat → Nat) (P : Nat) : Nat → Nat
  | 0 => 0
  | i + 1 => leN bs P i + bs (P + i) * 2 ^ (8 * i)
theorem leN_lt {bs : Nat → Nat} (h : ∀ j, bs j < 256) (P : Nat) : ∀ i, leN bs P i < 2 ^ (8 * i)
  | 0 => by simp [leN]
  | i + 1 => by
    have h1 := leN_lt h P i
    have h2 : bs (P + i) * 2 ^ (8 * i) ≤ 255 * 2 ^ (8 * i) := Nat.mul_le_mul_right _ (by have := h (P + i); omega)
    show leN bs P i + bs (P + i) * 2 ^ (8 * i) < 2 ^ (8 * (i + 1))
    rw [show 8 * (i + 1) = 8 * i + 8 by omega, Nat.pow_add]
    omega
theorem le_64 {i : Nat} (h : i ≤ 8) : 2 ^ (8 * i) ≤ 2 ^ 64 := Nat.pow_le_pow_right (by decide) (by omega)
/-- the byte i, put in its place beside those below -/
theorem le_or {bs : Nat → Nat} (h : ∀ j, bs j < 256) (P : Nat) {i : Nat} (hi : i < 8) : lN (leN bs P i) ||| ((nI (bs (P + i))).toInt64 <<< ((8 * nI i).toInt64 &&& 63)) = lN (leN bs P (i + 1)) := by
  have hb := h (P + i)
  have e8 : (8 : Int32) * nI i = nI (8 * i) := pk_mul 8 i
  rw [e8, nI_l (show bs (P + i) < 2 ^ 31 by omega), wb_shl _ (show 8 * i < 64 by omega)]
  have h3 := leN_lt h P (i + 1)
  have h4 := le_64 (show i + 1 ≤ 8 by omega)
  exact g_or' (k := 8 * i) rfl (leN_lt h P i) (Nat.lt_of_lt_of_le h3 h4)
theorem le_add {bs : Nat → Nat} (h : ∀ j, bs j < 256) (P : Nat) {i : Nat} (hi : i < 8) : lN (leN bs P i) + ((nI (bs (P + i))).toInt64 <<< ((8 * nI i).toInt64 &&& 63)) = lN (leN bs P (i + 1)) := by
  have hb := h (P + i)
  have e8 : (8 : Int32) * nI i = nI (8 * i) := pk_mul 8 i
  rw [e8, nI_l (show bs (P + i) < 2 ^ 31 by omega), wb_shl _ (show 8 * i < 64 by omega), lN_add]
  rfl
/-- the number whose bits a long has -/
def uL (x : Int64) : Nat := x.toBitVec.toNat
theorem uL_lt (x : Int64) : uL x < 2 ^ 64 := x.toBitVec.isLt
theorem uL_lN (x : Int64) : lN (uL x) = x := by
  apply wb_inj
  rw [wb_tb]
  show BitVec.ofNat 64 x.toBitVec.toNat = x.toBitVec
  rw [BitVec.ofNat_toNat]
  exact BitVec.setWidth_eq x.toBitVec
theorem byte_of (n : Nat) : (nI n).toInt8.toInt32 = sb_b (n % 256) := by
  show (nI n).toInt8.toInt32 = (nI (n % 256)).toInt8.toInt32
  congr 1
  apply Int8.toBitVec_inj.1
  show (BitVec.ofNat 32 n).signExtend 8 = (BitVec.ofNat 32 (n % 256)).signExtend 8
  rw [BitVec.signExtend_eq_setWidth_of_le _ (by decide), BitVec.signExtend_eq_setWidth_of_le _ (by decide)]
  apply BitVec.eq_of_toNat_eq
  simp only [BitVec.toNat_setWidth, BitVec.toNat_ofNat]
  omega
/-- the byte i of a long, as the class and the reference cut it out -/
theorem byte_u (x : Int64) {i : Nat} (hi : i < 8) : ((x.toUInt64 >>> ((8 * nI i).toInt64.toUInt64 &&& Int64.toUInt64 63)).toInt64).toInt32.toInt8.toInt32 = sb_b (uL x / 2 ^ (8 * i) % 256) := by
  have e8 : (8 : Int32) * nI i = nI (8 * i) := pk_mul 8 i
  have h1 : x = lN (uL x) := (uL_lN x).symm
  rw [e8]
  conv => lhs; rw [h1]
  rw [wb_shr (uL_lt x) (by omega), lN_i, byte_of]
end
section
/-! Memory: bytes and numbers -/
set_option maxHeartbeats 4000000 in
set_option maxRecDepth 100000 in
theorem c_M_putByte_some (l : Launch) (D : va_G) (kc : Nat → ClassId) (L : List Nat) (f : Nat → va_E) (sz : Nat) (tg : Nat → Nat × Nat) (k am ra : Nat) (mo : Int32) (pg N : Nat) (g : Nat → Option Nat) (bs : Nat → Nat) (hm : memG kc L f tg k am ra mo pg N g bs) (P : Nat) (hP : P < 1024 * N) (v : Nat) (hv9 : v < 256) (w0 : Nat) (hg0 : g (P / 1024) = some w0) : Met l y_M_putByte w_M_putByte ({ frames := 1, cells := 0, slots := 0, locals := 21 }) (PP D kc L f sz [.ref am, .int (nI P), .int (sb_b v)]) (Qv D L f sz (fun u => ∃ tg' g', memG kc u.1 u.2 tg' k am ra mo pg N g' (va_up bs P v) ∧ g' (P / 1024) ≠ none ∧ (∀ r, r ≠ P / 1024 → g' r = g r) ∧ Ext (fun i => i = k) L f tg u tg')) 0 0 (pA L f sz) := by
  refine kx_met (by decide) (Nat.le_of_ble_eq_true rfl) ?_
  intro p e s m below meth c hC hnm hw hsz ls hl
  subst hsz
  have hl : lv_has ls 4 [(0, .ref am), (1, .int (nI P)), (2, .int (sb_b v))] := hl
  obtain ⟨⟨⟨hx, hb, hml, hown, hts⟩, hret9, hlocks⟩, hK, hE, hA⟩ := id hC
  obtain ⟨⟨ham, hta, hem⟩, ⟨hra, htr, her⟩, hN, hbs, hrow⟩ := id hm
  have hr : P / 1024 < N := by omega
  have h31 : P < 2 ^ 31 := by omega
  refine lv_aload_n hx hb d_M_putByte_0 rfl (lv_at hl 0 rfl) ?_
  refine lv_iload_n hx hb d_M_putByte_1 rfl (lv_at hl 1 rfl) ?_
  refine lv_sipush (v := 1024) hx hb d_M_putByte_2 (by decide) ?_
  refine lv_idiv hx hb d_M_putByte_5 (by decide) ?_
  refine tp_i (v := nI (P / 1024)) (pk_div (d := 1024) h31 (by decide) (by decide)) ?_
  refine callVq (As := [.int (nI (P / 1024))]) (n9 := 1) hC hw (c_M_rowToWrite_some l D kc _ _ _ am ra mo pg N g ham hem hra her hN (P / 1024) hr w0 hg0) k_co_M_rowToWrite k_ml_M_62 k_im_M_rowToWrite k_se_M_rowToWrite k_in_M rfl rfl (by decide +kernel) rfl ⟨Nat.le_of_ble_eq_true rfl, Nat.le_of_ble_eq_true rfl⟩ ham hem rfl hl.1 rfl (Nat.le_of_ble_eq_true rfl) d_M_putByte_6 ⟨Nat.le_of_ble_eq_true rfl, Nat.le_of_ble_eq_true rfl⟩ (fun o u H locs hp hw => ?_)
  obtain ⟨rfl, rfl⟩ := hp
  obtain ⟨w9, b9, hh, hg, hw9, htw, hfw, hb9, htb, hfb, hv⟩ : ∃ (w b : Nat) (h : Nat → Int32), g (P / 1024) = some w ∧ w ∈ L ∧ tg w = (k, 2 + 2 * (P / 1024)) ∧ f w = .inr (1, [.ref b]) ∧ b ∈ L ∧ tg b = (k, 3 + 2 * (P / 1024)) ∧ f b = .inl (kc 0, 1024, .inl h) ∧ ∀ j, j < 1024 → h j = sb_b (bs (1024 * (P / 1024) + j)) := by
    rcases hrow (P / 1024) hr with ⟨hn, -⟩ | hh
    · rw [hg0] at hn; cases hn
    · exact hh
  refine tp_v (v := .ref w9) (by rw [← hg0, hg]; rfl) ?_
  refine lv_astore_n (lv' := [(3, .ref w9), (0, .ref am), (1, .int (nI P)), (2, .int (sb_b v))]) hx hb d_M_putByte_9 rfl hl (by decide) rfl (fun ls hl => ?_)
  refine lv_aload_n hx hb d_M_putByte_10 rfl (lv_at hl 0 rfl) ?_
  refine lv_ifnull hx hb d_M_putByte_11 ?_
  refine lv_iload_n hx hb d_M_putByte_14 rfl (lv_at hl 2 rfl) ?_
  refine lv_if_lt (tgt := 29) hx hb d_M_putByte_15 (by decide) (fun c1 => (nI_pos h31 c1).elim) (fun c1 => ?_)
  refine lv_aload_n hx hb d_M_putByte_18 rfl (lv_at hl 0 rfl) ?_
  refine get_W hC hw hw9 hfw 0 (by decide) k_fl_M_52 rfl d_M_putByte_19 ?_
  refine lv_iload_n hx hb d_M_putByte_22 rfl (lv_at hl 2 rfl) ?_
  refine lv_sipush (v := 1024) hx hb d_M_putByte_23 (by decide) ?_
  refine lv_irem hx hb d_M_putByte_26 (by decide) ?_
  refine tp_i (v := nI (P % 1024)) (pk_rem (d := 1024) h31 (by decide) (by decide)) ?_
  refine lv_iload_n hx hb d_M_putByte_27 rfl (lv_at hl 3 rfl) ?_
  refine ast_B hC hw hb9 hfb (y := sb_b v) (by exact pk_vb (nI v)) (show P % 1024 < 1024 by omega) (by decide) d_M_putByte_28 (fun H locs hw => ?_)
  have key := memG_put hm hr hg hw9 htw hfw hb9 htb hfb (h' := upd hh (P % 1024) (sb_b v)) (bs' := va_up bs P v) (by
    intro j
    by_cases e : j = P
    · rw [e, va_up_self]; exact hv9
    · rw [va_up_ne _ _ e]; exact hbs j) (by
    intro j hj
    by_cases e : j = P % 1024
    · rw [e, pk_us, show 1024 * (P / 1024) + P % 1024 = P by omega, va_up_self]
    · rw [pk_un e, va_up_ne _ _ (by omega)]; exact hv j hj) (fun j hj => va_up_ne _ _ (by omega))
  exact pg_vret hC.1 hw (⟨tg, g, key.1, by rw [hg0]; exact (fun h => Option.some_ne_none _ h), fun _ _ => rfl, key.2⟩) d_M_putByte_29
set_option maxHeartbeats 4000000 in
set_option maxRecDepth 100000 in
theorem c_M_putByte_none (l : Launch) (D : va_G) (kc : Nat → ClassId) (L : List Nat) (f : Nat → va_E) (sz : Nat) (tg : Nat → Nat × Nat) (k am ra : Nat) (mo : Int32) (pg N : Nat) (g : Nat → Option Nat) (bs : Nat → Nat) (hm : memG kc L f tg k am ra mo pg N g bs) (P : Nat) (hP : P < 1024 * N) (v : Nat) (hv9 : v < 256) (hg0 : g (P / 1024) = none) : Met l y_M_putByte w_M_putByte ({ frames := 3, cells := 2, slots := 1025, locals := 53 }) (PP D kc L f sz [.ref am, .int (nI P), .int (sb_b v)]) (Qv D L f sz (fun u => ∃ tg' g', memG kc u.1 u.2 tg' k am ra mo pg N g' (va_up bs P v) ∧ g' (P / 1024) ≠ none ∧ (∀ r, r ≠ P / 1024 → g' r = g r) ∧ Ext (fun i => i = k) L f tg u tg')) 2 1025 (pA L f sz) := by
  refine kx_met (by decide) (Nat.le_of_ble_eq_true rfl) ?_
  intro p e s m below meth c hC hnm hw hsz ls hl
  subst hsz
  have hl : lv_has ls 4 [(0, .ref am), (1, .int (nI P)), (2, .int (sb_b v))] := hl
  obtain ⟨⟨⟨hx, hb, hml, hown, hts⟩, hret9, hlocks⟩, hK, hE, hA⟩ := id hC
  obtain ⟨⟨ham, hta, hem⟩, ⟨hra, htr, her⟩, hN, hbs, hrow⟩ := id hm
  have hr : P / 1024 < N := by omega
  have h31 : P < 2 ^ 31 := by omega
  refine lv_aload_n hx hb d_M_putByte_0 rfl (lv_at hl 0 rfl) ?_
  refine lv_iload_n hx hb d_M_putByte_1 rfl (lv_at hl 1 rfl) ?_
  refine lv_sipush (v := 1024) hx hb d_M_putByte_2 (by decide) ?_
  refine lv_idiv hx hb d_M_putByte_5 (by decide) ?_
  refine tp_i (v := nI (P / 1024)) (pk_div (d := 1024) h31 (by decide) (by decide)) ?_
  refine callVq (As := [.int (nI (P / 1024))]) (n9 := 1) hC hw (c_M_rowToWrite_none l D kc _ _ _ tg k am ra mo pg N g bs hm (P / 1024) hr hg0) k_co_M_rowToWrite k_ml_M_62 k_im_M_rowToWrite k_se_M_rowToWrite k_in_M rfl rfl (by decide +kernel) rfl ⟨Nat.le_of_ble_eq_true rfl, Nat.le_of_ble_eq_true rfl⟩ ham hem rfl hl.1 rfl (Nat.le_of_ble_eq_true rfl) d_M_putByte_6 ⟨Nat.le_of_ble_eq_true rfl, Nat.le_of_ble_eq_true rfl⟩ (fun o u H locs hp hw => ?_)
  obtain ⟨tg1, g1, w1, rfl, hm1, hg1, hgo, he1⟩ := hp
  obtain ⟨L1, f1⟩ := u
  dsimp only at hw hm1 he1
  obtain ⟨⟨ham1, hta1, hem1⟩, ⟨hra1, htr1, her1⟩, -, -, hrow1⟩ := id hm1
  obtain ⟨w9, b9, hh, hg, hw9, htw, hfw, hb9, htb, hfb, hv⟩ : ∃ (w b : Nat) (h : Nat → Int32), g1 (P / 1024) = some w ∧ w ∈ L1 ∧ tg1 w = (k, 2 + 2 * (P / 1024)) ∧ f1 w = .inr (1, [.ref b]) ∧ b ∈ L1 ∧ tg1 b = (k, 3 + 2 * (P / 1024)) ∧ f1 b = .inl (kc 0, 1024, .inl h) ∧ ∀ j, j < 1024 → h j = sb_b (bs (1024 * (P / 1024) + j)) := by
    rcases hrow1 (P / 1024) hr with ⟨hn, -⟩ | hh
    · rw [hg1] at hn; cases hn
    · exact hh
  refine tp_v (v := .ref w9) (by rw [← hg1, hg]; rfl) ?_
  refine lv_astore_n (lv' := [(3, .ref w9), (0, .ref am), (1, .int (nI P)), (2, .int (sb_b v))]) hx hb d_M_putByte_9 rfl hl (by decide) rfl (fun ls hl => ?_)
  refine lv_aload_n hx hb d_M_putByte_10 rfl (lv_at hl 0 rfl) ?_
  refine lv_ifnull hx hb d_M_putByte_11 ?_
  refine lv_iload_n hx hb d_M_putByte_14 rfl (lv_at hl 2 rfl) ?_
  refine lv_if_lt (tgt := 29) hx hb d_M_putByte_15 (by decide) (fun c1 => (nI_pos h31 c1).elim) (fun c1 => ?_)
  refine lv_aload_n hx hb d_M_putByte_18 rfl (lv_at hl 0 rfl) ?_
  refine get_W hC hw hw9 hfw 0 (by decide) k_fl_M_52 rfl d_M_putByte_19 ?_
  refine lv_iload_n hx hb d_M_putByte_22 rfl (lv_at hl 2 rfl) ?_
  refine lv_sipush (v := 1024) hx hb d_M_putByte_23 (by decide) ?_
  refine lv_irem hx hb d_M_putByte_26 (by decide) ?_
  refine tp_i (v := nI (P % 1024)) (pk_rem (d := 1024) h31 (by decide) (by decide)) ?_
  refine lv_iload_n hx hb d_M_putByte_27 rfl (lv_at hl 3 rfl) ?_
  refine ast_B hC hw hb9 hfb (y := sb_b v) (by exact pk_vb (nI v)) (show P % 1024 < 1024 by omega) (by decide) d_M_putByte_28 (fun H locs hw => ?_)
  have key := memG_put hm1 hr hg hw9 htw hfw hb9 htb hfb (h' := upd hh (P % 1024) (sb_b v)) (bs' := va_up bs P v) (by
    intro j
    by_cases e : j = P
    · rw [e, va_up_self]; exact hv9
    · rw [va_up_ne _ _ e]; exact hbs j) (by
    intro j hj
    by_cases e : j = P % 1024
    · rw [e, pk_us, show 1024 * (P / 1024) + P % 1024 = P by omega, va_up_self]
    · rw [pk_un e, va_up_ne _ _ (by omega)]; exact hv j hj) (fun j hj => va_up_ne _ _ (by omega))
  refine W.widen (k := 2) (n := 1025) (by omega) (by omega) ?_
  exact pg_vret hC.1 hw (⟨tg1, g1, key.1, by rw [hg1]; exact (fun h => Option.some_ne_none _ h), hgo, he1.tr key.2⟩) d_M_putByte_29
set_option maxHeartbeats 4000000 in
set_option maxRecDepth 100000 in
theorem lp_numberAt {p : Program} {l : Launch} {e : Env} {R : Room} {s : State} {m : MethodId} {args : Array Value} {below : List Frame} {meth : Method} {c : Code} {Q : State → Prop} {A : Nat → Prop} {D : va_G} {kc : Nat → ClassId} {c0 : Cond} {ret : Option FieldType} {L : List Nat} {f : Nat → va_E} {tg : Nat → Nat × Nat} {k am ra : Nat} {mo : Int32} {pg N : Nat} {g : Nat → Option Nat} {bs : Nat → Nat} (hm : memG kc L f tg k am ra mo pg N g bs) {cells slots : Nat} (hcs : cells ≤ R.cells ∧ slots ≤ R.slots) (P nb : Nat) (hP : P + nb ≤ 1024 * N) (hnb : nb ≤ 8) (hC : Kx p m c b_M_numberAt 6 s args c0 R_M meth ret D kc A) (hRf : 2 ≤ R.frames) (hRl : 43 ≤ R.locals)
    (kont : ∀ (H : Heap) (locs : List Loc) (ls : Array Slot), pw D Cls A s.heap H locs L f → lv_has ls 6 [(3, .long (lN (leN bs P nb)))] → W p l e R s m args below meth c H locs cells slots Q (F0 m 35 ls [])) :
    ∀ (n : Nat) (i : Nat) (H : Heap) (locs : List Loc) (ls : Array Slot), i ≤ nb → nb + 1 ≤ i + n → pw D Cls A s.heap H locs L f → lv_has ls 6 [(5, .int (nI i)), (3, .long (lN (leN bs P i))), (0, .ref am), (1, .int (nI P)), (2, .int (nI nb))] → W p l e R s m args below meth c H locs cells slots Q (F0 m 5 ls []) := by
  obtain ⟨⟨⟨hx, hb, hml, hown, hts⟩, hret9, hlocks⟩, hK, hE, hA⟩ := id hC
  intro n
  induction n with
  | zero => intro i H locs ls hi hin hw hl; exact absurd hin (by omega)
  | succ n ih =>
    intro i H locs ls hi hin hw hl
    obtain ⟨⟨ham, hta, hem⟩, ⟨hra, htr, her⟩, hN, hbs, hrow⟩ := id hm
    refine lv_iload hx hb d_M_numberAt_5 (lv_at hl 0 rfl) ?_
    refine lv_iload_n hx hb d_M_numberAt_7 rfl (lv_at hl 4 rfl) ?_
    refine lv_icmp_ge (tgt := 35) hx hb d_M_numberAt_8 (by decide) (fun c1 => ?_) (fun c1 => ?_)
    · have e : i = nb := by
        rcases Nat.lt_or_ge i nb with q | q
        · exact absurd c1 (nI_ge q (by omega))
        · omega
      subst e
      exact kont H locs ls hw (lv_sub hl [1] rfl)
    · have hlt : i < nb := by
        rcases Nat.lt_or_ge i nb with q | q
        · exact q
        · exact absurd (nI_le q (by omega)) c1
      refine lv_lload_n hx hb d_M_numberAt_11 rfl (lv_at hl 1 rfl) ?_
      refine lv_aload_n hx hb d_M_numberAt_12 rfl (lv_at hl 2 rfl) ?_
      refine lv_iload_n hx hb d_M_numberAt_13 rfl (lv_at hl 3 rfl) ?_
      refine lv_iload hx hb d_M_numberAt_14 (lv_at hl 0 rfl) ?_
      refine lv_iadd hx hb d_M_numberAt_16 ?_
      refine tp_i (v := nI (P + i)) (nI_add P i) ?_
      refine callVi (As := [.int (nI (P + i))]) (n9 := 1) hC hw (c_M_byteAt l D kc _ _ _ tg k am ra mo pg N g bs hm (P + i) (by omega)) k_co_M_byteAt k_ml_M_36 k_im_M_byteAt k_se_M_byteAt k_in_M rfl rfl (by decide +kernel) rfl ⟨Nat.le_trans (Nat.le_of_ble_eq_true rfl) hRf, Nat.le_trans (Nat.le_of_ble_eq_true rfl) hRl⟩ ham hem rfl hl.1 rfl (Nat.le_of_ble_eq_true rfl) d_M_numberAt_17 ⟨hcs.1, hcs.2⟩ (fun r u H locs hp hw => ?_)
      obtain ⟨rfl, rfl⟩ := hp
      refine lv_i2l hx hb d_M_numberAt_20 rfl ?_
      refine lv_bipush (v := 8) hx hb d_M_numberAt_21 (by decide) ?_
      refine lv_iload hx hb d_M_numberAt_23 (lv_at hl 0 rfl) ?_
      refine lv_imul hx hb d_M_numberAt_25 ?_
      refine lv_lshl hx hb d_M_numberAt_26 rfl ?_
      refine lv_lor hx hb d_M_numberAt_27 ?_
      refine tp_l (v := lN (leN bs P (i + 1))) (le_or hbs P (by omega)) ?_
      refine lv_lstore_n (lv' := [(3, .long (lN (leN bs P (i + 1)))), (5, .int (nI i)), (0, .ref am), (1, .int (nI P)), (2, .int (nI nb))]) hx hb d_M_numberAt_28 rfl hl (by decide) rfl (fun ls hl => ?_)
      refine lv_iinc (v := nI (i + 1)) (lv' := [(5, .int (nI (i + 1))), (3, .long (lN (leN bs P (i + 1)))), (0, .ref am), (1, .int (nI P)), (2, .int (nI nb))]) hx hb d_M_numberAt_29 hl (k := 1) rfl (nI_1 i) (by decide) rfl (fun ls hl => ?_)
      refine lv_goto (tgt := 5) hx hb d_M_numberAt_32 (by decide) ?_
      exact ih (i + 1) _ _ _ (by omega) (by omega) hw (lv_sub hl [0, 1, 2, 3, 4] rfl)
set_option maxHeartbeats 4000000 in
set_option maxRecDepth 100000 in
theorem c_M_numberAt (l : Launch) (D : va_G) (kc : Nat → ClassId) (L : List Nat) (f : Nat → va_E) (sz : Nat) (tg : Nat → Nat × Nat) (k am ra : Nat) (mo : Int32) (pg N : Nat) (g : Nat → Option Nat) (bs : Nat → Nat) (hm : memG kc L f tg k am ra mo pg N g bs) (P nb : Nat) (hP : P + nb ≤ 1024 * N) (hnb : nb ≤ 8) : Met l y_M_numberAt w_M_numberAt ({ frames := 2, cells := 0, slots := 0, locals := 43 }) (PP D kc L f sz [.ref am, .int (nI P), .int (nI nb)]) (Ql D L f sz (fun r u => r = lN (leN bs P nb) ∧ u = (L, f))) 0 0 (pA L f sz) := by
  refine kx_met (by decide) (Nat.le_of_ble_eq_true rfl) ?_
  intro p e s m below meth c hC hnm hw hsz ls hl
  subst hsz
  have hl : lv_has ls 6 [(0, .ref am), (1, .int (nI P)), (2, .int (nI nb))] := hl
  obtain ⟨⟨⟨hx, hb, hml, hown, hts⟩, hret9, hlocks⟩, hK, hE, hA⟩ := id hC
  refine lv_lconst (v := 0) hx hb d_M_numberAt_0 (by decide) ?_
  refine lv_lstore_n (lv' := [(3, .long 0), (0, .ref am), (1, .int (nI P)), (2, .int (nI nb))]) hx hb d_M_numberAt_1 rfl hl (by decide) rfl (fun ls hl => ?_)
  refine lv_iconst (v := 0) hx hb d_M_numberAt_2 (by decide) ?_
  refine lv_istore (lv' := [(5, .int 0), (3, .long 0), (0, .ref am), (1, .int (nI P)), (2, .int (nI nb))]) hx hb d_M_numberAt_3 hl (by decide) rfl (fun ls hl => ?_)
  refine lp_numberAt hm ⟨Nat.zero_le _, Nat.zero_le _⟩ P nb hP hnb hC (Nat.le_of_ble_eq_true rfl) (Nat.le_of_ble_eq_true rfl) (fun H locs ls hw hl => ?_) (nb + 1) 0 _ _ _ (Nat.zero_le _) (by omega) hw (lv_sub hl [0, 1, 2, 3, 4] rfl)
  refine lv_lload_n hx hb d_M_numberAt_35 rfl (lv_at hl 0 rfl) ?_
  exact pg_lret hC.1 hw (⟨rfl, rfl⟩) d_M_numberAt_36
end
section
/-! Memory: putNumber -/
/-- the bytes from P on are those of V, the lowest first -/
def putN (bs : Nat → Nat) (P V : Nat) : Nat → Nat → Nat
  | 0 => bs
  | i + 1 => va_up (putN bs P V i) (P + i) (V / 2 ^ (8 * i) % 256)
set_option maxHeartbeats 4000000 in
set_option maxRecDepth 100000 in
theorem lp_putNumber {p : Program} {l : Launch} {e : Env} {R : Room} {s : State} {m : MethodId} {args : Array Value} {below : List Frame} {meth : Method} {c : Code} {Q : State → Prop} {A : Nat → Prop} {D : va_G} {kc : Nat → ClassId} {c0 : Cond} {ret : Option FieldType} {L : List Nat} {f : Nat → va_E} {tg : Nat → Nat × Nat} {k am ra : Nat} {mo : Int32} {pg N : Nat} {bs : Nat → Nat} (hcs : 4 ≤ R.cells ∧ 2050 ≤ R.slots) (P nb : Nat) (x : Int64) (hP : P + nb ≤ 1024 * N) (hnb : nb ≤ 8) (hN9 : N ≤ 1024) (hC : Kx p m c b_M_putNumber 6 s args c0 R_M meth ret D kc A) (hRf : 4 ≤ R.frames) (hRl : 76 ≤ R.locals)
    (kont : ∀ (c9 : Nat) (L' : List Nat) (f' : Nat → va_E) (tg' : Nat → Nat × Nat) (g' : Nat → Option Nat) (H : Heap) (locs : List Loc) (ls : Array Slot), c9 ≤ 2 → memG kc L' f' tg' k am ra mo pg N g' (putN bs P (uL x) nb) → Ext (fun i => i = k) L f tg (L', f') tg' → pw D Cls A s.heap H locs L' f' → W p l e R s m args below meth c H locs (2 * c9) (1025 * c9) Q (F0 m 32 ls [])) :
    ∀ (n : Nat) (i : Nat) (c9 : Nat) (L' : List Nat) (f' : Nat → va_E) (tg' : Nat → Nat × Nat) (g' : Nat → Option Nat) (H : Heap) (locs : List Loc) (ls : Array Slot), i ≤ nb → nb + 1 ≤ i + n → (c9 ≤ (P + i) / 1024 - P / 1024 ∨ (c9 ≤ (P + i) / 1024 - P / 1024 + 1 ∧ g' ((P + i) / 1024) ≠ none)) → memG kc L' f' tg' k am ra mo pg N g' (putN bs P (uL x) i) → Ext (fun i => i = k) L f tg (L', f') tg' → pw D Cls A s.heap H locs L' f' → lv_has ls 6 [(5, .int (nI i)), (0, .ref am), (1, .int (nI P)), (2, .int (nI nb)), (3, .long x)] → W p l e R s m args below meth c H locs (2 * c9) (1025 * c9) Q (F0 m 3 ls []) := by
  obtain ⟨⟨⟨hx, hb, hml, hown, hts⟩, hret9, hlocks⟩, hK, hE, hA⟩ := id hC
  intro n
  induction n with
  | zero => intro i c9 L' f' tg' g' H locs ls hi hin hc9 hm he hw hl; exact absurd hin (by omega)
  | succ n ih =>
    intro i c9 L' f' tg' g' H locs ls hi hin hc9 hm he hw hl
    obtain ⟨⟨ham, hta, hem⟩, ⟨hra, htr, her⟩, hN, hbs, hrow⟩ := id hm
    refine lv_iload hx hb d_M_putNumber_3 (lv_at hl 0 rfl) ?_
    refine lv_iload_n hx hb d_M_putNumber_5 rfl (lv_at hl 3 rfl) ?_
    refine lv_icmp_ge (tgt := 32) hx hb d_M_putNumber_6 (by decide) (fun c1 => ?_) (fun c1 => ?_)
    · have e : i = nb := by
        rcases Nat.lt_or_ge i nb with q | q
        · exact absurd c1 (nI_ge q (by omega))
        · omega
      subst e
      exact kont c9 L' f' tg' g' H locs ls (by omega) hm he hw
    · have hlt : i < nb := by
        rcases Nat.lt_or_ge i nb with q | q
        · exact q
        · exact absurd (nI_le q (by omega)) c1
      refine lv_aload_n hx hb d_M_putNumber_9 rfl (lv_at hl 1 rfl) ?_
      refine lv_iload_n hx hb d_M_putNumber_10 rfl (lv_at hl 2 rfl) ?_
      refine lv_iload hx hb d_M_putNumber_11 (lv_at hl 0 rfl) ?_
      refine lv_iadd hx hb d_M_putNumber_13 ?_
      refine tp_i (v := nI (P + i)) (nI_add P i) ?_
      refine lv_lload_n hx hb d_M_putNumber_14 rfl (lv_at hl 4 rfl) ?_
      refine lv_bipush (v := 8) hx hb d_M_putNumber_15 (by decide) ?_
      refine lv_iload hx hb d_M_putNumber_17 (lv_at hl 0 rfl) ?_
      refine lv_imul hx hb d_M_putNumber_19 ?_
      refine lv_lushr hx hb d_M_putNumber_20 rfl ?_
      refine lv_l2i hx hb d_M_putNumber_21 rfl ?_
      refine lv_i2b hx hb d_M_putNumber_22 rfl ?_
      refine tp_i (v := sb_b (uL x / 2 ^ (8 * i) % 256)) (byte_u x (by omega)) ?_
      cases hg9 : g' ((P + i) / 1024) with
      | none =>
        have hc2 : c9 ≤ (P + i) / 1024 - P / 1024 := by
          rcases hc9 with q | q
          · exact q
          · exact absurd hg9 q.2
        refine callVv (As := [.int (nI (P + i)), .int (sb_b (uL x / 2 ^ (8 * i) % 256))]) (n9 := 2) hC hw (c_M_putByte_none l D kc _ _ _ tg' k am ra mo pg N g' (putN bs P (uL x) i) hm (P + i) (by omega) (uL x / 2 ^ (8 * i) % 256) (by omega) hg9) k_co_M_putByte k_ml_M_40 k_im_M_putByte k_se_M_putByte k_in_M rfl rfl (by decide +kernel) rfl ⟨Nat.le_trans (Nat.le_of_ble_eq_true rfl) hRf, Nat.le_trans (Nat.le_of_ble_eq_true rfl) hRl⟩ ham hem rfl hl.1 rfl (Nat.le_of_ble_eq_true rfl) d_M_putNumber_23 ⟨(by omega), (by omega)⟩ (fun u H locs hp hw => ?_)
        obtain ⟨tg2, g2, hm2, hg2, hgo, he2⟩ := hp
        obtain ⟨L2, f2⟩ := u
        dsimp only at hw hm2 he2
        refine lv_iinc (v := nI (i + 1)) (lv' := [(5, .int (nI (i + 1))), (0, .ref am), (1, .int (nI P)), (2, .int (nI nb)), (3, .long x)]) hx hb d_M_putNumber_26 hl (k := 0) rfl (nI_1 i) (by decide) rfl (fun ls hl => ?_)
        refine lv_goto (tgt := 3) hx hb d_M_putNumber_29 (by decide) ?_
        refine W.cs (cells' := 2 * (c9 + 1)) (slots' := 1025 * (c9 + 1)) (by omega) (by omega) ?_
        refine ih (i + 1) (c9 + 1) L2 f2 tg2 g2 _ _ _ (by omega) (by omega) ?_ hm2 (he.tr he2) hw (lv_sub hl [0, 1, 2, 3, 4] rfl)
        by_cases e : (P + (i + 1)) / 1024 = (P + i) / 1024
        · right; rw [e]; exact ⟨by omega, hg2⟩
        · left; omega
      | some w0 =>
        refine callVv (As := [.int (nI (P + i)), .int (sb_b (uL x / 2 ^ (8 * i) % 256))]) (n9 := 2) hC hw (c_M_putByte_some l D kc _ _ _ tg' k am ra mo pg N g' (putN bs P (uL x) i) hm (P + i) (by omega) (uL x / 2 ^ (8 * i) % 256) (by omega) w0 hg9) k_co_M_putByte k_ml_M_40 k_im_M_putByte k_se_M_putByte k_in_M rfl rfl (by decide +kernel) rfl ⟨Nat.le_trans (Nat.le_of_ble_eq_true rfl) hRf, Nat.le_trans (Nat.le_of_ble_eq_true rfl) hRl⟩ ham hem rfl hl.1 rfl (Nat.le_of_ble_eq_true rfl) d_M_putNumber_23 ⟨(by omega), (by omega)⟩ (fun u H locs hp hw => ?_)
        obtain ⟨tg2, g2, hm2, hg2, hgo, he2⟩ := hp
        obtain ⟨L2, f2⟩ := u
        dsimp only at hw hm2 he2
        refine lv_iinc (v := nI (i + 1)) (lv' := [(5, .int (nI (i + 1))), (0, .ref am), (1, .int (nI P)), (2, .int (nI nb)), (3, .long x)]) hx hb d_M_putNumber_26 hl (k := 0) rfl (nI_1 i) (by decide) rfl (fun ls hl => ?_)
        refine lv_goto (tgt := 3) hx hb d_M_putNumber_29 (by decide) ?_
        refine ih (i + 1) c9 L2 f2 tg2 g2 _ _ _ (by omega) (by omega) ?_ hm2 (he.tr he2) hw (lv_sub hl [0, 1, 2, 3, 4] rfl)
        have hc2 : c9 ≤ (P + i) / 1024 - P / 1024 + 1 := by
          rcases hc9 with q | q
          · omega
          · exact q.1
        by_cases e : (P + (i + 1)) / 1024 = (P + i) / 1024
        · right; rw [e]; exact ⟨hc2, hg2⟩
        · left; omega
set_option maxHeartbeats 4000000 in
set_option maxRecDepth 100000 in
theorem c_M_putNumber (l : Launch) (D : va_G) (kc : Nat → ClassId) (L : List Nat) (f : Nat → va_E) (sz : Nat) (tg : Nat → Nat × Nat) (k am ra : Nat) (mo : Int32) (pg N : Nat) (g : Nat → Option Nat) (bs : Nat → Nat) (hm : memG kc L f tg k am ra mo pg N g bs) (P nb : Nat) (x : Int64) (hP : P + nb ≤ 1024 * N) (hnb : nb ≤ 8) : Met l y_M_putNumber w_M_putNumber ({ frames := 4, cells := 4, slots := 2050, locals := 76 }) (PP D kc L f sz [.ref am, .int (nI P), .int (nI nb), .long x]) (Qv D L f sz (fun u => ∃ tg' g', memG kc u.1 u.2 tg' k am ra mo pg N g' (putN bs P (uL x) nb) ∧ Ext (fun i => i = k) L f tg u tg')) 4 2050 (pA L f sz) := by
  refine kx_met (by decide) (Nat.le_of_ble_eq_true rfl) ?_
  intro p e s m below meth c hC hnm hw hsz ls hl
  subst hsz
  have hl : lv_has ls 6 [(0, .ref am), (1, .int (nI P)), (2, .int (nI nb)), (3, .long x)] := hl
  obtain ⟨⟨⟨hx, hb, hml, hown, hts⟩, hret9, hlocks⟩, hK, hE, hA⟩ := id hC
  refine lv_iconst (v := 0) hx hb d_M_putNumber_0 (by decide) ?_
  refine lv_istore (lv' := [(5, .int 0), (0, .ref am), (1, .int (nI P)), (2, .int (nI nb)), (3, .long x)]) hx hb d_M_putNumber_1 hl (by decide) rfl (fun ls hl => ?_)
  refine lp_putNumber ⟨Nat.le_refl _, Nat.le_refl _⟩ P nb x hP hnb hm.2.2.1 hC (Nat.le_of_ble_eq_true rfl) (Nat.le_of_ble_eq_true rfl) (fun c9 L2 f2 tg2 g2 H locs ls hc9 hm2 he2 hw => ?_) (nb + 1) 0 0 L f tg g _ _ _ (Nat.zero_le _) (by omega) (Or.inl (Nat.zero_le _)) hm Ext.rf hw (lv_sub hl [0, 1, 2, 3, 4] rfl)
  refine W.widen (k := 4) (n := 2050) (by omega) (by omega) ?_
  exact pg_vret hC.1 hw (⟨tg2, g2, hm2, he2⟩) d_M_putNumber_32
end
section
/-! Math.max, Math.min, System.arraycopy in a context -/
theorem k_mx : Cond.code Lib.Math.max.name Lib.Math.max.code 2 (some .int) ∈ GG := gg_of (by decide +kernel) (by decide +kernel)
theorem k_mn : Cond.code Lib.Math.min.name Lib.Math.min.code 2 (some .int) ∈ GG := gg_of (by decide +kernel) (by decide +kernel)
theorem k_mxs : Cond.static Lib.Math.max.name ∈ GG := gg_of (by decide +kernel) (by decide +kernel)
theorem k_mns : Cond.static Lib.Math.min.name ∈ GG := gg_of (by decide +kernel) (by decide +kernel)
theorem k_acn : Cond.native arraycopyName ∈ GG := gg_of (by decide +kernel) (by decide +kernel)
theorem k_acs : Cond.static arraycopyName ∈ GG := gg_of (by decide +kernel) (by decide +kernel)
section KL
variable {D : va_G} {kc : Nat → ClassId} {L : List Nat} {f : Nat → va_E}
variable {p : Program} {l : Launch} {e : Env} {R : Room} {s : State} {m : MethodId} {args : Array Value} {below : List Frame} {meth : Method} {c : Code} {H : Heap} {locs : List Loc} {cells slots : Nat} {Q : State → Prop} {A : Nat → Prop}
variable {cc : ByteArray} {nL : Nat} {c0 : Cond} {own : String} {ret : Option FieldType} {pc index : Nat} {ls : Array Slot} {rest : List Value}
theorem kmax (hC : Kx p m c cc nL s args c0 own meth ret D kc A) (hsz : ls.size = nL) (hml : Cond.methodLink own index Lib.Math.max.name ∈ GG) {a b : Nat} (ha : a < 2 ^ 31) (hb : b < 2 ^ 31) (hR : 1 ≤ R.frames ∧ (rest.map fun v => v.category).sum + 13 ≤ R.locals) (hcs : cells ≤ R.cells ∧ slots ≤ R.slots) (hdg : decode cc pc = .ok (.invokestatic index, 3))
    (kk : W p l e R s m args below meth c H locs cells slots Q (F0 m (pc + 3) ls (.int (nI (max a b)) :: rest))) : W p l e R s m args below meth c H locs cells slots Q (F0 m pc ls (.int (nI b) :: .int (nI a) :: rest)) := by
  have hts := hC.1.1.2.2.2.2
  refine va_mmax hC.1.1.1 hC.1.1.2.1 (hC.1.1.2.2.1.trans hsz.symm) hC.1.1.2.2.2.1 (hts _ (gg_mem hml)) (hts _ (gg_mem k_mxs)) (hts _ (gg_mem k_in_JMath)) (hts _ (gg_mem k_mx)) hR.1 hR.2 hcs.1 hcs.2 hdg ?_
  have e1 : (if nI a < nI b then nI b else nI a) = nI (max a b) := by
    by_cases h : a < b
    · rw [if_pos ((nI_ltI ha hb).mpr h), Nat.max_eq_right (Nat.le_of_lt h)]
    · rw [if_neg (fun q => h ((nI_ltI ha hb).mp q)), Nat.max_eq_left (Nat.le_of_not_lt h)]
  rw [e1]
  exact kk
theorem kmin (hC : Kx p m c cc nL s args c0 own meth ret D kc A) (hsz : ls.size = nL) (hml : Cond.methodLink own index Lib.Math.min.name ∈ GG) {a b : Nat} (ha : a < 2 ^ 31) (hb : b < 2 ^ 31) (hR : 1 ≤ R.frames ∧ (rest.map fun v => v.category).sum + 13 ≤ R.locals) (hcs : cells ≤ R.cells ∧ slots ≤ R.slots) (hdg : decode cc pc = .ok (.invokestatic index, 3))
    (kk : W p l e R s m args below meth c H locs cells slots Q (F0 m (pc + 3) ls (.int (nI (min a b)) :: rest))) : W p l e R s m args below meth c H locs cells slots Q (F0 m pc ls (.int (nI b) :: .int (nI a) :: rest)) := by
  have hts := hC.1.1.2.2.2.2
  refine va_mmin hC.1.1.1 hC.1.1.2.1 (hC.1.1.2.2.1.trans hsz.symm) hC.1.1.2.2.2.1 (hts _ (gg_mem hml)) (hts _ (gg_mem k_mns)) (hts _ (gg_mem k_in_JMath)) (hts _ (gg_mem k_mn)) hR.1 hR.2 hcs.1 hcs.2 hdg ?_
  have e1 : (if nI b < nI a then nI b else nI a) = nI (min a b) := by
    by_cases h : b < a
    · rw [if_pos ((nI_ltI hb ha).mpr h), Nat.min_eq_right (Nat.le_of_lt h)]
    · rw [if_neg (fun q => h ((nI_ltI hb ha).mp q)), Nat.min_eq_left (Nat.le_of_not_lt h)]
  rw [e1]
  exact kk
theorem kcopy (hC : Kx p m c cc nL s args c0 own meth ret D kc A) (hw : pw D Cls A s.heap H locs L f) (hsz : ls.size = nL) (hml : Cond.methodLink own index arraycopyName ∈ GG) {a0 a n0 n1 : Nat} {h0 h1 : Nat → Int32} (ha0 : a0 ∈ L) (he0 : f a0 = .inl (kc 0, n0, .inl h0)) (ha : a ∈ L) (he1 : f a = .inl (kc 0, n1, .inl h1)) (hn0 : n0 < 2 ^ 31) (hn1 : n1 < 2 ^ 31) {sp dp n : Nat} (h4 : sp + n ≤ n0) (h5 : dp + n ≤ n1) (hfit : ∀ i, i < n → fits .byte (.int (h0 (sp + i))) = true) (hR : 1 ≤ R.frames ∧ (rest.map fun v => v.category).sum + 18 ≤ R.locals) (hdg : decode cc pc = .ok (.invokestatic index, 3))
    (kk : ∀ (H1 : Heap) (locs1 : List Loc), pw D Cls A s.heap H1 locs1 L (va_up f a (.inl (kc 0, n1, .inl (va_cpy h0 h1 sp dp n)))) → W p l e R s m args below meth c H1 locs1 cells slots Q (F0 m (pc + 3) ls rest)) : W p l e R s m args below meth c H locs cells slots Q (F0 m pc ls (.int (nI n) :: .int (nI dp) :: .ref a :: .int (nI sp) :: .ref a0 :: rest)) := by
  have hts := hC.1.1.2.2.2.2
  obtain ⟨q0, g0⟩ := pg_at ha0 he0
  obtain ⟨q1, g1⟩ := pg_at ha he1
  have c1 : (nI sp).toNatClampNeg = sp := nI_clamp (by omega)
  have c2 : (nI dp).toNatClampNeg = dp := nI_clamp (by omega)
  have c3 : (nI n).toNatClampNeg = n := nI_clamp (by omega)
  refine va_copyi (ty := .byte) hC.1.1.1 hC.1.1.2.1 (hC.1.1.2.2.1.trans hsz.symm) hC.1.1.2.2.2.1 (hts _ (gg_mem hml)) (hts _ (gg_mem k_acn)) (hts _ (gg_mem k_acs)) (hts _ (gg_mem k_in_JSystem)) hC.2.1 hw.1 hw.2.1 hw.2.2 q0 q1 0 0 g0 g1 rfl rfl rfl (nI_pos (by omega)) (nI_pos (by omega)) (nI_pos (by omega)) (by rw [c1, c3]; exact h4) (by rw [c2, c3]; exact h5) (by rw [c1, c3]; exact hfit) hR.1 hR.2 hdg (fun H1 locs1 p1 p2 p3 => kk H1 locs1 ⟨?_, ?_, p3⟩)
  · rw [c1, c2, c3, pg_set hw.2.1 ha he1 g1] at p1; exact p1
  · rw [c1, c2, c3, pg_set hw.2.1 ha he1 g1] at p2; exact p2
end KL
theorem Ext_up {S : Nat → Prop} {L : List Nat} {f : Nat → va_E} {tg : Nat → Nat × Nat} {a : Nat} {e : va_E} (h : S (tg a).1) : Ext S L f tg (L, va_up f a e) tg := ⟨fun _ h => h, fun _ _ => rfl, fun b _ hb => va_up_ne _ _ (fun q => hb (by rw [q]; exact h)), fun _ h h2 => absurd h h2⟩
/-! sums: each byte times its weight, which falls by one -/
def wsum (bs : Nat → Nat) (P : Nat) (w : Int32) : Nat → Int32
  | 0 => 0
  | i + 1 => wsum bs P w i + nI (bs (P + i)) * (w - nI i)
theorem wsum_split (bs : Nat → Nat) (P : Nat) (w : Int32) (d : Nat) : ∀ n, wsum bs P w (d + n) = wsum bs P w d + wsum bs (P + d) (w - nI d) n
  | 0 => by simp [wsum]
  | n + 1 => by
    show wsum bs P w (d + n) + nI (bs (P + (d + n))) * (w - nI (d + n)) = wsum bs P w d + (wsum bs (P + d) (w - nI d) n + nI (bs (P + d + n)) * (w - nI d - nI n))
    rw [wsum_split bs P w d n, ← nI_add, Nat.add_assoc P d n, Int32.add_assoc]
    congr 2
    rw [Int32.sub_eq_add_neg, Int32.sub_eq_add_neg, Int32.sub_eq_add_neg, Int32.neg_add, Int32.add_assoc]
    rw [Int32.sub_eq_add_neg]
theorem wsum_zero {bs : Nat → Nat} {P : Nat} (w : Int32) : ∀ n, (∀ i, i < n → bs (P + i) = 0) → wsum bs P w n = 0
  | 0, _ => rfl
  | n + 1, h => by
    show wsum bs P w n + nI (bs (P + n)) * (w - nI n) = 0
    rw [wsum_zero w n (fun i hi => h i (by omega)), h n (by omega)]
    show 0 + (0 : Int32) * (w - nI n) = 0
    rw [Int32.zero_mul]; rfl
theorem wsum_congr {bs bs' : Nat → Nat} {P : Nat} (w : Int32) : ∀ n, (∀ i, i < n → bs (P + i) = bs' (P + i)) → wsum bs P w n = wsum bs' P w n
  | 0, _ => rfl
  | n + 1, h => by
    show wsum bs P w n + nI (bs (P + n)) * (w - nI n) = wsum bs' P w n + nI (bs' (P + n)) * (w - nI n)
    rw [wsum_congr w n (fun i hi => h i (by omega)), h n (by omega)]
end
section
/-! Memory: clear, readInto -/
def clr (h : Nat → Int32) (a i : Nat) : Nat → Int32 := fun j => if a ≤ j ∧ j < i then 0 else h j
theorem clr_0 (h : Nat → Int32) (a : Nat) : clr h a a = h := by
  funext j
  unfold clr
  rw [if_neg (by omega)]
theorem clr_s (h : Nat → Int32) {a i : Nat} (hi : a ≤ i) : upd (clr h a i) i 0 = clr h a (i + 1) := by
  funext j
  by_cases e : j = i
  · subst e; rw [pk_us]; unfold clr; rw [if_pos (by omega)]
  · rw [pk_un e]; unfold clr
    by_cases q : a ≤ j ∧ j < i
    · rw [if_pos q, if_pos (by omega)]
    · rw [if_neg q, if_neg (by omega)]
set_option maxHeartbeats 4000000 in
set_option maxRecDepth 100000 in
theorem lp_clear {p : Program} {l : Launch} {e : Env} {R : Room} {s : State} {m : MethodId} {args : Array Value} {below : List Frame} {meth : Method} {c : Code} {Q : State → Prop} {A : Nat → Prop} {D : va_G} {kc : Nat → ClassId} {c0 : Cond} {ret : Option FieldType} {L : List Nat} {f : Nat → va_E} {cells slots : Nat} (hcs : cells ≤ R.cells ∧ slots ≤ R.slots) {ar nn a b : Nat} {h : Nat → Int32} (har : ar ∈ L) (hnn : nn < 2 ^ 31) (hab : a ≤ b) (hb9 : b ≤ nn) (hC : Kx p m c b_M_clear 4 s args c0 R_M meth ret D kc A) (hRf : 1 ≤ R.frames) (hRl : 14 ≤ R.locals)
    (kont : ∀ (H : Heap) (locs : List Loc) (ls : Array Slot), pw D Cls A s.heap H locs L (va_up f ar (.inl (kc 0, nn, .inl (clr h a b)))) → W p l e R s m args below meth c H locs cells slots Q (F0 m 26 ls [])) :
    ∀ (n : Nat) (i : Nat) (H : Heap) (locs : List Loc) (ls : Array Slot), a ≤ i → i ≤ b → b + 1 ≤ i + n → pw D Cls A s.heap H locs L (va_up f ar (.inl (kc 0, nn, .inl (clr h a i)))) → lv_has ls 4 [(3, .int (nI i)), (0, .ref ar), (1, .int (nI a)), (2, .int (nI b))] → W p l e R s m args below meth c H locs cells slots Q (F0 m 6 ls []) := by
  obtain ⟨⟨⟨hx, hb, hml, hown, hts⟩, hret9, hlocks⟩, hK, hE, hA⟩ := id hC
  intro n
  induction n with
  | zero => intro i H locs ls ha9 hi hin hw hl; exact absurd hin (by omega)
  | succ n ih =>
    intro i H locs ls ha9 hi hin hw hl
    refine lv_iload_n hx hb d_M_clear_6 rfl (lv_at hl 0 rfl) ?_
    refine lv_iload_n hx hb d_M_clear_7 rfl (lv_at hl 3 rfl) ?_
    refine lv_aload_n hx hb d_M_clear_8 rfl (lv_at hl 1 rfl) ?_
    refine len_B hC hw har (va_up_self _ _ _) d_M_clear_9 ?_
    refine kmin (a := b) (b := nn) hC hl.1 k_ml_M_18 (by omega) (hnn) ⟨Nat.le_trans (Nat.le_of_ble_eq_true rfl) hRf, Nat.le_trans (Nat.le_of_ble_eq_true rfl) hRl⟩ (hcs) d_M_clear_10 ?_
    refine tp_i (v := nI b) (by rw [Nat.min_eq_left hb9]) ?_
    refine lv_icmp_ge (tgt := 26) hx hb d_M_clear_13 (by decide) (fun c1 => ?_) (fun c1 => ?_)
    · have e : i = b := by
        rcases Nat.lt_or_ge i b with q | q
        · exact absurd c1 (nI_ge q (by omega))
        · omega
      subst e
      exact kont H locs ls hw
    · have hlt : i < b := by
        rcases Nat.lt_or_ge i b with q | q
        · exact q
        · exact absurd (nI_le q (by omega)) c1
      refine lv_aload_n hx hb d_M_clear_16 rfl (lv_at hl 1 rfl) ?_
      refine lv_iload_n hx hb d_M_clear_17 rfl (lv_at hl 0 rfl) ?_
      refine lv_iconst (v := 0) hx hb d_M_clear_18 (by decide) ?_
      refine ast_B hC hw har (va_up_self _ _ _) (y := 0) (by decide) (show i < nn by omega) hnn d_M_clear_19 (fun H locs hw => ?_)
      rw [bx_uu, clr_s h (by omega)] at hw
      refine lv_iinc (v := nI (i + 1)) (lv' := [(3, .int (nI (i + 1))), (0, .ref ar), (1, .int (nI a)), (2, .int (nI b))]) hx hb d_M_clear_20 hl (k := 0) rfl (nI_1 i) (by decide) rfl (fun ls hl => ?_)
      refine lv_goto (tgt := 6) hx hb d_M_clear_23 (by decide) ?_
      exact ih (i + 1) _ _ _ (by omega) (by omega) (by omega) hw (lv_sub hl [0, 1, 2, 3] rfl)
set_option maxHeartbeats 4000000 in
set_option maxRecDepth 100000 in
theorem c_M_clear (l : Launch) (D : va_G) (kc : Nat → ClassId) (L : List Nat) (f : Nat → va_E) (sz : Nat) (ar nn a b : Nat) (h : Nat → Int32) (har : ar ∈ L) (hear : f ar = .inl (kc 0, nn, .inl h)) (hnn : nn < 2 ^ 31) (hab : a ≤ b) (hb9 : b ≤ nn) : Met l y_M_clear w_M_clear ({ frames := 1, cells := 0, slots := 0, locals := 14 }) (PP D kc L f sz [.ref ar, .int (nI a), .int (nI b)]) (Qv D L f sz (fun u => u = (L, va_up f ar (.inl (kc 0, nn, .inl (clr h a b)))))) 0 0 (pA L f sz) := by
  refine kx_met (by decide) (Nat.le_of_ble_eq_true rfl) ?_
  intro p e s m below meth c hC hnm hw hsz ls hl
  subst hsz
  have hl : lv_has ls 4 [(0, .ref ar), (1, .int (nI a)), (2, .int (nI b))] := hl
  obtain ⟨⟨⟨hx, hb, hml, hown, hts⟩, hret9, hlocks⟩, hK, hE, hA⟩ := id hC
  refine lv_iload_n hx hb d_M_clear_0 rfl (lv_at hl 1 rfl) ?_
  refine lv_iconst (v := 0) hx hb d_M_clear_1 (by decide) ?_
  refine tp_i (v := nI 0) (rfl) ?_
  refine kmax (a := a) (b := 0) hC hl.1 k_ml_M_24 (by omega) (by decide) ⟨Nat.le_of_ble_eq_true rfl, Nat.le_of_ble_eq_true rfl⟩ (⟨Nat.zero_le _, Nat.zero_le _⟩) d_M_clear_2 ?_
  refine tp_i (v := nI a) (by rw [Nat.max_eq_left (Nat.zero_le _)]) ?_
  refine lv_istore_n (lv' := [(3, .int (nI a)), (0, .ref ar), (1, .int (nI a)), (2, .int (nI b))]) hx hb d_M_clear_5 rfl hl (by decide) rfl (fun ls hl => ?_)
  have hw := pw_congr (g := va_up f ar (.inl (kc 0, nn, .inl (clr h a a)))) hw (fun x => by
    by_cases q : x = ar
    · rw [q, va_up_self, clr_0]; exact hear
    · rw [va_up_ne _ _ q])
  refine lp_clear ⟨Nat.zero_le _, Nat.zero_le _⟩ har hnn hab hb9 hC (Nat.le_of_ble_eq_true rfl) (Nat.le_of_ble_eq_true rfl) (fun H locs ls hw => ?_) (b + 1) a _ _ _ (Nat.le_refl _) hab (by omega) hw (lv_sub hl [0, 1, 2, 3] rfl)
  exact pg_vret hC.1 hw (rfl) d_M_clear_26
set_option maxHeartbeats 4000000 in
set_option maxRecDepth 100000 in
theorem lp_readInto {p : Program} {l : Launch} {e : Env} {R : Room} {s : State} {m : MethodId} {args : Array Value} {below : List Frame} {meth : Method} {c : Code} {Q : State → Prop} {A : Nat → Prop} {D : va_G} {kc : Nat → ClassId} {c0 : Cond} {ret : Option FieldType} {L : List Nat} {f : Nat → va_E} {tg : Nat → Nat × Nat} {k am ra : Nat} {mo : Int32} {pg N : Nat} {g : Nat → Option Nat} {bs : Nat → Nat} (hm : memG kc L f tg k am ra mo pg N g bs) {cells slots : Nat} (hcs : cells ≤ R.cells ∧ slots ≤ R.slots) (ia P nb : Nat) (hiL : ia ∈ L) (hia : (tg ia).1 ≠ k) (hP : P + nb ≤ 1024 * N) (hnb : 0 < nb ∧ nb ≤ 4096) (hC : Kx p m c b_M_readInto 8 s args c0 R_M meth ret D kc A) (hRf : 2 ≤ R.frames) (hRl : 37 ≤ R.locals)
    (kont : ∀ (H : Heap) (locs : List Loc) (ls : Array Slot) (h' : Nat → Int32), (∀ j, j < nb → h' j = sb_b (bs (P + j))) → pw D Cls A s.heap H locs L (va_up f ia (.inl (kc 0, 4096, .inl h'))) → W p l e R s m args below meth c H locs cells slots Q (F0 m 110 ls [])) :
    ∀ (n : Nat) (r : Nat) (H : Heap) (locs : List Loc) (ls : Array Slot) (h' : Nat → Int32), P / 1024 ≤ r → r ≤ (P + nb - 1) / 1024 + 1 → (P + nb - 1) / 1024 + 2 ≤ r + n → (∀ j, j < min (P + nb) (max P (r * 1024)) - P → h' j = sb_b (bs (P + j))) → pw D Cls A s.heap H locs L (va_up f ia (.inl (kc 0, 4096, .inl h'))) → lv_has ls 8 [(4, .int (nI r)), (0, .ref am), (1, .ref ia), (2, .int (nI P)), (3, .int (nI nb))] → W p l e R s m args below meth c H locs cells slots Q (F0 m 7 ls []) := by
  obtain ⟨⟨⟨hx, hb, hml, hown, hts⟩, hret9, hlocks⟩, hK, hE, hA⟩ := id hC
  intro n
  induction n with
  | zero => intro r H locs ls h' hr0 hr1 hin hd hw hl; exact absurd hin (by omega)
  | succ n ih =>
    intro r H locs ls h' hr0 hr1 hin hd hw hl
    obtain ⟨⟨ham, hta, hem⟩, ⟨hra, htr, her⟩, hN, hbs, hrow⟩ := id hm
    have hmi := memG_ext hm (u := (L, va_up f ia (.inl (kc 0, 4096, .inl h')))) (tg' := tg) (S := fun i => i = (tg ia).1) (Ext_up rfl) (fun e => hia e.symm)
    obtain ⟨⟨ham2, -, hem2⟩, ⟨hra2, -, her2⟩, -, -, hrow2⟩ := id hmi
    dsimp only at ham2 hem2 hra2 her2 hrow2
    refine lv_iload hx hb d_M_readInto_7 (lv_at hl 0 rfl) ?_
    refine lv_iload_n hx hb d_M_readInto_9 rfl (lv_at hl 3 rfl) ?_
    refine lv_iload_n hx hb d_M_readInto_10 rfl (lv_at hl 4 rfl) ?_
    refine lv_iadd hx hb d_M_readInto_11 ?_
    refine tp_i (v := nI (P + nb)) (nI_add P nb) ?_
    refine lv_iconst (v := 1) hx hb d_M_readInto_12 (by decide) ?_
    refine lv_isub hx hb d_M_readInto_13 ?_
    refine tp_i (v := nI (P + nb - 1)) (pk_sub (b := 1) (by omega)) ?_
    refine lv_sipush (v := 1024) hx hb d_M_readInto_14 (by decide) ?_
    refine lv_idiv hx hb d_M_readInto_17 (by decide) ?_
    refine tp_i (v := nI ((P + nb - 1) / 1024)) (pk_div (d := 1024) (by omega) (by decide) (by decide)) ?_
    refine lv_icmp_gt (tgt := 110) hx hb d_M_readInto_18 (by decide) (fun c1 => ?_) (fun c1 => ?_)
    · have e : (P + nb - 1) / 1024 < r := by
        rcases Nat.lt_or_ge ((P + nb - 1) / 1024) r with q | q
        · exact q
        · exact absurd c1 (nI_nlt q (by omega))
      exact kont H locs ls h' (fun j hj => hd j (by omega)) hw
    · have hlt : r ≤ (P + nb - 1) / 1024 := by
        rcases Nat.lt_or_ge ((P + nb - 1) / 1024) r with q | q
        · exact absurd (nI_lt q (by omega)) c1
        · exact q
      have hrN : r < N := by omega
      refine lv_iload_n hx hb d_M_readInto_21 rfl (lv_at hl 3 rfl) ?_
      refine lv_iload hx hb d_M_readInto_22 (lv_at hl 0 rfl) ?_
      refine lv_sipush (v := 1024) hx hb d_M_readInto_24 (by decide) ?_
      refine lv_imul hx hb d_M_readInto_27 ?_
      refine tp_i (v := nI (r * 1024)) (pk_mul r 1024) ?_
      refine kmax (a := P) (b := r * 1024) hC hl.1 k_ml_M_24 (by omega) (by omega) ⟨Nat.le_trans (Nat.le_of_ble_eq_true rfl) hRf, Nat.le_trans (Nat.le_of_ble_eq_true rfl) hRl⟩ (hcs) d_M_readInto_28 ?_
      refine lv_istore (lv' := [(5, .int (nI (max P (r * 1024)))), (4, .int (nI r)), (0, .ref am), (1, .ref ia), (2, .int (nI P)), (3, .int (nI nb))]) hx hb d_M_readInto_31 hl (by decide) rfl (fun ls hl => ?_)
      refine lv_iload_n hx hb d_M_readInto_33 rfl (lv_at hl 4 rfl) ?_
      refine lv_iload_n hx hb d_M_readInto_34 rfl (lv_at hl 5 rfl) ?_
      refine lv_iadd hx hb d_M_readInto_35 ?_
      refine tp_i (v := nI (P + nb)) (nI_add P nb) ?_
      refine lv_iload hx hb d_M_readInto_36 (lv_at hl 1 rfl) ?_
      refine lv_iconst (v := 1) hx hb d_M_readInto_38 (by decide) ?_
      refine lv_iadd hx hb d_M_readInto_39 ?_
      refine tp_i (v := nI (r + 1)) (nI_1 r) ?_
      refine lv_sipush (v := 1024) hx hb d_M_readInto_40 (by decide) ?_
      refine lv_imul hx hb d_M_readInto_43 ?_
      refine tp_i (v := nI ((r + 1) * 1024)) (pk_mul (r + 1) 1024) ?_
      refine kmin (a := P + nb) (b := (r + 1) * 1024) hC hl.1 k_ml_M_18 (by omega) (by omega) ⟨Nat.le_trans (Nat.le_of_ble_eq_true rfl) hRf, Nat.le_trans (Nat.le_of_ble_eq_true rfl) hRl⟩ (hcs) d_M_readInto_44 ?_
      refine lv_istore (lv' := [(6, .int (nI (min (P + nb) ((r + 1) * 1024)))), (5, .int (nI (max P (r * 1024)))), (4, .int (nI r)), (0, .ref am), (1, .ref ia), (2, .int (nI P)), (3, .int (nI nb))]) hx hb d_M_readInto_47 hl (by decide) rfl (fun ls hl => ?_)
      refine lv_aload_n hx hb d_M_readInto_49 rfl (lv_at hl 3 rfl) ?_
      refine lv_iload hx hb d_M_readInto_50 (lv_at hl 2 rfl) ?_
      refine callVq (As := [.int (nI r)]) (n9 := 1) hC hw (c_M_rowOrNull l D kc _ _ _ am ra mo pg N g ham2 hem2 hra2 her2 hN r hrN) k_co_M_rowOrNull k_ml_M_44 k_im_M_rowOrNull k_se_M_rowOrNull k_in_M rfl rfl (by decide +kernel) rfl ⟨Nat.le_trans (Nat.le_of_ble_eq_true rfl) hRf, Nat.le_trans (Nat.le_of_ble_eq_true rfl) hRl⟩ ham2 hem2 rfl hl.1 rfl (Nat.le_of_ble_eq_true rfl) d_M_readInto_52 ⟨hcs.1, hcs.2⟩ (fun o u H locs hp hw => ?_)
      obtain ⟨rfl, rfl⟩ := hp
      rcases hrow2 r hrN with ⟨hg, hz⟩ | ⟨w9, b9, hh, hg, hw9, htw, hfw, hb9, htb, hfb, hv⟩
      · refine tp_v (v := .null) (by rw [hg]; rfl) ?_
        refine lv_astoreN (lv' := [(7, .null), (6, .int (nI (min (P + nb) ((r + 1) * 1024)))), (5, .int (nI (max P (r * 1024)))), (4, .int (nI r)), (0, .ref am), (1, .ref ia), (2, .int (nI P)), (3, .int (nI nb))]) hx hb d_M_readInto_55 hl (by decide) rfl (fun ls hl => ?_)
        refine lv_aloadN hx hb d_M_readInto_57 (lv_at hl 0 rfl) ?_
        refine lv_ifnonnullN hx hb d_M_readInto_59 ?_
        refine lv_aload_n hx hb d_M_readInto_62 rfl (lv_at hl 5 rfl) ?_
        refine lv_iload hx hb d_M_readInto_63 (lv_at hl 2 rfl) ?_
        refine lv_iload_n hx hb d_M_readInto_65 rfl (lv_at hl 6 rfl) ?_
        refine lv_isub hx hb d_M_readInto_66 ?_
        refine tp_i (v := nI (max P (r * 1024) - P)) (pk_sub (Nat.le_max_left _ _)) ?_
        refine lv_iload hx hb d_M_readInto_67 (lv_at hl 1 rfl) ?_
        refine lv_iload_n hx hb d_M_readInto_69 rfl (lv_at hl 6 rfl) ?_
        refine lv_isub hx hb d_M_readInto_70 ?_
        refine tp_i (v := nI (min (P + nb) ((r + 1) * 1024) - P)) (pk_sub (by omega)) ?_
        refine callSv (As := [.ref ia, .int (nI (max P (r * 1024) - P)), .int (nI (min (P + nb) ((r + 1) * 1024) - P))]) (n9 := 3) hC hw (c_M_clear l D kc _ _ _ ia 4096 (max P (r * 1024) - P) (min (P + nb) ((r + 1) * 1024) - P) h' hiL (va_up_self _ _ _) (by decide) (by omega) (by omega)) k_co_M_clear k_ml_M_48 k_sm_M_clear k_in_M rfl rfl (by decide +kernel) rfl ⟨Nat.le_trans (Nat.le_of_ble_eq_true rfl) hRf, Nat.le_trans (Nat.le_of_ble_eq_true rfl) hRl⟩ hl.1 rfl (Nat.le_of_ble_eq_true rfl) d_M_readInto_71 ⟨hcs.1, hcs.2⟩ (fun u H locs hp hw => ?_)
        subst hp
        dsimp only at hw
        rw [bx_uu] at hw
        refine lv_goto (tgt := 104) hx hb d_M_readInto_74 (by decide) ?_
        refine lv_iinc (v := nI (r + 1)) (lv' := [(4, .int (nI (r + 1))), (7, .null), (6, .int (nI (min (P + nb) ((r + 1) * 1024)))), (5, .int (nI (max P (r * 1024)))), (0, .ref am), (1, .ref ia), (2, .int (nI P)), (3, .int (nI nb))]) hx hb d_M_readInto_104 hl (k := 3) rfl (nI_1 r) (by decide) rfl (fun ls hl => ?_)
        refine lv_goto (tgt := 7) hx hb d_M_readInto_107 (by decide) ?_
        refine ih (r + 1) _ _ _ _ (by omega) (by omega) (by omega) (fun j hj => ?_) hw (lv_sub hl [0, 4, 5, 6, 7] rfl)
        unfold clr
        by_cases q : max P (r * 1024) - P ≤ j ∧ j < min (P + nb) ((r + 1) * 1024) - P
        · rw [if_pos q, show P + j = 1024 * r + (P + j - 1024 * r) by omega, hz _ (by omega)]; rfl
        · rw [if_neg q]; exact hd j (by omega)
      · refine tp_v (v := .ref w9) (by rw [hg]; rfl) ?_
        refine lv_astore (lv' := [(7, .ref w9), (6, .int (nI (min (P + nb) ((r + 1) * 1024)))), (5, .int (nI (max P (r * 1024)))), (4, .int (nI r)), (0, .ref am), (1, .ref ia), (2, .int (nI P)), (3, .int (nI nb))]) hx hb d_M_readInto_55 hl (by decide) rfl (fun ls hl => ?_)
        refine lv_aload hx hb d_M_readInto_57 (lv_at hl 0 rfl) ?_
        refine lv_ifnonnull (tgt := 77) hx hb d_M_readInto_59 (by decide) ?_
        refine lv_aload hx hb d_M_readInto_77 (lv_at hl 0 rfl) ?_
        refine get_W hC hw hw9 hfw 0 (by decide) k_fl_M_52 rfl d_M_readInto_79 ?_
        refine lv_iload hx hb d_M_readInto_82 (lv_at hl 2 rfl) ?_
        refine lv_iload hx hb d_M_readInto_84 (lv_at hl 3 rfl) ?_
        refine lv_sipush (v := 1024) hx hb d_M_readInto_86 (by decide) ?_
        refine lv_imul hx hb d_M_readInto_89 ?_
        refine tp_i (v := nI (r * 1024)) (pk_mul r 1024) ?_
        refine lv_isub hx hb d_M_readInto_90 ?_
        refine tp_i (v := nI (max P (r * 1024) - r * 1024)) (pk_sub (Nat.le_max_right _ _)) ?_
        refine lv_aload_n hx hb d_M_readInto_91 rfl (lv_at hl 5 rfl) ?_
        refine lv_iload hx hb d_M_readInto_92 (lv_at hl 2 rfl) ?_
        refine lv_iload_n hx hb d_M_readInto_94 rfl (lv_at hl 6 rfl) ?_
        refine lv_isub hx hb d_M_readInto_95 ?_
        refine tp_i (v := nI (max P (r * 1024) - P)) (pk_sub (Nat.le_max_left _ _)) ?_
        refine lv_iload hx hb d_M_readInto_96 (lv_at hl 1 rfl) ?_
        refine lv_iload hx hb d_M_readInto_98 (lv_at hl 2 rfl) ?_
        refine lv_isub hx hb d_M_readInto_100 ?_
        refine tp_i (v := nI (min (P + nb) ((r + 1) * 1024) - max P (r * 1024))) (pk_sub (by omega)) ?_
        have hbi : b9 ≠ ia := fun e => by rw [e] at htb; exact hia (by rw [htb])
        refine kcopy hC hw hl.1 k_ml_M_56 hb9 hfb hiL (va_up_self _ _ _) (by decide) (by decide) (by omega) (by omega) (fun i hi => by rw [hv _ (by omega)]; exact sb_fitB _) ⟨Nat.le_trans (Nat.le_of_ble_eq_true rfl) hRf, Nat.le_trans (Nat.le_of_ble_eq_true rfl) hRl⟩ d_M_readInto_101 (fun H locs hw => ?_)
        rw [bx_uu] at hw
        refine lv_iinc (v := nI (r + 1)) (lv' := [(4, .int (nI (r + 1))), (7, .ref w9), (6, .int (nI (min (P + nb) ((r + 1) * 1024)))), (5, .int (nI (max P (r * 1024)))), (0, .ref am), (1, .ref ia), (2, .int (nI P)), (3, .int (nI nb))]) hx hb d_M_readInto_104 hl (k := 3) rfl (nI_1 r) (by decide) rfl (fun ls hl => ?_)
        refine lv_goto (tgt := 7) hx hb d_M_readInto_107 (by decide) ?_
        refine ih (r + 1) _ _ _ _ (by omega) (by omega) (by omega) (fun j hj => ?_) hw (lv_sub hl [0, 4, 5, 6, 7] rfl)
        by_cases q : max P (r * 1024) - P ≤ j
        · rw [pk_cpy_in q (by omega), hv _ (by omega)]
          congr 2
          omega
        · rw [pk_cpy_out (Or.inl (by omega))]; exact hd j (by omega)
set_option maxHeartbeats 4000000 in
set_option maxRecDepth 100000 in
theorem c_M_readInto (l : Launch) (D : va_G) (kc : Nat → ClassId) (L : List Nat) (f : Nat → va_E) (sz : Nat) (tg : Nat → Nat × Nat) (k am ra : Nat) (mo : Int32) (pg N : Nat) (g : Nat → Option Nat) (bs : Nat → Nat) (hm : memG kc L f tg k am ra mo pg N g bs) (ia P nb : Nat) (h : Nat → Int32) (hiL : ia ∈ L) (hei : f ia = .inl (kc 0, 4096, .inl h)) (hia : (tg ia).1 ≠ k) (hP : P + nb ≤ 1024 * N) (hnb : 0 < nb ∧ nb ≤ 4096) : Met l y_M_readInto w_M_readInto ({ frames := 2, cells := 0, slots := 0, locals := 37 }) (PP D kc L f sz [.ref am, .ref ia, .int (nI P), .int (nI nb)]) (Qv D L f sz (fun u => ∃ h', u = (L, va_up f ia (.inl (kc 0, 4096, .inl h'))) ∧ ∀ j, j < nb → h' j = sb_b (bs (P + j)))) 0 0 (pA L f sz) := by
  refine kx_met (by decide) (Nat.le_of_ble_eq_true rfl) ?_
  intro p e s m below meth c hC hnm hw hsz ls hl
  subst hsz
  have hl : lv_has ls 8 [(0, .ref am), (1, .ref ia), (2, .int (nI P)), (3, .int (nI nb))] := hl
  obtain ⟨⟨⟨hx, hb, hml, hown, hts⟩, hret9, hlocks⟩, hK, hE, hA⟩ := id hC
  obtain ⟨⟨ham, hta, hem⟩, ⟨hra, htr, her⟩, hN, hbs, hrow⟩ := id hm
  refine lv_iload_n hx hb d_M_readInto_0 rfl (lv_at hl 2 rfl) ?_
  refine lv_sipush (v := 1024) hx hb d_M_readInto_1 (by decide) ?_
  refine lv_idiv hx hb d_M_readInto_4 (by decide) ?_
  refine tp_i (v := nI (P / 1024)) (pk_div (d := 1024) (by omega) (by decide) (by decide)) ?_
  refine lv_istore (lv' := [(4, .int (nI (P / 1024))), (0, .ref am), (1, .ref ia), (2, .int (nI P)), (3, .int (nI nb))]) hx hb d_M_readInto_5 hl (by decide) rfl (fun ls hl => ?_)
  have hw := pw_congr (g := va_up f ia (.inl (kc 0, 4096, .inl h))) hw (fun x => by
    by_cases q : x = ia
    · rw [q, va_up_self]; exact hei
    · rw [va_up_ne _ _ q])
  refine lp_readInto hm ⟨Nat.zero_le _, Nat.zero_le _⟩ ia P nb hiL hia hP hnb hC (Nat.le_of_ble_eq_true rfl) (Nat.le_of_ble_eq_true rfl) (fun H locs ls h2 hd hw => ?_) ((P + nb - 1) / 1024 + 2) (P / 1024) _ _ _ h (Nat.le_refl _) (by omega) (by omega) (fun j hj => by omega) hw (lv_sub hl [0, 1, 2, 3, 4] rfl)
  exact pg_vret hC.1 hw (⟨h2, rfl, hd⟩) d_M_readInto_110
end
section
/-! Memory: writeFrom, sums, the constructor -/
/-- n bytes from P on are those of src -/
def cpN (bs : Nat → Nat) (P n : Nat) (src : Nat → Nat) : Nat → Nat := fun j => if P ≤ j ∧ j < P + n then src (j - P) else bs j
theorem cpN_lt {bs src : Nat → Nat} (hb : ∀ j, bs j < 256) {P n : Nat} (hs : ∀ j, j < n → src j < 256) (j : Nat) : cpN bs P n src j < 256 := by
  unfold cpN
  by_cases q : P ≤ j ∧ j < P + n
  · rw [if_pos q]; exact hs _ (by omega)
  · rw [if_neg q]; exact hb j
theorem cpN_in {bs src : Nat → Nat} {P n j : Nat} (h : P ≤ j ∧ j < P + n) : cpN bs P n src j = src (j - P) := by unfold cpN; rw [if_pos h]
theorem cpN_out {bs src : Nat → Nat} {P n j : Nat} (h : ¬ (P ≤ j ∧ j < P + n)) : cpN bs P n src j = bs j := by unfold cpN; rw [if_neg h]
set_option maxHeartbeats 4000000 in
set_option maxRecDepth 100000 in
theorem lp_writeFrom {p : Program} {l : Launch} {e : Env} {R : Room} {s : State} {m : MethodId} {args : Array Value} {below : List Frame} {meth : Method} {c : Code} {Q : State → Prop} {A : Nat → Prop} {D : va_G} {kc : Nat → ClassId} {c0 : Cond} {ret : Option FieldType} {L : List Nat} {f : Nat → va_E} {tg : Nat → Nat × Nat} {k am ra : Nat} {mo : Int32} {pg N : Nat} {bs src : Nat → Nat} {hs : Nat → Int32} (hcs : 10 ≤ R.cells ∧ 5125 ≤ R.slots) (ia P nb : Nat) (hiL : ia ∈ L) (hei : f ia = .inl (kc 0, 4096, .inl hs)) (hia : (tg ia).1 ≠ k) (hsr : ∀ j, j < nb → hs j = sb_b (src j)) (hsl : ∀ j, j < nb → src j < 256) (hb0 : ∀ j, bs j < 256) (hP : P + nb ≤ 1024 * N) (hnb : 0 < nb ∧ nb ≤ 4096) (hN9 : N ≤ 1024) (hC : Kx p m c b_M_writeFrom 8 s args c0 R_M meth ret D kc A) (hRf : 3 ≤ R.frames) (hRl : 53 ≤ R.locals)
    (kont : ∀ (c9 : Nat) (L' : List Nat) (f' : Nat → va_E) (tg' : Nat → Nat × Nat) (g' : Nat → Option Nat) (H : Heap) (locs : List Loc) (ls : Array Slot), c9 ≤ 5 → memG kc L' f' tg' k am ra mo pg N g' (cpN bs P nb src) → Ext (fun i => i = k) L f tg (L', f') tg' → pw D Cls A s.heap H locs L' f' → W p l e R s m args below meth c H locs (2 * c9) (1025 * c9) Q (F0 m 95 ls [])) :
    ∀ (n : Nat) (r : Nat) (c9 : Nat) (L' : List Nat) (f' : Nat → va_E) (tg' : Nat → Nat × Nat) (g' : Nat → Option Nat) (H : Heap) (locs : List Loc) (ls : Array Slot), P / 1024 ≤ r → r ≤ (P + nb - 1) / 1024 + 1 → (P + nb - 1) / 1024 + 2 ≤ r + n → c9 ≤ r - P / 1024 → memG kc L' f' tg' k am ra mo pg N g' (cpN bs P (min (P + nb) (max P (r * 1024)) - P) src) → Ext (fun i => i = k) L f tg (L', f') tg' → pw D Cls A s.heap H locs L' f' → lv_has ls 8 [(4, .int (nI r)), (0, .ref am), (1, .ref ia), (2, .int (nI P)), (3, .int (nI nb))] → W p l e R s m args below meth c H locs (2 * c9) (1025 * c9) Q (F0 m 7 ls []) := by
  obtain ⟨⟨⟨hx, hb, hml, hown, hts⟩, hret9, hlocks⟩, hK, hE, hA⟩ := id hC
  intro n
  induction n with
  | zero => intro r c9 L' f' tg' g' H locs ls hr0 hr1 hin hc9 hm he hw hl; exact absurd hin (by omega)
  | succ n ih =>
    intro r c9 L' f' tg' g' H locs ls hr0 hr1 hin hc9 hm he hw hl
    obtain ⟨⟨ham, hta, hem⟩, ⟨hra, htr, her⟩, hN, hbs, hrow⟩ := id hm
    have hiL9 : ia ∈ L' := he.1 ia hiL
    have hei9 : f' ia = .inl (kc 0, 4096, .inl hs) := by rw [show f' ia = f ia from he.2.2.1 ia hiL hia]; exact hei
    refine lv_iload hx hb d_M_writeFrom_7 (lv_at hl 0 rfl) ?_
    refine lv_iload_n hx hb d_M_writeFrom_9 rfl (lv_at hl 3 rfl) ?_
    refine lv_iload_n hx hb d_M_writeFrom_10 rfl (lv_at hl 4 rfl) ?_
    refine lv_iadd hx hb d_M_writeFrom_11 ?_
    refine tp_i (v := nI (P + nb)) (nI_add P nb) ?_
    refine lv_iconst (v := 1) hx hb d_M_writeFrom_12 (by decide) ?_
    refine lv_isub hx hb d_M_writeFrom_13 ?_
    refine tp_i (v := nI (P + nb - 1)) (pk_sub (b := 1) (by omega)) ?_
    refine lv_sipush (v := 1024) hx hb d_M_writeFrom_14 (by decide) ?_
    refine lv_idiv hx hb d_M_writeFrom_17 (by decide) ?_
    refine tp_i (v := nI ((P + nb - 1) / 1024)) (pk_div (d := 1024) (by omega) (by decide) (by decide)) ?_
    refine lv_icmp_gt (tgt := 95) hx hb d_M_writeFrom_18 (by decide) (fun c1 => ?_) (fun c1 => ?_)
    · have e : (P + nb - 1) / 1024 < r := by
        rcases Nat.lt_or_ge ((P + nb - 1) / 1024) r with q | q
        · exact q
        · exact absurd c1 (nI_nlt q (by omega))
      rw [show min (P + nb) (max P (r * 1024)) - P = nb by omega] at hm
      exact kont c9 L' f' tg' g' H locs ls (by omega) hm he hw
    · have hlt : r ≤ (P + nb - 1) / 1024 := by
        rcases Nat.lt_or_ge ((P + nb - 1) / 1024) r with q | q
        · exact absurd (nI_lt q (by omega)) c1
        · exact q
      have hrN : r < N := by omega
      refine lv_iload_n hx hb d_M_writeFrom_21 rfl (lv_at hl 3 rfl) ?_
      refine lv_iload hx hb d_M_writeFrom_22 (lv_at hl 0 rfl) ?_
      refine lv_sipush (v := 1024) hx hb d_M_writeFrom_24 (by decide) ?_
      refine lv_imul hx hb d_M_writeFrom_27 ?_
      refine tp_i (v := nI (r * 1024)) (pk_mul r 1024) ?_
      refine kmax (a := P) (b := r * 1024) hC hl.1 k_ml_M_24 (by omega) (by omega) ⟨Nat.le_trans (Nat.le_of_ble_eq_true rfl) hRf, Nat.le_trans (Nat.le_of_ble_eq_true rfl) hRl⟩ (⟨by omega, by omega⟩) d_M_writeFrom_28 ?_
      refine lv_istore (lv' := [(5, .int (nI (max P (r * 1024)))), (4, .int (nI r)), (0, .ref am), (1, .ref ia), (2, .int (nI P)), (3, .int (nI nb))]) hx hb d_M_writeFrom_31 hl (by decide) rfl (fun ls hl => ?_)
      refine lv_iload_n hx hb d_M_writeFrom_33 rfl (lv_at hl 4 rfl) ?_
      refine lv_iload_n hx hb d_M_writeFrom_34 rfl (lv_at hl 5 rfl) ?_
      refine lv_iadd hx hb d_M_writeFrom_35 ?_
      refine tp_i (v := nI (P + nb)) (nI_add P nb) ?_
      refine lv_iload hx hb d_M_writeFrom_36 (lv_at hl 1 rfl) ?_
      refine lv_iconst (v := 1) hx hb d_M_writeFrom_38 (by decide) ?_
      refine lv_iadd hx hb d_M_writeFrom_39 ?_
      refine tp_i (v := nI (r + 1)) (nI_1 r) ?_
      refine lv_sipush (v := 1024) hx hb d_M_writeFrom_40 (by decide) ?_
      refine lv_imul hx hb d_M_writeFrom_43 ?_
      refine tp_i (v := nI ((r + 1) * 1024)) (pk_mul (r + 1) 1024) ?_
      refine kmin (a := P + nb) (b := (r + 1) * 1024) hC hl.1 k_ml_M_18 (by omega) (by omega) ⟨Nat.le_trans (Nat.le_of_ble_eq_true rfl) hRf, Nat.le_trans (Nat.le_of_ble_eq_true rfl) hRl⟩ (⟨by omega, by omega⟩) d_M_writeFrom_44 ?_
      refine lv_istore (lv' := [(6, .int (nI (min (P + nb) ((r + 1) * 1024)))), (5, .int (nI (max P (r * 1024)))), (4, .int (nI r)), (0, .ref am), (1, .ref ia), (2, .int (nI P)), (3, .int (nI nb))]) hx hb d_M_writeFrom_47 hl (by decide) rfl (fun ls hl => ?_)
      refine lv_aload_n hx hb d_M_writeFrom_49 rfl (lv_at hl 3 rfl) ?_
      refine lv_iload hx hb d_M_writeFrom_50 (lv_at hl 2 rfl) ?_
      cases hg9 : g' r with
      | none =>
        refine callVq (As := [.int (nI r)]) (n9 := 1) hC hw (c_M_rowToWrite_none l D kc _ _ _ tg' k am ra mo pg N g' _ hm r hrN hg9) k_co_M_rowToWrite k_ml_M_62 k_im_M_rowToWrite k_se_M_rowToWrite k_in_M rfl rfl (by decide +kernel) rfl ⟨Nat.le_trans (Nat.le_of_ble_eq_true rfl) hRf, Nat.le_trans (Nat.le_of_ble_eq_true rfl) hRl⟩ ham hem rfl hl.1 rfl (Nat.le_of_ble_eq_true rfl) d_M_writeFrom_52 ⟨(by omega), (by omega)⟩ (fun o u H locs hp hw => ?_)
        obtain ⟨tg1, g1, w1, rfl, hm1, hg1, hgo, he1⟩ := hp
        obtain ⟨L1, f1⟩ := u
        dsimp only at hw hm1 he1
        have he1 := he.tr he1
        obtain ⟨-, -, -, -, hrow1⟩ := id hm1
        have hiL9 : ia ∈ L1 := he1.1 ia hiL
        have hei9 : f1 ia = .inl (kc 0, 4096, .inl hs) := by rw [show f1 ia = f ia from he1.2.2.1 ia hiL hia]; exact hei
        obtain ⟨w9, b9, hh, hg, hw9, htw, hfw, hb9, htb, hfb, hv⟩ : ∃ (w b : Nat) (h : Nat → Int32), g1 r = some w ∧ w ∈ L1 ∧ tg1 w = (k, 2 + 2 * r) ∧ f1 w = .inr (1, [.ref b]) ∧ b ∈ L1 ∧ tg1 b = (k, 3 + 2 * r) ∧ f1 b = .inl (kc 0, 1024, .inl h) ∧ ∀ j, j < 1024 → h j = sb_b (cpN bs P (min (P + nb) (max P (r * 1024)) - P) src (1024 * r + j)) := by
          rcases hrow1 r hrN with ⟨hn, -⟩ | hh
          · rw [hg1] at hn; cases hn
          · exact hh
        refine tp_v (v := .ref w9) (by rw [← hg1, hg]; rfl) ?_
        refine lv_astore (lv' := [(7, .ref w9), (6, .int (nI (min (P + nb) ((r + 1) * 1024)))), (5, .int (nI (max P (r * 1024)))), (4, .int (nI r)), (0, .ref am), (1, .ref ia), (2, .int (nI P)), (3, .int (nI nb))]) hx hb d_M_writeFrom_55 hl (by decide) rfl (fun ls hl => ?_)
        refine lv_aload hx hb d_M_writeFrom_57 (lv_at hl 0 rfl) ?_
        refine lv_ifnull hx hb d_M_writeFrom_59 ?_
        refine lv_aload_n hx hb d_M_writeFrom_62 rfl (lv_at hl 5 rfl) ?_
        refine lv_iload hx hb d_M_writeFrom_63 (lv_at hl 2 rfl) ?_
        refine lv_iload_n hx hb d_M_writeFrom_65 rfl (lv_at hl 6 rfl) ?_
        refine lv_isub hx hb d_M_writeFrom_66 ?_
        refine tp_i (v := nI (max P (r * 1024) - P)) (pk_sub (Nat.le_max_left _ _)) ?_
        refine lv_aload hx hb d_M_writeFrom_67 (lv_at hl 0 rfl) ?_
        refine get_W hC hw hw9 hfw 0 (by decide) k_fl_M_52 rfl d_M_writeFrom_69 ?_
        refine lv_iload hx hb d_M_writeFrom_72 (lv_at hl 2 rfl) ?_
        refine lv_iload hx hb d_M_writeFrom_74 (lv_at hl 3 rfl) ?_
        refine lv_sipush (v := 1024) hx hb d_M_writeFrom_76 (by decide) ?_
        refine lv_imul hx hb d_M_writeFrom_79 ?_
        refine tp_i (v := nI (r * 1024)) (pk_mul r 1024) ?_
        refine lv_isub hx hb d_M_writeFrom_80 ?_
        refine tp_i (v := nI (max P (r * 1024) - r * 1024)) (pk_sub (Nat.le_max_right _ _)) ?_
        refine lv_iload hx hb d_M_writeFrom_81 (lv_at hl 1 rfl) ?_
        refine lv_iload hx hb d_M_writeFrom_83 (lv_at hl 2 rfl) ?_
        refine lv_isub hx hb d_M_writeFrom_85 ?_
        refine tp_i (v := nI (min (P + nb) ((r + 1) * 1024) - max P (r * 1024))) (pk_sub (by omega)) ?_
        refine kcopy hC hw hl.1 k_ml_M_56 hiL9 hei9 hb9 hfb (by decide) (by decide) (by omega) (by omega) (fun i hi => by rw [hsr _ (by omega)]; exact sb_fitB _) ⟨Nat.le_trans (Nat.le_of_ble_eq_true rfl) hRf, Nat.le_trans (Nat.le_of_ble_eq_true rfl) hRl⟩ d_M_writeFrom_86 (fun H locs hw => ?_)
        have key := memG_put hm1 hrN hg hw9 htw hfw hb9 htb hfb (h' := va_cpy hs hh (max P (r * 1024) - P) (max P (r * 1024) - r * 1024) (min (P + nb) ((r + 1) * 1024) - max P (r * 1024))) (bs' := cpN bs P (min (P + nb) (max P ((r + 1) * 1024)) - P) src) (cpN_lt hb0 (fun j hj => hsl j (by omega))) (by
          intro j hj
          by_cases q : max P (r * 1024) - r * 1024 ≤ j ∧ j < min (P + nb) ((r + 1) * 1024) - r * 1024
          · rw [pk_cpy_in q.1 (by omega), hsr _ (by omega), cpN_in (by omega)]
            congr 2
            omega
          · rw [pk_cpy_out (by omega), hv j hj]
            by_cases q2 : P ≤ 1024 * r + j ∧ 1024 * r + j < P + (min (P + nb) (max P (r * 1024)) - P)
            · omega
            · rw [cpN_out q2, cpN_out (by omega)])
          (fun j hj => by
            by_cases q2 : P ≤ j ∧ j < P + (min (P + nb) (max P (r * 1024)) - P)
            · rw [cpN_in q2, cpN_in (by omega)]
            · rw [cpN_out q2, cpN_out (by omega)])
        refine lv_iinc (v := nI (r + 1)) (lv' := [(4, .int (nI (r + 1))), (7, .ref w9), (6, .int (nI (min (P + nb) ((r + 1) * 1024)))), (5, .int (nI (max P (r * 1024)))), (0, .ref am), (1, .ref ia), (2, .int (nI P)), (3, .int (nI nb))]) hx hb d_M_writeFrom_89 hl (k := 3) rfl (nI_1 r) (by decide) rfl (fun ls hl => ?_)
        refine lv_goto (tgt := 7) hx hb d_M_writeFrom_92 (by decide) ?_
        refine W.cs (cells' := 2 * (c9 + 1)) (slots' := 1025 * (c9 + 1)) (by omega) (by omega) ?_
        exact ih (r + 1) (c9 + 1) L1 _ tg1 g1 _ _ _ (by omega) (by omega) (by omega) (by omega) key.1 (he1.tr key.2) hw (lv_sub hl [0, 4, 5, 6, 7] rfl)
      | some w0 =>
        refine callVq (As := [.int (nI r)]) (n9 := 1) hC hw (c_M_rowToWrite_some l D kc _ _ _ am ra mo pg N g' ham hem hra her hN r hrN w0 hg9) k_co_M_rowToWrite k_ml_M_62 k_im_M_rowToWrite k_se_M_rowToWrite k_in_M rfl rfl (by decide +kernel) rfl ⟨Nat.le_trans (Nat.le_of_ble_eq_true rfl) hRf, Nat.le_trans (Nat.le_of_ble_eq_true rfl) hRl⟩ ham hem rfl hl.1 rfl (Nat.le_of_ble_eq_true rfl) d_M_writeFrom_52 ⟨(by omega), (by omega)⟩ (fun o u H locs hp hw => ?_)
        obtain ⟨rfl, rfl⟩ := hp
        obtain ⟨w9, b9, hh, hg, hw9, htw, hfw, hb9, htb, hfb, hv⟩ : ∃ (w b : Nat) (h : Nat → Int32), g' r = some w ∧ w ∈ L' ∧ tg' w = (k, 2 + 2 * r) ∧ f' w = .inr (1, [.ref b]) ∧ b ∈ L' ∧ tg' b = (k, 3 + 2 * r) ∧ f' b = .inl (kc 0, 1024, .inl h) ∧ ∀ j, j < 1024 → h j = sb_b (cpN bs P (min (P + nb) (max P (r * 1024)) - P) src (1024 * r + j)) := by
          rcases hrow r hrN with ⟨hn, -⟩ | hh
          · rw [hg9] at hn; cases hn
          · exact hh
        refine tp_v (v := .ref w9) (by rw [← hg9, hg]; rfl) ?_
        refine lv_astore (lv' := [(7, .ref w9), (6, .int (nI (min (P + nb) ((r + 1) * 1024)))), (5, .int (nI (max P (r * 1024)))), (4, .int (nI r)), (0, .ref am), (1, .ref ia), (2, .int (nI P)), (3, .int (nI nb))]) hx hb d_M_writeFrom_55 hl (by decide) rfl (fun ls hl => ?_)
        refine lv_aload hx hb d_M_writeFrom_57 (lv_at hl 0 rfl) ?_
        refine lv_ifnull hx hb d_M_writeFrom_59 ?_
        refine lv_aload_n hx hb d_M_writeFrom_62 rfl (lv_at hl 5 rfl) ?_
        refine lv_iload hx hb d_M_writeFrom_63 (lv_at hl 2 rfl) ?_
        refine lv_iload_n hx hb d_M_writeFrom_65 rfl (lv_at hl 6 rfl) ?_
        refine lv_isub hx hb d_M_writeFrom_66 ?_
        refine tp_i (v := nI (max P (r * 1024) - P)) (pk_sub (Nat.le_max_left _ _)) ?_
        refine lv_aload hx hb d_M_writeFrom_67 (lv_at hl 0 rfl) ?_
        refine get_W hC hw hw9 hfw 0 (by decide) k_fl_M_52 rfl d_M_writeFrom_69 ?_
        refine lv_iload hx hb d_M_writeFrom_72 (lv_at hl 2 rfl) ?_
        refine lv_iload hx hb d_M_writeFrom_74 (lv_at hl 3 rfl) ?_
        refine lv_sipush (v := 1024) hx hb d_M_writeFrom_76 (by decide) ?_
        refine lv_imul hx hb d_M_writeFrom_79 ?_
        refine tp_i (v := nI (r * 1024)) (pk_mul r 1024) ?_
        refine lv_isub hx hb d_M_writeFrom_80 ?_
        refine tp_i (v := nI (max P (r * 1024) - r * 1024)) (pk_sub (Nat.le_max_right _ _)) ?_
        refine lv_iload hx hb d_M_writeFrom_81 (lv_at hl 1 rfl) ?_
        refine lv_iload hx hb d_M_writeFrom_83 (lv_at hl 2 rfl) ?_
        refine lv_isub hx hb d_M_writeFrom_85 ?_
        refine tp_i (v := nI (min (P + nb) ((r + 1) * 1024) - max P (r * 1024))) (pk_sub (by omega)) ?_
        refine kcopy hC hw hl.1 k_ml_M_56 hiL9 hei9 hb9 hfb (by decide) (by decide) (by omega) (by omega) (fun i hi => by rw [hsr _ (by omega)]; exact sb_fitB _) ⟨Nat.le_trans (Nat.le_of_ble_eq_true rfl) hRf, Nat.le_trans (Nat.le_of_ble_eq_true rfl) hRl⟩ d_M_writeFrom_86 (fun H locs hw => ?_)
        have key := memG_put hm hrN hg hw9 htw hfw hb9 htb hfb (h' := va_cpy hs hh (max P (r * 1024) - P) (max P (r * 1024) - r * 1024) (min (P + nb) ((r + 1) * 1024) - max P (r * 1024))) (bs' := cpN bs P (min (P + nb) (max P ((r + 1) * 1024)) - P) src) (cpN_lt hb0 (fun j hj => hsl j (by omega))) (by
          intro j hj
          by_cases q : max P (r * 1024) - r * 1024 ≤ j ∧ j < min (P + nb) ((r + 1) * 1024) - r * 1024
          · rw [pk_cpy_in q.1 (by omega), hsr _ (by omega), cpN_in (by omega)]
            congr 2
            omega
          · rw [pk_cpy_out (by omega), hv j hj]
            by_cases q2 : P ≤ 1024 * r + j ∧ 1024 * r + j < P + (min (P + nb) (max P (r * 1024)) - P)
            · omega
            · rw [cpN_out q2, cpN_out (by omega)])
          (fun j hj => by
            by_cases q2 : P ≤ j ∧ j < P + (min (P + nb) (max P (r * 1024)) - P)
            · rw [cpN_in q2, cpN_in (by omega)]
            · rw [cpN_out q2, cpN_out (by omega)])
        refine lv_iinc (v := nI (r + 1)) (lv' := [(4, .int (nI (r + 1))), (7, .ref w9), (6, .int (nI (min (P + nb) ((r + 1) * 1024)))), (5, .int (nI (max P (r * 1024)))), (0, .ref am), (1, .ref ia), (2, .int (nI P)), (3, .int (nI nb))]) hx hb d_M_writeFrom_89 hl (k := 3) rfl (nI_1 r) (by decide) rfl (fun ls hl => ?_)
        refine lv_goto (tgt := 7) hx hb d_M_writeFrom_92 (by decide) ?_
        exact ih (r + 1) c9 L' _ tg' g' _ _ _ (by omega) (by omega) (by omega) (by omega) key.1 (he.tr key.2) hw (lv_sub hl [0, 4, 5, 6, 7] rfl)
set_option maxHeartbeats 4000000 in
set_option maxRecDepth 100000 in
theorem c_M_writeFrom (l : Launch) (D : va_G) (kc : Nat → ClassId) (L : List Nat) (f : Nat → va_E) (sz : Nat) (tg : Nat → Nat × Nat) (k am ra : Nat) (mo : Int32) (pg N : Nat) (g : Nat → Option Nat) (bs : Nat → Nat) (hm : memG kc L f tg k am ra mo pg N g bs) (ia P nb : Nat) (hs : Nat → Int32) (src : Nat → Nat) (hiL : ia ∈ L) (hei : f ia = .inl (kc 0, 4096, .inl hs)) (hia : (tg ia).1 ≠ k) (hsr : ∀ j, j < nb → hs j = sb_b (src j)) (hsl : ∀ j, j < nb → src j < 256) (hP : P + nb ≤ 1024 * N) (hnb : 0 < nb ∧ nb ≤ 4096) : Met l y_M_writeFrom w_M_writeFrom ({ frames := 3, cells := 10, slots := 5125, locals := 53 }) (PP D kc L f sz [.ref am, .ref ia, .int (nI P), .int (nI nb)]) (Qv D L f sz (fun u => ∃ tg' g', memG kc u.1 u.2 tg' k am ra mo pg N g' (cpN bs P nb src) ∧ Ext (fun i => i = k) L f tg u tg')) 10 5125 (pA L f sz) := by
  refine kx_met (by decide) (Nat.le_of_ble_eq_true rfl) ?_
  intro p e s m below meth c hC hnm hw hsz ls hl
  subst hsz
  have hl : lv_has ls 8 [(0, .ref am), (1, .ref ia), (2, .int (nI P)), (3, .int (nI nb))] := hl
  obtain ⟨⟨⟨hx, hb, hml, hown, hts⟩, hret9, hlocks⟩, hK, hE, hA⟩ := id hC
  obtain ⟨⟨ham, hta, hem⟩, ⟨hra, htr, her⟩, hN, hbs, hrow⟩ := id hm
  refine lv_iload_n hx hb d_M_writeFrom_0 rfl (lv_at hl 2 rfl) ?_
  refine lv_sipush (v := 1024) hx hb d_M_writeFrom_1 (by decide) ?_
  refine lv_idiv hx hb d_M_writeFrom_4 (by decide) ?_
  refine tp_i (v := nI (P / 1024)) (pk_div (d := 1024) (by omega) (by decide) (by decide)) ?_
  refine lv_istore (lv' := [(4, .int (nI (P / 1024))), (0, .ref am), (1, .ref ia), (2, .int (nI P)), (3, .int (nI nb))]) hx hb d_M_writeFrom_5 hl (by decide) rfl (fun ls hl => ?_)
  have hm0 : memG kc L f tg k am ra mo pg N g (cpN bs P (min (P + nb) (max P (P / 1024 * 1024)) - P) src) := by
    rw [show cpN bs P (min (P + nb) (max P (P / 1024 * 1024)) - P) src = bs from by funext j; exact cpN_out (by omega)]
    exact hm
  refine lp_writeFrom ⟨Nat.le_refl _, Nat.le_refl _⟩ ia P nb hiL hei hia hsr hsl hbs hP hnb hN hC (Nat.le_of_ble_eq_true rfl) (Nat.le_of_ble_eq_true rfl) (fun c9 L2 f2 tg2 g2 H locs ls hc9 hm2 he2 hw => ?_) ((P + nb - 1) / 1024 + 2) (P / 1024) 0 L f tg g _ _ _ (Nat.le_refl _) (by omega) (by omega) (Nat.zero_le _) hm0 Ext.rf hw (lv_sub hl [0, 1, 2, 3, 4] rfl)
  refine W.widen (k := 10) (n := 5125) (by omega) (by omega) ?_
  exact pg_vret hC.1 hw (⟨tg2, g2, hm2, he2⟩) d_M_writeFrom_95
end
section
/-! Row.weighedPart, Memory.weighedSum, Memory() -/
theorem dec_w (w : Int32) (i : Nat) : w - nI i + (-1) = w - nI (i + 1) := by
  rw [← nI_1, Int32.sub_eq_add_neg, Int32.sub_eq_add_neg, Int32.neg_add, Int32.add_assoc, Int32.sub_eq_add_neg]
set_option maxHeartbeats 4000000 in
set_option maxRecDepth 100000 in
theorem lp_weighedPart {p : Program} {l : Launch} {e : Env} {R : Room} {s : State} {m : MethodId} {args : Array Value} {below : List Frame} {meth : Method} {c : Code} {Q : State → Prop} {A : Nat → Prop} {D : va_G} {kc : Nat → ClassId} {c0 : Cond} {ret : Option FieldType} {L : List Nat} {f : Nat → va_E} {cells slots : Nat} (hcs : cells ≤ R.cells ∧ slots ≤ R.slots) {wa ba a b Q9 : Nat} {hh : Nat → Int32} {bs : Nat → Nat} (w : Int32) (hwa : wa ∈ L) (hew : f wa = .inr (1, [.ref ba])) (hba : ba ∈ L) (heb : f ba = .inl (kc 0, 1024, .inl hh)) (hbs : ∀ j, bs j < 256) (hv : ∀ j, j < 1024 → hh j = sb_b (bs (Q9 + j))) (hab : a ≤ b) (hb9 : b ≤ 1024) (hC : Kx p m c b_W_weighedPart 7 s args c0 R_W meth ret D kc A) (hRf : 1 ≤ R.frames) (hRl : 14 ≤ R.locals)
    (kont : ∀ (H : Heap) (locs : List Loc) (ls : Array Slot), pw D Cls A s.heap H locs L f → lv_has ls 7 [(4, .int (wsum bs (Q9 + a) w (b - a)))] → W p l e R s m args below meth c H locs cells slots Q (F0 m 55 ls [])) :
    ∀ (n : Nat) (i : Nat) (H : Heap) (locs : List Loc) (ls : Array Slot), a + i ≤ b → b + 1 ≤ a + i + n → pw D Cls A s.heap H locs L f → lv_has ls 7 [(6, .int (nI (a + i))), (4, .int (wsum bs (Q9 + a) w i)), (5, .int (w - nI i)), (0, .ref wa), (2, .int (nI b))] → W p l e R s m args below meth c H locs cells slots Q (F0 m 13 ls []) := by
  obtain ⟨⟨⟨hx, hb, hml, hown, hts⟩, hret9, hlocks⟩, hK, hE, hA⟩ := id hC
  intro n
  induction n with
  | zero => intro i H locs ls hi hin hw hl; exact absurd hin (by omega)
  | succ n ih =>
    intro i H locs ls hi hin hw hl
    refine lv_iload hx hb d_W_weighedPart_13 (lv_at hl 0 rfl) ?_
    refine lv_iload_n hx hb d_W_weighedPart_15 rfl (lv_at hl 4 rfl) ?_
    refine lv_aload_n hx hb d_W_weighedPart_16 rfl (lv_at hl 3 rfl) ?_
    refine get_W hC hw hwa hew 0 (by decide) k_fl_W_9 rfl d_W_weighedPart_17 ?_
    refine len_B hC hw hba heb d_W_weighedPart_20 ?_
    refine kmin (a := b) (b := 1024) hC hl.1 k_ml_W_21 (by omega) (by decide) ⟨Nat.le_trans (Nat.le_of_ble_eq_true rfl) hRf, Nat.le_trans (Nat.le_of_ble_eq_true rfl) hRl⟩ (hcs) d_W_weighedPart_21 ?_
    refine tp_i (v := nI b) (by rw [Nat.min_eq_left hb9]) ?_
    refine lv_icmp_ge (tgt := 55) hx hb d_W_weighedPart_24 (by decide) (fun c1 => ?_) (fun c1 => ?_)
    · have e : a + i = b := by
        rcases Nat.lt_or_ge (a + i) b with q | q
        · exact absurd c1 (nI_ge q (by omega))
        · omega
      rw [show i = b - a by omega] at hl
      exact kont H locs ls hw (lv_sub hl [1] rfl)
    · have hlt : a + i < b := by
        rcases Nat.lt_or_ge (a + i) b with q | q
        · exact q
        · exact absurd (nI_le q (by omega)) c1
      refine lv_iload hx hb d_W_weighedPart_27 (lv_at hl 1 rfl) ?_
      refine lv_aload_n hx hb d_W_weighedPart_29 rfl (lv_at hl 3 rfl) ?_
      refine get_W hC hw hwa hew 0 (by decide) k_fl_W_9 rfl d_W_weighedPart_30 ?_
      refine lv_iload hx hb d_W_weighedPart_33 (lv_at hl 0 rfl) ?_
      refine ald_B hC hw hba heb (by omega) (by decide) d_W_weighedPart_35 ?_
      refine lv_sipush (v := 255) hx hb d_W_weighedPart_36 (by decide) ?_
      refine lv_iand hx hb d_W_weighedPart_39 ?_
      refine tp_i (v := nI (bs (Q9 + a + i))) (by rw [hv _ (by omega), Nat.add_assoc]; exact (sb_byte _ (hbs _)).1) ?_
      refine lv_iload hx hb d_W_weighedPart_40 (lv_at hl 2 rfl) ?_
      refine lv_imul hx hb d_W_weighedPart_42 ?_
      refine lv_iadd hx hb d_W_weighedPart_43 ?_
      refine lv_istore (lv' := [(4, .int ((wsum bs (Q9 + a) w i) + ((nI (bs (Q9 + a + i))) * (w - nI i)))), (6, .int (nI (a + i))), (5, .int (w - nI i)), (0, .ref wa), (2, .int (nI b))]) hx hb d_W_weighedPart_44 hl (by decide) rfl (fun ls hl => ?_)
      refine lv_iinc (v := w - nI (i + 1)) (lv' := [(5, .int (w - nI (i + 1))), (4, .int ((wsum bs (Q9 + a) w i) + ((nI (bs (Q9 + a + i))) * (w - nI i)))), (6, .int (nI (a + i))), (0, .ref wa), (2, .int (nI b))]) hx hb d_W_weighedPart_46 hl (k := 2) rfl (dec_w w i) (by decide) rfl (fun ls hl => ?_)
      refine lv_iinc (v := nI (a + (i + 1))) (lv' := [(6, .int (nI (a + (i + 1)))), (5, .int (w - nI (i + 1))), (4, .int ((wsum bs (Q9 + a) w i) + ((nI (bs (Q9 + a + i))) * (w - nI i)))), (0, .ref wa), (2, .int (nI b))]) hx hb d_W_weighedPart_49 hl (k := 2) rfl (nI_1 (a + i)) (by decide) rfl (fun ls hl => ?_)
      refine lv_goto (tgt := 13) hx hb d_W_weighedPart_52 (by decide) ?_
      exact ih (i + 1) _ _ _ (by omega) (by omega) hw (lv_sub hl [0, 2, 1, 3, 4] rfl)
set_option maxHeartbeats 4000000 in
set_option maxRecDepth 100000 in
theorem c_W_weighedPart (l : Launch) (D : va_G) (kc : Nat → ClassId) (L : List Nat) (f : Nat → va_E) (sz : Nat) (wa ba a b Q9 : Nat) (hh : Nat → Int32) (bs : Nat → Nat) (w : Int32) (hwa : wa ∈ L) (hew : f wa = .inr (1, [.ref ba])) (hba : ba ∈ L) (heb : f ba = .inl (kc 0, 1024, .inl hh)) (hbs : ∀ j, bs j < 256) (hv : ∀ j, j < 1024 → hh j = sb_b (bs (Q9 + j))) (hab : a ≤ b) (hb9 : b ≤ 1024) : Met l y_W_weighedPart w_W_weighedPart ({ frames := 1, cells := 0, slots := 0, locals := 14 }) (PP D kc L f sz [.ref wa, .int (nI a), .int (nI b), .int w]) (Qi D L f sz (fun r u => r = wsum bs (Q9 + a) w (b - a) ∧ u = (L, f))) 0 0 (pA L f sz) := by
  refine kx_met (by decide) (Nat.le_of_ble_eq_true rfl) ?_
  intro p e s m below meth c hC hnm hw hsz ls hl
  subst hsz
  have hl : lv_has ls 7 [(0, .ref wa), (1, .int (nI a)), (2, .int (nI b)), (3, .int w)] := hl
  obtain ⟨⟨⟨hx, hb, hml, hown, hts⟩, hret9, hlocks⟩, hK, hE, hA⟩ := id hC
  refine lv_iconst (v := 0) hx hb d_W_weighedPart_0 (by decide) ?_
  refine lv_istore (lv' := [(4, .int 0), (0, .ref wa), (1, .int (nI a)), (2, .int (nI b)), (3, .int w)]) hx hb d_W_weighedPart_1 hl (by decide) rfl (fun ls hl => ?_)
  refine lv_iload_n hx hb d_W_weighedPart_3 rfl (lv_at hl 4 rfl) ?_
  refine lv_istore (lv' := [(5, .int w), (4, .int 0), (0, .ref wa), (1, .int (nI a)), (2, .int (nI b)), (3, .int w)]) hx hb d_W_weighedPart_4 hl (by decide) rfl (fun ls hl => ?_)
  refine lv_iload_n hx hb d_W_weighedPart_6 rfl (lv_at hl 3 rfl) ?_
  refine lv_iconst (v := 0) hx hb d_W_weighedPart_7 (by decide) ?_
  refine tp_i (v := nI 0) (rfl) ?_
  refine kmax (a := a) (b := 0) hC hl.1 k_ml_W_15 (by omega) (by decide) ⟨Nat.le_of_ble_eq_true rfl, Nat.le_of_ble_eq_true rfl⟩ (⟨Nat.zero_le _, Nat.zero_le _⟩) d_W_weighedPart_8 ?_
  refine tp_i (v := nI (a + 0)) (by rw [Nat.max_eq_left (Nat.zero_le _)]; rfl) ?_
  refine lv_istore (lv' := [(6, .int (nI (a + 0))), (5, .int w), (4, .int 0), (0, .ref wa), (1, .int (nI a)), (2, .int (nI b)), (3, .int w)]) hx hb d_W_weighedPart_11 hl (by decide) rfl (fun ls hl => ?_)
  have hl : lv_has ls 7 [(6, .int (nI (a + 0))), (4, .int (wsum bs (Q9 + a) w 0)), (5, .int (w - nI 0)), (0, .ref wa), (2, .int (nI b))] := by
    have h0 : w - nI 0 = w := by rw [nI_0, Int32.sub_zero]
    rw [h0]
    exact (lv_sub hl [0, 2, 1, 3, 5] rfl)
  refine lp_weighedPart ⟨Nat.zero_le _, Nat.zero_le _⟩ w hwa hew hba heb hbs hv hab hb9 hC (Nat.le_of_ble_eq_true rfl) (Nat.le_of_ble_eq_true rfl) (fun H locs ls hw hl => ?_) (b + 1) 0 _ _ _ (by omega) (by omega) hw hl
  refine lv_iload hx hb d_W_weighedPart_55 (lv_at hl 0 rfl) ?_
  exact pg_iret hC.1 hw (⟨rfl, rfl⟩) d_W_weighedPart_57
set_option maxHeartbeats 4000000 in
set_option maxRecDepth 100000 in
theorem lp_weighedSum {p : Program} {l : Launch} {e : Env} {R : Room} {s : State} {m : MethodId} {args : Array Value} {below : List Frame} {meth : Method} {c : Code} {Q : State → Prop} {A : Nat → Prop} {D : va_G} {kc : Nat → ClassId} {c0 : Cond} {ret : Option FieldType} {L : List Nat} {f : Nat → va_E} {tg : Nat → Nat × Nat} {k am ra : Nat} {mo : Int32} {pg N : Nat} {g : Nat → Option Nat} {bs : Nat → Nat} (hm : memG kc L f tg k am ra mo pg N g bs) {cells slots : Nat} (hcs : cells ≤ R.cells ∧ slots ≤ R.slots) (P nb : Nat) (hP : P + nb ≤ 1024 * N) (hnb : 0 < nb ∧ nb ≤ 65536) (hC : Kx p m c b_M_weighedSum 8 s args c0 R_M meth ret D kc A) (hRf : 2 ≤ R.frames) (hRl : 40 ≤ R.locals)
    (kont : ∀ (H : Heap) (locs : List Loc) (ls : Array Slot), pw D Cls A s.heap H locs L f → lv_has ls 8 [(3, .int (wsum bs P (nI nb) nb))] → W p l e R s m args below meth c H locs cells slots Q (F0 m 102 ls [])) :
    ∀ (n : Nat) (r : Nat) (H : Heap) (locs : List Loc) (ls : Array Slot), P / 1024 ≤ r → r ≤ (P + nb - 1) / 1024 + 1 → (P + nb - 1) / 1024 + 2 ≤ r + n → pw D Cls A s.heap H locs L f → lv_has ls 8 [(4, .int (nI r)), (3, .int (wsum bs P (nI nb) (min (P + nb) (max P (r * 1024)) - P))), (0, .ref am), (1, .int (nI P)), (2, .int (nI nb))] → W p l e R s m args below meth c H locs cells slots Q (F0 m 9 ls []) := by
  obtain ⟨⟨⟨hx, hb, hml, hown, hts⟩, hret9, hlocks⟩, hK, hE, hA⟩ := id hC
  intro n
  induction n with
  | zero => intro r H locs ls hr0 hr1 hin hw hl; exact absurd hin (by omega)
  | succ n ih =>
    intro r H locs ls hr0 hr1 hin hw hl
    obtain ⟨⟨ham, hta, hem⟩, ⟨hra, htr, her⟩, hN, hbs, hrow⟩ := id hm
    refine lv_iload hx hb d_M_weighedSum_9 (lv_at hl 0 rfl) ?_
    refine lv_iload_n hx hb d_M_weighedSum_11 rfl (lv_at hl 3 rfl) ?_
    refine lv_iload_n hx hb d_M_weighedSum_12 rfl (lv_at hl 4 rfl) ?_
    refine lv_iadd hx hb d_M_weighedSum_13 ?_
    refine tp_i (v := nI (P + nb)) (nI_add P nb) ?_
    refine lv_iconst (v := 1) hx hb d_M_weighedSum_14 (by decide) ?_
    refine lv_isub hx hb d_M_weighedSum_15 ?_
    refine tp_i (v := nI (P + nb - 1)) (pk_sub (b := 1) (by omega)) ?_
    refine lv_sipush (v := 1024) hx hb d_M_weighedSum_16 (by decide) ?_
    refine lv_idiv hx hb d_M_weighedSum_19 (by decide) ?_
    refine tp_i (v := nI ((P + nb - 1) / 1024)) (pk_div (d := 1024) (by omega) (by decide) (by decide)) ?_
    refine lv_icmp_gt (tgt := 102) hx hb d_M_weighedSum_20 (by decide) (fun c1 => ?_) (fun c1 => ?_)
    · have e : (P + nb - 1) / 1024 < r := by
        rcases Nat.lt_or_ge ((P + nb - 1) / 1024) r with q | q
        · exact q
        · exact absurd c1 (nI_nlt q (by omega))
      rw [show min (P + nb) (max P (r * 1024)) - P = nb by omega] at hl
      exact kont H locs ls hw (lv_sub hl [1] rfl)
    · have hlt : r ≤ (P + nb - 1) / 1024 := by
        rcases Nat.lt_or_ge ((P + nb - 1) / 1024) r with q | q
        · exact absurd (nI_lt q (by omega)) c1
        · exact q
      have hrN : r < N := by omega
      have hsp : wsum bs P (nI nb) (min (P + nb) (max P ((r + 1) * 1024)) - P) = wsum bs P (nI nb) (min (P + nb) (max P (r * 1024)) - P) + wsum bs (max P (r * 1024)) (nI (P + nb - max P (r * 1024))) (min (P + nb) ((r + 1) * 1024) - max P (r * 1024)) := by
        rw [show min (P + nb) (max P ((r + 1) * 1024)) - P = (min (P + nb) (max P (r * 1024)) - P) + (min (P + nb) ((r + 1) * 1024) - max P (r * 1024)) by omega, wsum_split, pk_sub (by omega)]
        congr 2
        · omega
        · congr 1; omega
      refine lv_aload_n hx hb d_M_weighedSum_23 rfl (lv_at hl 2 rfl) ?_
      refine lv_iload hx hb d_M_weighedSum_24 (lv_at hl 0 rfl) ?_
      refine callVq (As := [.int (nI r)]) (n9 := 1) hC hw (c_M_rowOrNull l D kc _ _ _ am ra mo pg N g ham hem hra her hN r hrN) k_co_M_rowOrNull k_ml_M_44 k_im_M_rowOrNull k_se_M_rowOrNull k_in_M rfl rfl (by decide +kernel) rfl ⟨Nat.le_trans (Nat.le_of_ble_eq_true rfl) hRf, Nat.le_trans (Nat.le_of_ble_eq_true rfl) hRl⟩ ham hem rfl hl.1 rfl (Nat.le_of_ble_eq_true rfl) d_M_weighedSum_26 ⟨hcs.1, hcs.2⟩ (fun o u H locs hp hw => ?_)
      obtain ⟨rfl, rfl⟩ := hp
      rcases hrow r hrN with ⟨hg, hz⟩ | ⟨w9, b9, hh, hg, hw9, htw, hfw, hb9, htb, hfb, hv⟩
      · refine tp_v (v := .null) (by rw [hg]; rfl) ?_
        refine lv_astoreN (lv' := [(5, .null), (4, .int (nI r)), (3, .int (wsum bs P (nI nb) (min (P + nb) (max P (r * 1024)) - P))), (0, .ref am), (1, .int (nI P)), (2, .int (nI nb))]) hx hb d_M_weighedSum_29 hl (by decide) rfl (fun ls hl => ?_)
        refine lv_aloadN hx hb d_M_weighedSum_31 (lv_at hl 0 rfl) ?_
        refine lv_ifnullN (tgt := 96) hx hb d_M_weighedSum_33 (by decide) ?_
        refine lv_iinc (v := nI (r + 1)) (lv' := [(4, .int (nI (r + 1))), (5, .null), (3, .int (wsum bs P (nI nb) (min (P + nb) (max P (r * 1024)) - P))), (0, .ref am), (1, .int (nI P)), (2, .int (nI nb))]) hx hb d_M_weighedSum_96 hl (k := 1) rfl (nI_1 r) (by decide) rfl (fun ls hl => ?_)
        refine lv_goto (tgt := 9) hx hb d_M_weighedSum_99 (by decide) ?_
        rw [wsum_zero (P := max P (r * 1024)) _ (min (P + nb) ((r + 1) * 1024) - max P (r * 1024)) (fun i hi => by rw [show max P (r * 1024) + i = 1024 * r + (max P (r * 1024) + i - 1024 * r) by omega]; exact hz _ (by omega)), Int32.add_zero] at hsp
        rw [← hsp] at hl
        exact ih (r + 1) _ _ _ (by omega) (by omega) (by omega) hw (lv_sub hl [0, 2, 3, 4, 5] rfl)
      · refine tp_v (v := .ref w9) (by rw [hg]; rfl) ?_
        refine lv_astore (lv' := [(5, .ref w9), (4, .int (nI r)), (3, .int (wsum bs P (nI nb) (min (P + nb) (max P (r * 1024)) - P))), (0, .ref am), (1, .int (nI P)), (2, .int (nI nb))]) hx hb d_M_weighedSum_29 hl (by decide) rfl (fun ls hl => ?_)
        refine lv_aload hx hb d_M_weighedSum_31 (lv_at hl 0 rfl) ?_
        refine lv_ifnull hx hb d_M_weighedSum_33 ?_
        refine lv_iload_n hx hb d_M_weighedSum_36 rfl (lv_at hl 4 rfl) ?_
        refine lv_iload hx hb d_M_weighedSum_37 (lv_at hl 1 rfl) ?_
        refine lv_sipush (v := 1024) hx hb d_M_weighedSum_39 (by decide) ?_
        refine lv_imul hx hb d_M_weighedSum_42 ?_
        refine tp_i (v := nI (r * 1024)) (pk_mul r 1024) ?_
        refine kmax (a := P) (b := r * 1024) hC hl.1 k_ml_M_24 (by omega) (by omega) ⟨Nat.le_trans (Nat.le_of_ble_eq_true rfl) hRf, Nat.le_trans (Nat.le_of_ble_eq_true rfl) hRl⟩ (hcs) d_M_weighedSum_43 ?_
        refine lv_istore (lv' := [(6, .int (nI (max P (r * 1024)))), (5, .ref w9), (4, .int (nI r)), (3, .int (wsum bs P (nI nb) (min (P + nb) (max P (r * 1024)) - P))), (0, .ref am), (1, .int (nI P)), (2, .int (nI nb))]) hx hb d_M_weighedSum_46 hl (by decide) rfl (fun ls hl => ?_)
        refine lv_iload_n hx hb d_M_weighedSum_48 rfl (lv_at hl 5 rfl) ?_
        refine lv_iload_n hx hb d_M_weighedSum_49 rfl (lv_at hl 6 rfl) ?_
        refine lv_iadd hx hb d_M_weighedSum_50 ?_
        refine tp_i (v := nI (P + nb)) (nI_add P nb) ?_
        refine lv_iload hx hb d_M_weighedSum_51 (lv_at hl 2 rfl) ?_
        refine lv_iconst (v := 1) hx hb d_M_weighedSum_53 (by decide) ?_
        refine lv_iadd hx hb d_M_weighedSum_54 ?_
        refine tp_i (v := nI (r + 1)) (nI_1 r) ?_
        refine lv_sipush (v := 1024) hx hb d_M_weighedSum_55 (by decide) ?_
        refine lv_imul hx hb d_M_weighedSum_58 ?_
        refine tp_i (v := nI ((r + 1) * 1024)) (pk_mul (r + 1) 1024) ?_
        refine kmin (a := P + nb) (b := (r + 1) * 1024) hC hl.1 k_ml_M_18 (by omega) (by omega) ⟨Nat.le_trans (Nat.le_of_ble_eq_true rfl) hRf, Nat.le_trans (Nat.le_of_ble_eq_true rfl) hRl⟩ (hcs) d_M_weighedSum_59 ?_
        refine lv_istore (lv' := [(7, .int (nI (min (P + nb) ((r + 1) * 1024)))), (6, .int (nI (max P (r * 1024)))), (5, .ref w9), (4, .int (nI r)), (3, .int (wsum bs P (nI nb) (min (P + nb) (max P (r * 1024)) - P))), (0, .ref am), (1, .int (nI P)), (2, .int (nI nb))]) hx hb d_M_weighedSum_62 hl (by decide) rfl (fun ls hl => ?_)
        refine lv_iload_n hx hb d_M_weighedSum_64 rfl (lv_at hl 4 rfl) ?_
        refine lv_aload hx hb d_M_weighedSum_65 (lv_at hl 2 rfl) ?_
        refine lv_iload hx hb d_M_weighedSum_67 (lv_at hl 1 rfl) ?_
        refine lv_iload hx hb d_M_weighedSum_69 (lv_at hl 3 rfl) ?_
        refine lv_sipush (v := 1024) hx hb d_M_weighedSum_71 (by decide) ?_
        refine lv_imul hx hb d_M_weighedSum_74 ?_
        refine tp_i (v := nI (r * 1024)) (pk_mul r 1024) ?_
        refine lv_isub hx hb d_M_weighedSum_75 ?_
        refine tp_i (v := nI (max P (r * 1024) - r * 1024)) (pk_sub (Nat.le_max_right _ _)) ?_
        refine lv_iload hx hb d_M_weighedSum_76 (lv_at hl 0 rfl) ?_
        refine lv_iload hx hb d_M_weighedSum_78 (lv_at hl 3 rfl) ?_
        refine lv_sipush (v := 1024) hx hb d_M_weighedSum_80 (by decide) ?_
        refine lv_imul hx hb d_M_weighedSum_83 ?_
        refine tp_i (v := nI (r * 1024)) (pk_mul r 1024) ?_
        refine lv_isub hx hb d_M_weighedSum_84 ?_
        refine tp_i (v := nI (min (P + nb) ((r + 1) * 1024) - r * 1024)) (pk_sub (by omega)) ?_
        refine lv_iload_n hx hb d_M_weighedSum_85 rfl (lv_at hl 6 rfl) ?_
        refine lv_iload_n hx hb d_M_weighedSum_86 rfl (lv_at hl 7 rfl) ?_
        refine lv_iadd hx hb d_M_weighedSum_87 ?_
        refine tp_i (v := nI (P + nb)) (nI_add P nb) ?_
        refine lv_iload hx hb d_M_weighedSum_88 (lv_at hl 1 rfl) ?_
        refine lv_isub hx hb d_M_weighedSum_90 ?_
        refine tp_i (v := nI (P + nb - max P (r * 1024))) (pk_sub (by omega)) ?_
        refine callVi (As := [.int (nI (max P (r * 1024) - r * 1024)), .int (nI (min (P + nb) ((r + 1) * 1024) - r * 1024)), .int (nI (P + nb - max P (r * 1024)))]) (n9 := 3) hC hw (c_W_weighedPart l D kc _ _ _ w9 b9 (max P (r * 1024) - r * 1024) (min (P + nb) ((r + 1) * 1024) - r * 1024) (1024 * r) hh bs (nI (P + nb - max P (r * 1024))) hw9 hfw hb9 hfb hbs hv (by omega) (by omega)) k_co_W_weighedPart k_ml_M_65 k_im_W_weighedPart k_se_W_weighedPart k_in_W rfl rfl (by decide +kernel) rfl ⟨Nat.le_trans (Nat.le_of_ble_eq_true rfl) hRf, Nat.le_trans (Nat.le_of_ble_eq_true rfl) hRl⟩ hw9 hfw rfl hl.1 rfl (Nat.le_of_ble_eq_true rfl) d_M_weighedSum_91 ⟨hcs.1, hcs.2⟩ (fun r9 u H locs hp hw => ?_)
        obtain ⟨rfl, rfl⟩ := hp
        refine lv_iadd hx hb d_M_weighedSum_94 ?_
        refine tp_i (v := wsum bs P (nI nb) (min (P + nb) (max P ((r + 1) * 1024)) - P)) (by rw [hsp, show 1024 * r + (max P (r * 1024) - r * 1024) = max P (r * 1024) by omega, show min (P + nb) ((r + 1) * 1024) - r * 1024 - (max P (r * 1024) - r * 1024) = min (P + nb) ((r + 1) * 1024) - max P (r * 1024) by omega]) ?_
        refine lv_istore_n (lv' := [(3, .int (wsum bs P (nI nb) (min (P + nb) (max P ((r + 1) * 1024)) - P))), (7, .int (nI (min (P + nb) ((r + 1) * 1024)))), (6, .int (nI (max P (r * 1024)))), (5, .ref w9), (4, .int (nI r)), (0, .ref am), (1, .int (nI P)), (2, .int (nI nb))]) hx hb d_M_weighedSum_95 rfl hl (by decide) rfl (fun ls hl => ?_)
        refine lv_iinc (v := nI (r + 1)) (lv' := [(4, .int (nI (r + 1))), (3, .int (wsum bs P (nI nb) (min (P + nb) (max P ((r + 1) * 1024)) - P))), (7, .int (nI (min (P + nb) ((r + 1) * 1024)))), (6, .int (nI (max P (r * 1024)))), (5, .ref w9), (0, .ref am), (1, .int (nI P)), (2, .int (nI nb))]) hx hb d_M_weighedSum_96 hl (k := 4) rfl (nI_1 r) (by decide) rfl (fun ls hl => ?_)
        refine lv_goto (tgt := 9) hx hb d_M_weighedSum_99 (by decide) ?_
        exact ih (r + 1) _ _ _ (by omega) (by omega) (by omega) hw (lv_sub hl [0, 1, 5, 6, 7] rfl)
set_option maxHeartbeats 4000000 in
set_option maxRecDepth 100000 in
theorem c_M_weighedSum (l : Launch) (D : va_G) (kc : Nat → ClassId) (L : List Nat) (f : Nat → va_E) (sz : Nat) (tg : Nat → Nat × Nat) (k am ra : Nat) (mo : Int32) (pg N : Nat) (g : Nat → Option Nat) (bs : Nat → Nat) (hm : memG kc L f tg k am ra mo pg N g bs) (P nb : Nat) (hP : P + nb ≤ 1024 * N) (hnb : 0 < nb ∧ nb ≤ 65536) : Met l y_M_weighedSum w_M_weighedSum ({ frames := 2, cells := 0, slots := 0, locals := 40 }) (PP D kc L f sz [.ref am, .int (nI P), .int (nI nb)]) (Qi D L f sz (fun r u => r = wsum bs P (nI nb) nb ∧ u = (L, f))) 0 0 (pA L f sz) := by
  refine kx_met (by decide) (Nat.le_of_ble_eq_true rfl) ?_
  intro p e s m below meth c hC hnm hw hsz ls hl
  subst hsz
  have hl : lv_has ls 8 [(0, .ref am), (1, .int (nI P)), (2, .int (nI nb))] := hl
  obtain ⟨⟨⟨hx, hb, hml, hown, hts⟩, hret9, hlocks⟩, hK, hE, hA⟩ := id hC
  obtain ⟨⟨ham, hta, hem⟩, ⟨hra, htr, her⟩, hN, hbs, hrow⟩ := id hm
  refine lv_iconst (v := 0) hx hb d_M_weighedSum_0 (by decide) ?_
  refine lv_istore_n (lv' := [(3, .int 0), (0, .ref am), (1, .int (nI P)), (2, .int (nI nb))]) hx hb d_M_weighedSum_1 rfl hl (by decide) rfl (fun ls hl => ?_)
  refine lv_iload_n hx hb d_M_weighedSum_2 rfl (lv_at hl 2 rfl) ?_
  refine lv_sipush (v := 1024) hx hb d_M_weighedSum_3 (by decide) ?_
  refine lv_idiv hx hb d_M_weighedSum_6 (by decide) ?_
  refine tp_i (v := nI (P / 1024)) (pk_div (d := 1024) (by omega) (by decide) (by decide)) ?_
  refine lv_istore (lv' := [(4, .int (nI (P / 1024))), (3, .int 0), (0, .ref am), (1, .int (nI P)), (2, .int (nI nb))]) hx hb d_M_weighedSum_7 hl (by decide) rfl (fun ls hl => ?_)
  have hl : lv_has ls 8 [(4, .int (nI (P / 1024))), (3, .int (wsum bs P (nI nb) (min (P + nb) (max P (P / 1024 * 1024)) - P))), (0, .ref am), (1, .int (nI P)), (2, .int (nI nb))] := by
    rw [show min (P + nb) (max P (P / 1024 * 1024)) - P = 0 by omega]
    exact (lv_sub hl [0, 1, 2, 3, 4] rfl)
  refine lp_weighedSum hm ⟨Nat.zero_le _, Nat.zero_le _⟩ P nb hP hnb hC (Nat.le_of_ble_eq_true rfl) (Nat.le_of_ble_eq_true rfl) (fun H locs ls hw hl => ?_) ((P + nb - 1) / 1024 + 2) (P / 1024) _ _ _ (Nat.le_refl _) (by omega) (by omega) hw hl
  refine lv_iload_n hx hb d_M_weighedSum_102 rfl (lv_at hl 0 rfl) ?_
  exact pg_iret hC.1 hw (⟨rfl, rfl⟩) d_M_weighedSum_103
set_option maxHeartbeats 4000000 in
set_option maxRecDepth 100000 in
theorem c_M_init_none (l : Launch) (D : va_G) (kc : Nat → ClassId) (L : List Nat) (f : Nat → va_E) (sz : Nat) (ma ls9 : Nat) (hma : ma ∈ L) (hem : f ma = .inr (0, [.int 0, .int 0, .null])) : Met l y_M_init w_M_init ({ frames := 1, cells := 1, slots := 1024, locals := 14 }) (PP D kc L f sz [.ref ma, .int (nI ls9), .int (-1)]) (Qv D L f sz (fun u => ∃ ra, ra ∉ L ∧ u = (L ++ [ra], va_up (va_up (va_up f ma (.inr (0, [.int (-1), .int (nI ls9), .null]))) ra (.inl (kc 2, 16 * 64, .inr (.inr (.inr (.inr (fun _ => none))))))) ma (.inr (0, [.int (-1), .int (nI ls9), .ref ra]))))) 1 1024 (pA L f sz) := by
  refine kx_met (by decide) (Nat.le_of_ble_eq_true rfl) ?_
  intro p e s m below meth c hC hnm hw hsz ls hl
  subst hsz
  have hl : lv_has ls 4 [(0, .ref ma), (1, .int (nI ls9)), (2, .int (-1))] := hl
  obtain ⟨⟨⟨hx, hb, hml, hown, hts⟩, hret9, hlocks⟩, hK, hE, hA⟩ := id hC
  refine lv_aload_n hx hb d_M_init_0 rfl (lv_at hl 0 rfl) ?_
  refine callO hC hw hl.1 k_ml_M_3 d_M_init_1 (Nat.le_of_ble_eq_true rfl) (Nat.le_of_ble_eq_true rfl) ?_
  refine lv_aload_n hx hb d_M_init_4 rfl (lv_at hl 0 rfl) ?_
  refine lv_iload_n hx hb d_M_init_5 rfl (lv_at hl 2 rfl) ?_
  refine putF_M hC hw hnm rfl hma hem 0 (by decide) k_fl_M_9 rfl rfl rfl rfl (Nat.le_of_ble_eq_true rfl) d_M_init_6 (fun H locs hw => ?_)
  have hem : va_up f ma (.inr (0, [Value.int (-1), Value.int 0, Value.null])) ma = .inr (0, [Value.int (-1), Value.int 0, Value.null]) := va_up_self _ _ _
  refine lv_aload_n hx hb d_M_init_9 rfl (lv_at hl 0 rfl) ?_
  refine lv_iload_n hx hb d_M_init_10 rfl (lv_at hl 1 rfl) ?_
  refine put_M hC hw hma hem 1 (by decide) k_fl_M_15 rfl rfl rfl (Nat.le_of_ble_eq_true rfl) d_M_init_11 (fun H locs hw => ?_)
  rw [bx_uu] at hw
  refine lv_iload_n hx hb d_M_init_14 rfl (lv_at hl 2 rfl) ?_
  refine lv_iconst (v := (-1)) hx hb d_M_init_15 (by decide) ?_
  refine lv_icmp_ne (tgt := 24) hx hb d_M_init_16 (by decide) (fun c1 => (c1 rfl).elim) (fun c1 => ?_)
  refine lv_bipush (v := 16) hx hb d_M_init_19 (by decide) ?_
  refine lv_goto (tgt := 30) hx hb d_M_init_21 (by decide) ?_
  refine tp_i (v := nI 16) (rfl) ?_
  refine lv_istore_n (lv' := [(3, .int (nI 16)), (0, .ref ma), (1, .int (nI ls9)), (2, .int (-1))]) hx hb d_M_init_30 rfl hl (by decide) rfl (fun ls hl => ?_)
  refine lv_aload_n hx hb d_M_init_31 rfl (lv_at hl 1 rfl) ?_
  refine lv_iload_n hx hb d_M_init_32 rfl (lv_at hl 0 rfl) ?_
  refine lv_iconst (v := 0) hx hb d_M_init_33 (by decide) ?_
  refine tp_i (v := nI 0) (rfl) ?_
  refine kmax (a := 16) (b := 0) hC hl.1 k_ml_M_24 (by omega) (by decide) ⟨Nat.le_of_ble_eq_true rfl, Nat.le_of_ble_eq_true rfl⟩ (⟨Nat.zero_le _, Nat.zero_le _⟩) d_M_init_34 ?_
  refine tp_i (v := nI (16)) (by rw [Nat.max_eq_left (Nat.zero_le _)]) ?_
  refine lv_bipush (v := 64) hx hb d_M_init_37 (by decide) ?_
  refine lv_imul hx hb d_M_init_39 ?_
  refine tp_i (v := nI (16 * 64)) (pk_mul _ 64) ?_
  refine newR hC hw k_cl_M_27 (by omega) (Nat.le_of_ble_eq_true rfl) (show 0 + 16 * 64 ≤ 1024 by omega) d_M_init_40 (fun ra H hra hw => ?_)
  refine putF_M hC hw hnm rfl (mem_l hma) ((va_up_ne _ _ (ne_in hma hra)).trans (va_up_self _ _ _)) 2 (by decide) k_fl_M_29 rfl rfl rfl rfl (Nat.le_of_ble_eq_true rfl) d_M_init_43 (fun H locs hw => ?_)
  refine W.widen (k := 1) (n := 1024) (by omega) (by omega) ?_
  exact pg_vret hC.1 hw (⟨ra, hra, rfl⟩) d_M_init_46
set_option maxHeartbeats 4000000 in
set_option maxRecDepth 100000 in
theorem c_M_init_some (l : Launch) (D : va_G) (kc : Nat → ClassId) (L : List Nat) (f : Nat → va_E) (sz : Nat) (ma ls9 : Nat) (hma : ma ∈ L) (hem : f ma = .inr (0, [.int 0, .int 0, .null])) (q9 : Nat) (hq9 : q9 ≤ 65536) : Met l y_M_init w_M_init ({ frames := 1, cells := 1, slots := 1024, locals := 14 }) (PP D kc L f sz [.ref ma, .int (nI ls9), .int (nI q9)]) (Qv D L f sz (fun u => ∃ ra, ra ∉ L ∧ u = (L ++ [ra], va_up (va_up (va_up f ma (.inr (0, [.int (nI q9), .int (nI ls9), .null]))) ra (.inl (kc 2, min q9 16 * 64, .inr (.inr (.inr (.inr (fun _ => none))))))) ma (.inr (0, [.int (nI q9), .int (nI ls9), .ref ra]))))) 1 1024 (pA L f sz) := by
  refine kx_met (by decide) (Nat.le_of_ble_eq_true rfl) ?_
  intro p e s m below meth c hC hnm hw hsz ls hl
  subst hsz
  have hl : lv_has ls 4 [(0, .ref ma), (1, .int (nI ls9)), (2, .int (nI q9))] := hl
  obtain ⟨⟨⟨hx, hb, hml, hown, hts⟩, hret9, hlocks⟩, hK, hE, hA⟩ := id hC
  refine lv_aload_n hx hb d_M_init_0 rfl (lv_at hl 0 rfl) ?_
  refine callO hC hw hl.1 k_ml_M_3 d_M_init_1 (Nat.le_of_ble_eq_true rfl) (Nat.le_of_ble_eq_true rfl) ?_
  refine lv_aload_n hx hb d_M_init_4 rfl (lv_at hl 0 rfl) ?_
  refine lv_iload_n hx hb d_M_init_5 rfl (lv_at hl 2 rfl) ?_
  refine putF_M hC hw hnm rfl hma hem 0 (by decide) k_fl_M_9 rfl rfl rfl rfl (Nat.le_of_ble_eq_true rfl) d_M_init_6 (fun H locs hw => ?_)
  have hem : va_up f ma (.inr (0, [Value.int (nI q9), Value.int 0, Value.null])) ma = .inr (0, [Value.int (nI q9), Value.int 0, Value.null]) := va_up_self _ _ _
  refine lv_aload_n hx hb d_M_init_9 rfl (lv_at hl 0 rfl) ?_
  refine lv_iload_n hx hb d_M_init_10 rfl (lv_at hl 1 rfl) ?_
  refine put_M hC hw hma hem 1 (by decide) k_fl_M_15 rfl rfl rfl (Nat.le_of_ble_eq_true rfl) d_M_init_11 (fun H locs hw => ?_)
  rw [bx_uu] at hw
  refine lv_iload_n hx hb d_M_init_14 rfl (lv_at hl 2 rfl) ?_
  refine lv_iconst (v := (-1)) hx hb d_M_init_15 (by decide) ?_
  refine lv_icmp_ne (tgt := 24) hx hb d_M_init_16 (by decide) (fun c1 => ?_) (fun c1 => (nI_pos (n := q9) (by omega) (by rw [c1]; decide)).elim)
  refine lv_iload_n hx hb d_M_init_24 rfl (lv_at hl 2 rfl) ?_
  refine lv_bipush (v := 16) hx hb d_M_init_25 (by decide) ?_
  refine tp_i (v := nI 16) (rfl) ?_
  refine kmin (a := q9) (b := 16) hC hl.1 k_ml_M_18 (by omega) (by decide) ⟨Nat.le_of_ble_eq_true rfl, Nat.le_of_ble_eq_true rfl⟩ (⟨Nat.zero_le _, Nat.zero_le _⟩) d_M_init_27 ?_
  refine lv_istore_n (lv' := [(3, .int (nI (min q9 16))), (0, .ref ma), (1, .int (nI ls9)), (2, .int (nI q9))]) hx hb d_M_init_30 rfl hl (by decide) rfl (fun ls hl => ?_)
  refine lv_aload_n hx hb d_M_init_31 rfl (lv_at hl 1 rfl) ?_
  refine lv_iload_n hx hb d_M_init_32 rfl (lv_at hl 0 rfl) ?_
  refine lv_iconst (v := 0) hx hb d_M_init_33 (by decide) ?_
  refine tp_i (v := nI 0) (rfl) ?_
  refine kmax (a := min q9 16) (b := 0) hC hl.1 k_ml_M_24 (by omega) (by decide) ⟨Nat.le_of_ble_eq_true rfl, Nat.le_of_ble_eq_true rfl⟩ (⟨Nat.zero_le _, Nat.zero_le _⟩) d_M_init_34 ?_
  refine tp_i (v := nI (min q9 16)) (by rw [Nat.max_eq_left (Nat.zero_le _)]) ?_
  refine lv_bipush (v := 64) hx hb d_M_init_37 (by decide) ?_
  refine lv_imul hx hb d_M_init_39 ?_
  refine tp_i (v := nI ((min q9 16) * 64)) (pk_mul _ 64) ?_
  refine newR hC hw k_cl_M_27 (by omega) (Nat.le_of_ble_eq_true rfl) (show 0 + (min q9 16) * 64 ≤ 1024 by omega) d_M_init_40 (fun ra H hra hw => ?_)
  refine putF_M hC hw hnm rfl (mem_l hma) ((va_up_ne _ _ (ne_in hma hra)).trans (va_up_self _ _ _)) 2 (by decide) k_fl_M_29 rfl rfl rfl rfl (Nat.le_of_ble_eq_true rfl) d_M_init_43 (fun H locs hw => ?_)
  refine W.widen (k := 1) (n := 1024) (by omega) (by omega) ?_
  exact pg_vret hC.1 hw (⟨ra, hra, rfl⟩) d_M_init_46
end
section
/-! THE STATE: n memories, mo k the most of each, om: whose the pages are, in the order in which they came (al of them), bs k: its bytes -/
def cnt (om : Nat → Nat) : Nat → Nat → Nat
  | 0, _ => 0
  | k + 1, m => cnt om k m + (if om k = m then 1 else 0)
def appN (om : Nat → Nat) (al m : Nat) : Nat → Nat := fun k => if k < al then om k else m
theorem cnt_congr {om om' : Nat → Nat} (m : Nat) : ∀ al, (∀ k, k < al → om k = om' k) → cnt om al m = cnt om' al m
  | 0, _ => rfl
  | al + 1, h => by
    show cnt om al m + _ = cnt om' al m + _
    rw [cnt_congr m al (fun k hk => h k (by omega)), h al (by omega)]
theorem cnt_le (om : Nat → Nat) (m : Nat) : ∀ al, cnt om al m ≤ al
  | 0 => Nat.le_refl _
  | al + 1 => by
    have := cnt_le om m al
    show cnt om al m + (if om al = m then 1 else 0) ≤ al + 1
    by_cases h : om al = m
    · rw [if_pos h]; omega
    · rw [if_neg h]; omega
theorem cnt_zero {om : Nat → Nat} {m : Nat} : ∀ al, (∀ k, k < al → om k ≠ m) → cnt om al m = 0
  | 0, _ => rfl
  | al + 1, h => by
    show cnt om al m + (if om al = m then 1 else 0) = 0
    rw [cnt_zero al (fun k hk => h k (by omega)), if_neg (h al (by omega))]
theorem cnt_app (om : Nat → Nat) (al m k : Nat) : ∀ d, cnt (appN om al m) (al + d) k = cnt om al k + (if k = m then d else 0)
  | 0 => by
    rw [Nat.add_zero, cnt_congr (om' := om) k al (fun j hj => by unfold appN; rw [if_pos hj])]
    by_cases h : k = m
    · rw [if_pos h]; rfl
    · rw [if_neg h]; rfl
  | d + 1 => by
    show cnt (appN om al m) (al + d) k + (if appN om al m (al + d) = k then 1 else 0) = _
    rw [cnt_app om al m k d, show appN om al m (al + d) = m from by unfold appN; rw [if_neg (by omega)]]
    by_cases h : k = m
    · rw [if_pos h, if_pos h, if_pos h.symm]; omega
    · rw [if_neg h, if_neg h, if_neg (Ne.symm h)]
def stOK (n : Nat) (mo : Nat → Int32) (om : Nat → Nat) (al : Nat) (bs : Nat → Nat → Nat) : Prop :=
  n ≤ 24 ∧ al ≤ 16 ∧ (∀ k, k < al → om k < n) ∧ (∀ k, k < n → mo k = -1 ∨ ∃ q, q ≤ 65536 ∧ mo k = nI q ∧ cnt om al k ≤ q) ∧ (∀ k j, 65536 * cnt om al k ≤ j → bs k j = 0) ∧ ∀ k j, bs k j < 256
def Nof (mo : Int32) (N : Nat) : Prop := (mo = -1 ∧ N = 1024) ∨ ∃ q, q ≤ 65536 ∧ mo = nI q ∧ N = min q 16 * 64
theorem nI_nm1 {q : Nat} (h : q ≤ 65536) : nI q ≠ -1 := fun e => nI_pos (n := q) (by omega) (by rw [e]; decide)
theorem nI_inj {a b : Nat} (ha : a ≤ 65536) (hb : b ≤ 65536) (h : nI a = nI b) : a = b := (nI_eq (by omega) (by omega)).mp h
theorem Nof_le {n : Nat} {mo : Nat → Int32} {om : Nat → Nat} {al : Nat} {bs : Nat → Nat → Nat} (hs : stOK n mo om al bs) {k N : Nat} (hk : k < n) (hN : Nof (mo k) N) : 64 * cnt om al k ≤ N ∧ cnt om al k ≤ 16 := by
  obtain ⟨-, h2, -, h4, -⟩ := hs
  have := cnt_le om k al
  rcases hN with ⟨-, h⟩ | ⟨q, hq, e, h⟩
  · omega
  · rcases h4 k hk with e2 | ⟨q2, hq2, e2, h5⟩
    · exact absurd (e.symm.trans e2) (nI_nm1 hq)
    · have := nI_inj hq hq2 (e.symm.trans e2)
      omega
def rootG (kc : Nat → ClassId) (L : List Nat) (f : Nat → va_E) (tg : Nat → Nat × Nat) (x ms cp : Nat) (gm : Nat → Option Nat) (hc : Nat → Int32) (n : Nat) (mo : Nat → Int32) (om : Nat → Nat) (al : Nat) (bs : Nat → Nat → Nat) : Prop :=
  ((x ∈ L ∧ tg x = (100, 0) ∧ f x = .inr (2, [.ref ms, .ref cp, .int (nI n), .int (nI al)])) ∧ (ms ∈ L ∧ tg ms = (100, 1) ∧ f ms = .inl (kc 1, 24, .inr (.inr (.inr (.inr gm))))) ∧ (cp ∈ L ∧ tg cp = (100, 2) ∧ f cp = .inl (kc 0, 4096, .inl hc))) ∧ (∀ k, n ≤ k → k < 24 → gm k = none) ∧
  ∀ k, k < n → ∃ (am ra N : Nat) (g : Nat → Option Nat), gm k = some am ∧ memG kc L f tg k am ra (mo k) (cnt om al k) N g (bs k) ∧ Nof (mo k) N
def rootP (kc : Nat → ClassId) (L : List Nat) (f : Nat → va_E) (tg : Nat → Nat × Nat) (x : Nat) (n : Nat) (mo : Nat → Int32) (om : Nat → Nat) (al : Nat) (bs : Nat → Nat → Nat) : Prop := ∃ (ms cp : Nat) (gm : Nat → Option Nat) (hc : Nat → Int32), rootG kc L f tg x ms cp gm hc n mo om al bs
def SC : Nat → Prop := fun i => i < 24 ∨ i = 100
section RT
variable {kc : Nat → ClassId} {L : List Nat} {f : Nat → va_E} {tg : Nat → Nat × Nat} {x ms cp : Nat} {gm : Nat → Option Nat} {hc : Nat → Int32} {n : Nat} {mo : Nat → Int32} {om : Nat → Nat} {al : Nat} {bs : Nat → Nat → Nat}
/-- another's region has changed -/
theorem root_ext {S : Nat → Prop} {u : pU} {tg' : Nat → Nat × Nat} (h : rootG kc L f tg x ms cp gm hc n mo om al bs) (hn : n ≤ 24) (he : Ext S L f tg u tg') (hS : ∀ i, S i → ¬ (i < 24 ∨ i = 100)) : rootG kc u.1 u.2 tg' x ms cp gm hc n mo om al bs := by
  obtain ⟨⟨⟨a1, a2, a3⟩, ⟨b1, b2, b3⟩, ⟨c1, c2, c3⟩⟩, d, e⟩ := h
  have n100 : ¬ S 100 := fun q => hS _ q (Or.inr rfl)
  refine ⟨⟨⟨he.1 _ a1, by rw [he.2.1 _ a1]; exact a2, by rw [he.2.2.1 _ a1 (by rw [a2]; exact n100)]; exact a3⟩, ⟨he.1 _ b1, by rw [he.2.1 _ b1]; exact b2, by rw [he.2.2.1 _ b1 (by rw [b2]; exact n100)]; exact b3⟩, ⟨he.1 _ c1, by rw [he.2.1 _ c1]; exact c2, by rw [he.2.2.1 _ c1 (by rw [c2]; exact n100)]; exact c3⟩⟩, d, fun k hk => ?_⟩
  obtain ⟨am, ra, N, g, e1, e2, e3⟩ := e k hk
  exact ⟨am, ra, N, g, e1, memG_ext e2 he (fun q => hS _ q (Or.inl (by omega))), e3⟩
/-- the bytes of one memory have changed -/
theorem root_mem {u : pU} {tg' : Nat → Nat × Nat} {k am ra N : Nat} {g' : Nat → Option Nat} {b' : Nat → Nat} (h : rootG kc L f tg x ms cp gm hc n mo om al bs) (hn : n ≤ 24) (hk : k < n) (hg : gm k = some am) (hN : Nof (mo k) N) (he : Ext (fun i => i = k) L f tg u tg') (hm : memG kc u.1 u.2 tg' k am ra (mo k) (cnt om al k) N g' b') : rootG kc u.1 u.2 tg' x ms cp gm hc n mo om al (va_up bs k b') := by
  obtain ⟨⟨⟨a1, a2, a3⟩, ⟨b1, b2, b3⟩, ⟨c1, c2, c3⟩⟩, d, e⟩ := h
  have n100 : ¬ (100 = k) := by omega
  refine ⟨⟨⟨he.1 _ a1, by rw [he.2.1 _ a1]; exact a2, by rw [he.2.2.1 _ a1 (by rw [a2]; exact n100)]; exact a3⟩, ⟨he.1 _ b1, by rw [he.2.1 _ b1]; exact b2, by rw [he.2.2.1 _ b1 (by rw [b2]; exact n100)]; exact b3⟩, ⟨he.1 _ c1, by rw [he.2.1 _ c1]; exact c2, by rw [he.2.2.1 _ c1 (by rw [c2]; exact n100)]; exact c3⟩⟩, d, fun k2 hk2 => ?_⟩
  by_cases q : k2 = k
  · subst q
    exact ⟨am, ra, N, g', hg, by rw [va_up_self]; exact hm, hN⟩
  · obtain ⟨am2, ra2, N2, g2, e1, e2, e3⟩ := e k2 hk2
    exact ⟨am2, ra2, N2, g2, e1, by rw [va_up_ne _ _ q]; exact memG_ext e2 he q, e3⟩
/-- the row that copies go through has changed -/
theorem root_cp {h' : Nat → Int32} (h : rootG kc L f tg x ms cp gm hc n mo om al bs) (hn : n ≤ 24) : rootG kc L (va_up f cp (.inl (kc 0, 4096, .inl h'))) tg x ms cp gm h' n mo om al bs := by
  obtain ⟨⟨⟨a1, a2, a3⟩, ⟨b1, b2, b3⟩, ⟨c1, c2, c3⟩⟩, d, e⟩ := h
  have ne : ∀ a, tg a ≠ (100, 2) → va_up f cp (.inl (kc 0, 4096, .inl h')) a = f a := fun a ha => va_up_ne _ _ (fun q => ha (by rw [q]; exact c2))
  refine ⟨⟨⟨a1, a2, by rw [ne _ (by rw [a2]; simp)]; exact a3⟩, ⟨b1, b2, by rw [ne _ (by rw [b2]; simp)]; exact b3⟩, ⟨c1, c2, va_up_self _ _ _⟩⟩, d, fun k hk => ?_⟩
  obtain ⟨am, ra, N, g, e1, e2, e3⟩ := e k hk
  exact ⟨am, ra, N, g, e1, memG_ext e2 (u := (L, va_up f cp (.inl (kc 0, 4096, .inl h')))) (S := fun i => i = 100) (Ext_up (by rw [c2])) (by omega), e3⟩
/-- a memory has got d pages more -/
theorem root_grow {k am ra N d : Nat} {g : Nat → Option Nat} {f' : Nat → va_E} (h : rootG kc L f tg x ms cp gm hc n mo om al bs) (hn : n ≤ 24) (hk : k < n) (hg : gm k = some am) (hm : memG kc L f tg k am ra (mo k) (cnt om al k) N g (bs k)) (hN : Nof (mo k) N) (h1 : f' am = .inr (0, [.int (mo k), .int (nI (cnt om al k + d)), .ref ra])) (h2 : f' x = .inr (2, [.ref ms, .ref cp, .int (nI n), .int (nI (al + d))])) (h3 : ∀ a, a ≠ am → a ≠ x → f' a = f a) : rootG kc L f' tg x ms cp gm hc n mo (appN om al k) (al + d) bs ∧ Ext SC L f tg (L, f') tg := by
  obtain ⟨⟨⟨a1, a2, a3⟩, ⟨b1, b2, b3⟩, ⟨c1, c2, c3⟩⟩, d9, e⟩ := h
  obtain ⟨⟨m1, m2, m3⟩, ⟨r1, r2, r3⟩, m4, m5, m6⟩ := id hm
  have ne : ∀ a, tg a ≠ (k, 0) → tg a ≠ (100, 0) → f' a = f a := fun a ha hb => h3 a (fun q => ha (by rw [q]; exact m2)) (fun q => hb (by rw [q]; exact a2))
  have k100 : k ≠ 100 := by omega
  refine ⟨⟨⟨⟨a1, a2, h2⟩, ⟨b1, b2, by rw [ne _ (by rw [b2]; simp) (by rw [b2]; simp)]; exact b3⟩, ⟨c1, c2, by rw [ne _ (by rw [c2]; simp) (by rw [c2]; simp)]; exact c3⟩⟩, d9, fun k2 hk2 => ?_⟩, fun _ h => h, fun _ _ => rfl, fun a _ hs => ne a (fun q => hs (by rw [q]; exact Or.inl (by show k < 24; omega))) (fun q => hs (by rw [q]; exact Or.inr rfl)), fun _ h h2 => absurd h h2⟩
  rw [cnt_app]
  by_cases q : k2 = k
  · subst q
    rw [if_pos rfl]
    refine ⟨am, ra, N, g, hg, ⟨⟨m1, m2, h1⟩, ⟨r1, r2, by rw [ne _ (by rw [r2]; simp) (by rw [r2]; simp)]; exact r3⟩, m4, m5, fun r hr => rowAt_keep (m6 r hr) (fun _ h => h) (fun _ _ => rfl) (fun a _ ht => ne a ?_ ?_) (fun _ _ => rfl)⟩, hN⟩
    · rcases ht with z | z <;> rw [z] <;> simp only [ne_eq, Prod.mk.injEq, not_and] <;> omega
    · rcases ht with z | z <;> rw [z] <;> simp only [ne_eq, Prod.mk.injEq, not_and] <;> omega
  · rw [if_neg q]
    obtain ⟨am2, ra2, N2, g2, e1, e2, e3⟩ := e k2 hk2
    refine ⟨am2, ra2, N2, g2, e1, ?_, e3⟩
    have he : Ext (fun i => i = k ∨ i = 100) L f tg (L, f') tg := ⟨fun _ h => h, fun _ _ => rfl, fun a _ hs => ne a (fun z => hs (by rw [z]; exact Or.inl rfl)) (fun z => hs (by rw [z]; exact Or.inr rfl)), fun _ h h2 => absurd h h2⟩
    exact memG_ext e2 he (fun z => z.elim q (fun z => by omega))
/-- a memory has come -/
theorem root_make {ma ra ls9 N : Nat} {mv : Int32} {f' : Nat → va_E} (h : rootG kc L f tg x ms cp gm hc n mo om al bs) (hn : n < 24) (hz : cnt om al n = 0) (hbz : ∀ j, bs n j = 0) (hN : Nof mv N) (hma : ma ∉ L) (hra : ra ∉ L) (hmr : ma ≠ ra) (h1 : f' ma = .inr (0, [.int mv, .int (nI ls9), .ref ra])) (h2 : f' ra = .inl (kc 2, N, .inr (.inr (.inr (.inr (fun _ => none)))))) (h3 : f' ms = .inl (kc 1, 24, .inr (.inr (.inr (.inr (va_up gm n (some ma))))))) (h4 : f' x = .inr (2, [.ref ms, .ref cp, .int (nI (n + 1)), .int (nI (al + ls9))])) (h5 : ∀ a, a ∈ L → a ≠ ms → a ≠ x → f' a = f a) :
    ∃ tg', rootG kc ((L ++ [ma]) ++ [ra]) f' tg' x ms cp (va_up gm n (some ma)) hc (n + 1) (va_up mo n mv) (appN om al n) (al + ls9) bs ∧ Ext SC L f tg ((L ++ [ma]) ++ [ra], f') tg' := by
  obtain ⟨⟨⟨a1, a2, a3⟩, ⟨b1, b2, b3⟩, ⟨c1, c2, c3⟩⟩, d9, e⟩ := h
  refine ⟨va_up (va_up tg ma (n, 0)) ra (n, 1), ?_⟩
  have kt : ∀ a, a ∈ L → va_up (va_up tg ma (n, 0)) ra (n, 1) a = tg a := fun a ha => by
    have e1 : a ≠ ra := ne_in ha hra
    have e2 : a ≠ ma := ne_in ha hma
    rw [va_up_ne _ _ e1, va_up_ne _ _ e2]
  have tm : va_up (va_up tg ma (n, 0)) ra (n, 1) ma = (n, 0) := by rw [va_up_ne _ _ hmr, va_up_self]
  have tr : va_up (va_up tg ma (n, 0)) ra (n, 1) ra = (n, 1) := va_up_self _ _ _
  have kL : ∀ a, a ∈ L → a ∈ (L ++ [ma]) ++ [ra] := fun a ha => mem_l (mem_l ha)
  have ne : ∀ a, a ∈ L → tg a ≠ (100, 0) → tg a ≠ (100, 1) → f' a = f a := fun a ha hb hb2 => h5 a ha (fun q => hb2 (by rw [q]; exact b2)) (fun q => hb (by rw [q]; exact a2))
  have hNle : N ≤ 1024 := by rcases hN with ⟨-, z⟩ | ⟨q, -, -, z⟩ <;> omega
  have he : Ext (fun i => i = n ∨ i = 100) L f tg ((L ++ [ma]) ++ [ra], f') (va_up (va_up tg ma (n, 0)) ra (n, 1)) := by
    refine ⟨kL, kt, fun a ha hs => ne a ha (fun q => hs (by rw [q]; exact Or.inr rfl)) (fun q => hs (by rw [q]; exact Or.inr rfl)), fun a ha hn2 => ?_⟩
    rcases List.mem_append.mp ha with h | h
    · rcases List.mem_append.mp h with h | h
      · exact absurd h hn2
      · rw [List.mem_singleton.mp h, tm]; exact Or.inl rfl
    · rw [List.mem_singleton.mp h, tr]; exact Or.inl rfl
  have heS : Ext SC L f tg ((L ++ [ma]) ++ [ra], f') (va_up (va_up tg ma (n, 0)) ra (n, 1)) := he.mono (fun i hi => hi.elim (fun z => Or.inl (by omega)) Or.inr)
  refine ⟨⟨⟨⟨kL _ a1, by rw [kt _ a1]; exact a2, h4⟩, ⟨kL _ b1, by rw [kt _ b1]; exact b2, h3⟩, ⟨kL _ c1, by rw [kt _ c1]; exact c2, by rw [ne _ c1 (by rw [c2]; simp) (by rw [c2]; simp)]; exact c3⟩⟩, fun k h1 h2 => by rw [va_up_ne _ _ (by omega)]; exact d9 k (by omega) h2, fun k hk => ?_⟩, heS⟩
  rw [cnt_app]
  by_cases q : k = n
  · subst q
    rw [if_pos rfl, hz, Nat.zero_add, va_up_self, va_up_self]
    exact ⟨ma, ra, N, fun _ => none, rfl, ⟨⟨mem_l mem_r, tm, h1⟩, ⟨mem_r, tr, h2⟩, hNle, fun j => by rw [hbz]; decide, fun r hr => Or.inl ⟨rfl, fun j _ => hbz _⟩⟩, hN⟩
  · rw [if_neg q, va_up_ne _ _ q, va_up_ne _ _ q]
    obtain ⟨am2, ra2, N2, g2, e1, e2, e3⟩ := e k (by omega)
    exact ⟨am2, ra2, N2, g2, e1, memG_ext e2 he (fun z => z.elim q (fun z => by omega)), e3⟩
end RT
end
section
/-! PagedBytes: the public methods -/
theorem root_iff {kc : Nat → ClassId} {L : List Nat} {f : Nat → va_E} {tg : Nat → Nat × Nat} {x ms cp : Nat} {gm : Nat → Option Nat} {hc : Nat → Int32} {n : Nat} {mo : Nat → Int32} {om : Nat → Nat} {al : Nat} {bs : Nat → Nat → Nat} (h : rootG kc L f tg x ms cp gm hc n mo om al bs) {k : Nat} (h1 : k < 24) (h2 : gm k ≠ none) : k < n := by
  rcases Nat.lt_or_ge k n with q | q
  · exact q
  · exact absurd (h.2.1 k q h1) h2
theorem root_not {kc : Nat → ClassId} {L : List Nat} {f : Nat → va_E} {tg : Nat → Nat × Nat} {x ms cp : Nat} {gm : Nat → Option Nat} {hc : Nat → Int32} {n : Nat} {mo : Nat → Int32} {om : Nat → Nat} {al : Nat} {bs : Nat → Nat → Nat} (h : rootG kc L f tg x ms cp gm hc n mo om al bs) (hn : n ≤ 24) {m : Int32} (hno : ¬ (∃ k, k < 24 ∧ m = nI k ∧ gm k ≠ none)) : ¬ (∃ k, k < n ∧ m = nI k) := by
  rintro ⟨k, hk, e⟩
  obtain ⟨am, _, _, _, e1, _⟩ := h.2.2 k hk
  exact hno ⟨k, by omega, e, by rw [e1]; exact fun q => Option.some_ne_none _ q⟩
/-- what fits answers -/
def fitV (pg mo least most : Int32) : Int32 := if least ≤ pg ∧ (most = -1 ∨ (mo ≠ -1 ∧ mo ≤ most)) then 1 else 0
set_option maxHeartbeats 4000000 in
set_option maxRecDepth 100000 in
theorem c_P_pages (l : Launch) (hst : l.stackTraces = false) (D : va_G) (kc : Nat → ClassId) (L : List Nat) (f : Nat → va_E) (sz : Nat) (x ms cp : Nat) (gm : Nat → Option Nat) (hc : Nat → Int32) (tg : Nat → Nat × Nat) (nm : Nat) (mo : Nat → Int32) (om : Nat → Nat) (al : Nat) (bs : Nat → Nat → Nat) (hg : rootG kc L f tg x ms cp gm hc nm mo om al bs) (hs : stOK nm mo om al bs) (mm : Int32) : vx_Met l y_P_pages w_P_pages ({ frames := 7, cells := 1, slots := 6, locals := 103 }) (PP D kc L f sz [.ref x, .int mm]) (Qi D L f sz (fun r u => ∃ k, k < nm ∧ mm = nI k ∧ r = nI (cnt om al k) ∧ u = (L, f))) (XX D L f sz (fun E u => E = eIAE ∧ ¬ (∃ k, k < nm ∧ mm = nI k) ∧ u = (L, f))) 1 6 (pA L f sz) := by
  refine kx_metX (by decide) (Nat.le_of_ble_eq_true rfl) ?_
  intro p e s m below meth c hC hex hw hsz ls hl
  subst hsz
  have hl : lv_has ls 2 [(0, .ref x), (1, .int mm)] := hl
  obtain ⟨⟨⟨hx, hb, hml, hown, hts⟩, hret9, hlocks⟩, hK, hE, hA⟩ := id hC
  obtain ⟨⟨⟨hxL, htx, hfx⟩, ⟨hmsL, htms, hfms⟩, ⟨hcpL, htcp, hfcp⟩⟩, hgn, hgk9⟩ := id hg
  obtain ⟨hs1, hs2, hs3, hs4, hs5, hs6⟩ := id hs
  refine lv_aload_n hx hb d_P_pages_0 rfl (lv_at hl 0 rfl) ?_
  refine lv_iload_n hx hb d_P_pages_1 rfl (lv_at hl 1 rfl) ?_
  refine callXVq (As := [.int mm]) (n9 := 1) hC hw (c_memoryOf l hst D kc _ _ _ x ms cp (nI nm) (nI al) gm hxL hfx hmsL hfms mm) k_co_P_memoryOf k_ml_P_49 k_im_P_memoryOf k_se_P_memoryOf k_in_P rfl rfl (by decide +kernel) rfl ⟨Nat.le_of_ble_eq_true rfl, Nat.le_of_ble_eq_true rfl⟩ hxL hfx rfl hl.1 rfl (Nat.le_of_ble_eq_true rfl) d_P_pages_2 ⟨Nat.le_of_ble_eq_true rfl, Nat.le_of_ble_eq_true rfl⟩ (fun E ce q9 u H locs ho hw h1 h2 h3 => ?_) (fun o u H locs hp hw => ?_)
  · obtain ⟨rfl, ho, rfl⟩ := ho
    have hno := root_not hg hs1 ho
    exact pg_out hex hlocks hw h1 h2 h3 (⟨rfl, hno, rfl⟩) (by omega) (by omega)
  · obtain ⟨k, hk24, rfl, rfl, hne, rfl⟩ := hp
    have hkn : k < nm := root_iff hg hk24 hne
    obtain ⟨am, ra, N, g, hgk, hm, hNof⟩ := hgk9 k hkn
    obtain ⟨⟨ham, hta, hem⟩, ⟨hra, htr, her⟩, hN, hbs, hrow⟩ := id hm
    obtain ⟨hpN, hp16⟩ := Nof_le hs hkn hNof
    refine tp_v (v := .ref am) (by rw [hgk]; rfl) ?_
    refine get_M hC hw ham hem 1 (by decide) k_fl_P_53 rfl d_P_pages_5 ?_
    exact vx_ret (pg_iret hC.1 hw (⟨k, hkn, rfl, rfl, rfl⟩) d_P_pages_8)
set_option maxHeartbeats 4000000 in
set_option maxRecDepth 100000 in
theorem c_P_fits (l : Launch) (hst : l.stackTraces = false) (D : va_G) (kc : Nat → ClassId) (L : List Nat) (f : Nat → va_E) (sz : Nat) (x ms cp : Nat) (gm : Nat → Option Nat) (hc : Nat → Int32) (tg : Nat → Nat × Nat) (nm : Nat) (mo : Nat → Int32) (om : Nat → Nat) (al : Nat) (bs : Nat → Nat → Nat) (hg : rootG kc L f tg x ms cp gm hc nm mo om al bs) (hs : stOK nm mo om al bs) (mm least most : Int32) : vx_Met l y_P_fits w_P_fits ({ frames := 7, cells := 1, slots := 6, locals := 103 }) (PP D kc L f sz [.ref x, .int mm, .int least, .int most]) (Qi D L f sz (fun r u => ∃ k, k < nm ∧ mm = nI k ∧ r = fitV (nI (cnt om al k)) (mo k) least most ∧ u = (L, f))) (XX D L f sz (fun E u => E = eIAE ∧ ¬ (∃ k, k < nm ∧ mm = nI k) ∧ u = (L, f))) 1 6 (pA L f sz) := by
  refine kx_metX (by decide) (Nat.le_of_ble_eq_true rfl) ?_
  intro p e s m below meth c hC hex hw hsz ls hl
  subst hsz
  have hl : lv_has ls 5 [(0, .ref x), (1, .int mm), (2, .int least), (3, .int most)] := hl
  obtain ⟨⟨⟨hx, hb, hml, hown, hts⟩, hret9, hlocks⟩, hK, hE, hA⟩ := id hC
  obtain ⟨⟨⟨hxL, htx, hfx⟩, ⟨hmsL, htms, hfms⟩, ⟨hcpL, htcp, hfcp⟩⟩, hgn, hgk9⟩ := id hg
  obtain ⟨hs1, hs2, hs3, hs4, hs5, hs6⟩ := id hs
  refine lv_aload_n hx hb d_P_fits_0 rfl (lv_at hl 0 rfl) ?_
  refine lv_iload_n hx hb d_P_fits_1 rfl (lv_at hl 1 rfl) ?_
  refine callXVq (As := [.int mm]) (n9 := 1) hC hw (c_memoryOf l hst D kc _ _ _ x ms cp (nI nm) (nI al) gm hxL hfx hmsL hfms mm) k_co_P_memoryOf k_ml_P_49 k_im_P_memoryOf k_se_P_memoryOf k_in_P rfl rfl (by decide +kernel) rfl ⟨Nat.le_of_ble_eq_true rfl, Nat.le_of_ble_eq_true rfl⟩ hxL hfx rfl hl.1 rfl (Nat.le_of_ble_eq_true rfl) d_P_fits_2 ⟨Nat.le_of_ble_eq_true rfl, Nat.le_of_ble_eq_true rfl⟩ (fun E ce q9 u H locs ho hw h1 h2 h3 => ?_) (fun o u H locs hp hw => ?_)
  · obtain ⟨rfl, ho, rfl⟩ := ho
    have hno := root_not hg hs1 ho
    exact pg_out hex hlocks hw h1 h2 h3 (⟨rfl, hno, rfl⟩) (by omega) (by omega)
  · obtain ⟨k, hk24, rfl, rfl, hne, rfl⟩ := hp
    have hkn : k < nm := root_iff hg hk24 hne
    obtain ⟨am, ra, N, g, hgk, hm, hNof⟩ := hgk9 k hkn
    obtain ⟨⟨ham, hta, hem⟩, ⟨hra, htr, her⟩, hN, hbs, hrow⟩ := id hm
    obtain ⟨hpN, hp16⟩ := Nof_le hs hkn hNof
    refine tp_v (v := .ref am) (by rw [hgk]; rfl) ?_
    refine lv_astore (lv' := [(4, .ref am), (0, .ref x), (1, .int (nI k)), (2, .int least), (3, .int most)]) hx hb d_P_fits_5 hl (by decide) rfl (fun ls hl => ?_)
    refine lv_aload hx hb d_P_fits_7 (lv_at hl 0 rfl) ?_
    refine get_M hC hw ham hem 1 (by decide) k_fl_P_53 rfl d_P_fits_9 ?_
    refine lv_iload_n hx hb d_P_fits_12 rfl (lv_at hl 3 rfl) ?_
    refine lv_icmp_ge (tgt := 18) hx hb d_P_fits_13 (by decide) (fun c1 => ?_) (fun c1 => ?_)
    · refine lv_iload_n hx hb d_P_fits_18 rfl (lv_at hl 4 rfl) ?_
      refine lv_iconst (v := (-1)) hx hb d_P_fits_19 (by decide) ?_
      refine lv_icmp_eq (tgt := 41) hx hb d_P_fits_20 (by decide) (fun c2 => ?_) (fun c2 => ?_)
      · refine lv_iconst (v := 1) hx hb d_P_fits_41 (by decide) ?_
        refine lv_goto (tgt := 46) hx hb d_P_fits_42 (by decide) ?_
        exact vx_ret (pg_zret hC.1 hw (by decide) (⟨k, hkn, rfl, by unfold fitV; rw [if_pos ⟨c1, Or.inl c2⟩], rfl⟩) d_P_fits_46)
      · refine lv_aload hx hb d_P_fits_23 (lv_at hl 0 rfl) ?_
        refine get_M hC hw ham hem 0 (by decide) k_fl_P_66 rfl d_P_fits_25 ?_
        refine lv_iconst (v := (-1)) hx hb d_P_fits_28 (by decide) ?_
        refine lv_icmp_eq (tgt := 45) hx hb d_P_fits_29 (by decide) (fun c3 => ?_) (fun c3 => ?_)
        · refine lv_iconst (v := 0) hx hb d_P_fits_45 (by decide) ?_
          exact vx_ret (pg_zret hC.1 hw (by decide) (⟨k, hkn, rfl, by unfold fitV; rw [if_neg (fun h => h.2.elim c2 (fun q => q.1 c3))], rfl⟩) d_P_fits_46)
        · refine lv_aload hx hb d_P_fits_32 (lv_at hl 0 rfl) ?_
          refine get_M hC hw ham hem 0 (by decide) k_fl_P_66 rfl d_P_fits_34 ?_
          refine lv_iload_n hx hb d_P_fits_37 rfl (lv_at hl 4 rfl) ?_
          refine lv_icmp_gt (tgt := 45) hx hb d_P_fits_38 (by decide) (fun c4 => ?_) (fun c4 => ?_)
          · refine lv_iconst (v := 0) hx hb d_P_fits_45 (by decide) ?_
            exact vx_ret (pg_zret hC.1 hw (by decide) (⟨k, hkn, rfl, by unfold fitV; rw [if_neg (fun h => h.2.elim c2 (fun q => Int32.not_lt.mpr q.2 c4))], rfl⟩) d_P_fits_46)
          · refine lv_iconst (v := 1) hx hb d_P_fits_41 (by decide) ?_
            refine lv_goto (tgt := 46) hx hb d_P_fits_42 (by decide) ?_
            exact vx_ret (pg_zret hC.1 hw (by decide) (⟨k, hkn, rfl, by unfold fitV; rw [if_pos ⟨c1, Or.inr ⟨c3, Int32.not_lt.mp c4⟩⟩], rfl⟩) d_P_fits_46)
    · refine lv_iconst (v := 0) hx hb d_P_fits_16 (by decide) ?_
      exact vx_ret (pg_zret hC.1 hw (by decide) (⟨k, hkn, rfl, by unfold fitV; rw [if_neg (fun h => c1 h.1)], rfl⟩) d_P_fits_17)
set_option maxHeartbeats 4000000 in
set_option maxRecDepth 100000 in
theorem c_P_sum (l : Launch) (hst : l.stackTraces = false) (D : va_G) (kc : Nat → ClassId) (L : List Nat) (f : Nat → va_E) (sz : Nat) (x ms cp : Nat) (gm : Nat → Option Nat) (hc : Nat → Int32) (tg : Nat → Nat × Nat) (nm : Nat) (mo : Nat → Int32) (om : Nat → Nat) (al : Nat) (bs : Nat → Nat → Nat) (hg : rootG kc L f tg x ms cp gm hc nm mo om al bs) (hs : stOK nm mo om al bs) (mm fr cn : Int32) : vx_Met l y_P_sum w_P_sum ({ frames := 7, cells := 3, slots := 18, locals := 105 }) (PP D kc L f sz [.ref x, .int mm, .int fr, .int cn]) (Qi D L f sz (fun r u => ∃ k, k < nm ∧ mm = nI k ∧ ∃ nb, nb ≤ 65536 ∧ cn = nI nb ∧ ((nb = 0 ∧ r = 0) ∨ (0 < nb ∧ ∃ P, fr = nI P ∧ P + nb ≤ 65536 * cnt om al k ∧ r = wsum (bs k) P (nI nb) nb)) ∧ u = (L, f))) (XX D L f sz (fun E u => ((E = eIAE ∧ ¬ ((∃ k, k < nm ∧ mm = nI k) ∧ ¬ cn < 0 ∧ cn ≤ 65536)) ∨ (E = eIOB ∧ ∃ k, k < nm ∧ mm = nI k ∧ ∃ nb, nb ≤ 65536 ∧ cn = nI nb ∧ 0 < nb ∧ ¬ (∃ P, fr = nI P ∧ P + nb ≤ 65536 * cnt om al k))) ∧ u = (L, f))) 3 18 (pA L f sz) := by
  refine kx_metX (by decide) (Nat.le_of_ble_eq_true rfl) ?_
  intro p e s m below meth c hC hex hw hsz ls hl
  subst hsz
  have hl : lv_has ls 5 [(0, .ref x), (1, .int mm), (2, .int fr), (3, .int cn)] := hl
  obtain ⟨⟨⟨hx, hb, hml, hown, hts⟩, hret9, hlocks⟩, hK, hE, hA⟩ := id hC
  obtain ⟨⟨⟨hxL, htx, hfx⟩, ⟨hmsL, htms, hfms⟩, ⟨hcpL, htcp, hfcp⟩⟩, hgn, hgk9⟩ := id hg
  obtain ⟨hs1, hs2, hs3, hs4, hs5, hs6⟩ := id hs
  refine lv_aload_n hx hb d_P_sum_0 rfl (lv_at hl 0 rfl) ?_
  refine lv_iload_n hx hb d_P_sum_1 rfl (lv_at hl 1 rfl) ?_
  refine callXVq (As := [.int mm]) (n9 := 1) hC hw (c_memoryOf l hst D kc _ _ _ x ms cp (nI nm) (nI al) gm hxL hfx hmsL hfms mm) k_co_P_memoryOf k_ml_P_49 k_im_P_memoryOf k_se_P_memoryOf k_in_P rfl rfl (by decide +kernel) rfl ⟨Nat.le_of_ble_eq_true rfl, Nat.le_of_ble_eq_true rfl⟩ hxL hfx rfl hl.1 rfl (Nat.le_of_ble_eq_true rfl) d_P_sum_2 ⟨Nat.le_of_ble_eq_true rfl, Nat.le_of_ble_eq_true rfl⟩ (fun E ce q9 u H locs ho hw h1 h2 h3 => ?_) (fun o u H locs hp hw => ?_)
  · obtain ⟨rfl, ho, rfl⟩ := ho
    have hno := root_not hg hs1 ho
    exact pg_out hex hlocks hw h1 h2 h3 (⟨Or.inl ⟨rfl, fun h => hno h.1⟩, rfl⟩) (by omega) (by omega)
  · obtain ⟨k, hk24, rfl, rfl, hne, rfl⟩ := hp
    have hkn : k < nm := root_iff hg hk24 hne
    obtain ⟨am, ra, N, g, hgk, hm, hNof⟩ := hgk9 k hkn
    obtain ⟨⟨ham, hta, hem⟩, ⟨hra, htr, her⟩, hN, hbs, hrow⟩ := id hm
    obtain ⟨hpN, hp16⟩ := Nof_le hs hkn hNof
    refine tp_v (v := .ref am) (by rw [hgk]; rfl) ?_
    refine lv_astore (lv' := [(4, .ref am), (0, .ref x), (1, .int (nI k)), (2, .int fr), (3, .int cn)]) hx hb d_P_sum_5 hl (by decide) rfl (fun ls hl => ?_)
    refine lv_iload_n hx hb d_P_sum_7 rfl (lv_at hl 4 rfl) ?_
    refine lv_ldc (v := 65536) hx hb hown (hts _ (gg_mem k_cn_P_26)) d_P_sum_8 ?_
    refine callXSv (As := [.int cn, .int 65536]) (n9 := 2) hC hw (c_checkCount l hst D kc _ _ _ cn 65536) k_co_P_checkCount k_ml_P_104 k_sm_P_checkCount k_in_P rfl rfl (by decide +kernel) rfl ⟨Nat.le_of_ble_eq_true rfl, Nat.le_of_ble_eq_true rfl⟩ hl.1 rfl (Nat.le_of_ble_eq_true rfl) d_P_sum_10 ⟨Nat.le_of_ble_eq_true rfl, Nat.le_of_ble_eq_true rfl⟩ (fun E ce q9 u H locs ho hw h1 h2 h3 => ?_) (fun u H locs hp hw => ?_)
    · obtain ⟨rfl, ho, rfl⟩ := ho
      exact pg_out hex hlocks hw h1 h2 h3 (⟨Or.inl ⟨rfl, fun h => ho h.2⟩, rfl⟩) (by omega) (by omega)
    · obtain ⟨⟨hc1, hc2⟩, rfl⟩ := hp
      obtain ⟨nb, hnb, rfl⟩ : ∃ j, j ≤ 65536 ∧ cn = nI j := nI_of2 (M := 65536) (n := 65536) (by decide) hc1 hc2
      refine lv_iload_n hx hb d_P_sum_13 rfl (lv_at hl 4 rfl) ?_
      refine lv_if_ne (tgt := 19) hx hb d_P_sum_14 (by decide) (fun c1 => ?_) (fun c1 => ?_)
      · have hnz : 0 < nb := by
          rcases Nat.eq_zero_or_pos nb with q | q
          · exact absurd (by rw [q]; rfl) c1
          · exact q
        refine lv_aload hx hb d_P_sum_19 (lv_at hl 0 rfl) ?_
        refine lv_iload_n hx hb d_P_sum_21 rfl (lv_at hl 3 rfl) ?_
        refine lv_i2l hx hb d_P_sum_22 rfl ?_
        refine lv_iload_n hx hb d_P_sum_23 rfl (lv_at hl 4 rfl) ?_
        refine callXSv (As := [.ref am, .long fr.toInt64, .int (nI nb)]) (n9 := 3) hC hw (c_checkThere l hst D kc _ _ _ am ham (mo k) (cnt om al k) ra (by omega) hem fr.toInt64 (nI nb)) k_co_P_checkThere k_ml_P_107 k_sm_P_checkThere k_in_P rfl rfl (by decide +kernel) rfl ⟨Nat.le_of_ble_eq_true rfl, Nat.le_of_ble_eq_true rfl⟩ hl.1 rfl (Nat.le_of_ble_eq_true rfl) d_P_sum_24 ⟨Nat.le_of_ble_eq_true rfl, Nat.le_of_ble_eq_true rfl⟩ (fun E ce q9 u H locs ho hw h1 h2 h3 => ?_) (fun u H locs hp hw => ?_)
        · obtain ⟨rfl, ho, rfl⟩ := ho
          refine pg_out hex hlocks hw h1 h2 h3 (⟨Or.inr ⟨rfl, k, hkn, rfl, nb, hnb, rfl, hnz, fun h => ho ?_⟩, rfl⟩) (by omega) (by omega)
          obtain ⟨P, rfl, hP⟩ := h
          rw [nI_toI64 P (by omega), nI_toI64 nb (by omega)]
          exact ⟨lN_nlt0 (by omega), by rw [lN_add, pk_lLE (by omega) (by omega)]; omega⟩
        · obtain ⟨⟨hq1, hq2⟩, rfl⟩ := hp
          obtain ⟨P, hP31, rfl⟩ : ∃ P, P < 2 ^ 31 ∧ fr = nI P := by
            refine nI_of (fun h => hq1 ?_)
            have h2 : fr.toInt < (0 : Int32).toInt := Int32.lt_iff_toInt_lt.mp h
            rw [Int64.lt_iff_toInt_lt, Int32.toInt_toInt64]
            exact h2
          rw [nI_toI64 P hP31, nI_toI64 nb (by omega), lN_add, pk_lLE (by omega) (by omega)] at hq2
          refine lv_aload hx hb d_P_sum_27 (lv_at hl 0 rfl) ?_
          refine lv_iload_n hx hb d_P_sum_29 rfl (lv_at hl 3 rfl) ?_
          refine lv_iload_n hx hb d_P_sum_30 rfl (lv_at hl 4 rfl) ?_
          refine callVi (As := [.int (nI P), .int (nI nb)]) (n9 := 2) hC hw (c_M_weighedSum l D kc _ _ _ tg k am ra (mo k) (cnt om al k) N g (bs k) hm P nb (by omega) ⟨hnz, hnb⟩) k_co_M_weighedSum k_ml_P_118 k_im_M_weighedSum k_se_M_weighedSum k_in_M rfl rfl (by decide +kernel) rfl ⟨Nat.le_of_ble_eq_true rfl, Nat.le_of_ble_eq_true rfl⟩ ham hem rfl hl.1 rfl (Nat.le_of_ble_eq_true rfl) d_P_sum_31 ⟨Nat.le_of_ble_eq_true rfl, Nat.le_of_ble_eq_true rfl⟩ (fun r9 u H locs hp hw => ?_)
          obtain ⟨rfl, rfl⟩ := hp
          exact vx_ret (pg_iret hC.1 hw (⟨k, hkn, rfl, nb, hnb, rfl, Or.inr ⟨hnz, P, rfl, by omega, rfl⟩, rfl⟩) d_P_sum_34)
      · refine lv_iconst (v := 0) hx hb d_P_sum_17 (by decide) ?_
        have hz : nb = 0 := nI_inj hnb (by decide) c1
        subst hz
        refine W.widen (k := 3) (n := 18) (by omega) (by omega) ?_
        exact vx_ret (pg_iret hC.1 hw (⟨k, hkn, rfl, 0, by decide, rfl, Or.inl ⟨rfl, rfl⟩, rfl⟩) d_P_sum_18)
end
section
/-! PagedBytes: load, store -/
def szL : Nat → Nat := fun j => [4, 8, 4, 8, 1, 1, 2, 2, 1, 1, 2, 2, 4, 4].getD j 0
def szS : Nat → Nat := fun j => [4, 8, 4, 8, 1, 2, 1, 2, 4].getD j 0
theorem szL_ok : ∀ kd, kd < 14 → tLB kd = nI (szL kd) ∧ 1 ≤ szL kd ∧ szL kd ≤ 8 := by decide +kernel
theorem szS_ok : ∀ kd, kd < 9 → tSB kd = nI (szS kd) ∧ 1 ≤ szS kd ∧ szS kd ≤ 8 := by decide +kernel
theorem kd_of {op : Int32} (a c : Nat) (hac : a + c < 2 ^ 30) (h1 : ¬ op < nI a) (h2 : op < nI a + nI c) : ∃ kd, kd < c ∧ op = nI (a + kd) ∧ op - nI a = nI kd := by
  have h0 : ¬ op < 0 := fun q => h1 (Int32.lt_of_lt_of_le q (nI_pos' (by omega)))
  obtain ⟨j, hj, rfl⟩ := nI_of h0
  rw [nI_ltI hj (by omega)] at h1
  rw [nI_add, nI_ltI hj (by omega)] at h2
  exact ⟨j - a, by omega, by rw [show a + (j - a) = j by omega], pk_sub (by omega)⟩
theorem kd_no {op : Int32} (a c : Nat) (hac : a + c < 2 ^ 30) (h : ¬ (¬ op < nI a ∧ op < nI a + nI c)) : ¬ (∃ kd, kd < c ∧ op = nI (a + kd)) := by
  rintro ⟨kd, h1, rfl⟩
  exact h ⟨nI_nlt (by omega) (by omega), by rw [nI_add]; exact nI_lt (by omega) (by omega)⟩
def sgnV (v : Int64) (nb : Nat) : Int64 := (v <<< ((8 * (8 - nI nb)).toInt64 &&& 63)) >>> ((8 * (8 - nI nb)).toInt64 &&& 63)
/-- what is loaded, out of the bytes -/
def loadV (kd : Nat) (v : Int64) : Int64 := if tLT kd = 4 then (if tLS kd = 1 then sgnV v (szL kd) else v) &&& 4294967295 else (if tLS kd = 1 then sgnV v (szL kd) else v)
set_option maxHeartbeats 4000000 in
set_option maxRecDepth 100000 in
theorem c_P_load (l : Launch) (hst : l.stackTraces = false) (D : va_G) (kc : Nat → ClassId) (L : List Nat) (f : Nat → va_E) (sz : Nat) (x ms cp : Nat) (gm : Nat → Option Nat) (hc : Nat → Int32) (tg : Nat → Nat × Nat) (nm : Nat) (mo : Nat → Int32) (om : Nat → Nat) (al : Nat) (bs : Nat → Nat → Nat) (hg : rootG kc L f tg x ms cp gm hc nm mo om al bs) (hs : stOK nm mo om al bs) (mm op ad of : Int32) : vx_Met l y_P_load w_P_load ({ frames := 8, cells := 3, slots := 18, locals := 130 }) (PP D kc L f sz [.ref x, .int mm, .int op, .int ad, .int of]) (Ql D L f sz (fun r u => ∃ k, k < nm ∧ mm = nI k ∧ ∃ kd, kd < 14 ∧ op = nI (40 + kd) ∧ uI ad + uI of + szL kd ≤ 65536 * cnt om al k ∧ r = loadV kd (lN (leN (bs k) (uI ad + uI of) (szL kd))) ∧ u = (L, f))) (XX D L f sz (fun E u => ((E = eIAE ∧ ¬ ((∃ k, k < nm ∧ mm = nI k) ∧ ∃ kd, kd < 14 ∧ op = nI (40 + kd))) ∨ (E = eIOB ∧ ∃ k, k < nm ∧ mm = nI k ∧ ∃ kd, kd < 14 ∧ op = nI (40 + kd) ∧ ¬ (uI ad + uI of + szL kd ≤ 65536 * cnt om al k))) ∧ u = (L, f))) 3 18 (pA L f sz) := by
  refine kx_metX (by decide) (Nat.le_of_ble_eq_true rfl) ?_
  intro p e s m below meth c hC hex hw hsz ls hl
  subst hsz
  have hl : lv_has ls 11 [(0, .ref x), (1, .int mm), (2, .int op), (3, .int ad), (4, .int of)] := hl
  obtain ⟨⟨⟨hx, hb, hml, hown, hts⟩, hret9, hlocks⟩, hK, hE, hA⟩ := id hC
  obtain ⟨⟨⟨hxL, htx, hfx⟩, ⟨hmsL, htms, hfms⟩, ⟨hcpL, htcp, hfcp⟩⟩, hgn, hgk9⟩ := id hg
  obtain ⟨hs1, hs2, hs3, hs4, hs5, hs6⟩ := id hs
  obtain ⟨-, -, -, -, -, -, -, ⟨tb, hZb, hTb⟩, ⟨ts, hZs, hTs⟩, ⟨tt, hZt, hTt⟩, ⟨t4, hZ4, hT4⟩⟩ := id hE
  refine lv_aload_n hx hb d_P_load_0 rfl (lv_at hl 0 rfl) ?_
  refine lv_iload_n hx hb d_P_load_1 rfl (lv_at hl 1 rfl) ?_
  refine callXVq (As := [.int mm]) (n9 := 1) hC hw (c_memoryOf l hst D kc _ _ _ x ms cp (nI nm) (nI al) gm hxL hfx hmsL hfms mm) k_co_P_memoryOf k_ml_P_49 k_im_P_memoryOf k_se_P_memoryOf k_in_P rfl rfl (by decide +kernel) rfl ⟨Nat.le_of_ble_eq_true rfl, Nat.le_of_ble_eq_true rfl⟩ hxL hfx rfl hl.1 rfl (Nat.le_of_ble_eq_true rfl) d_P_load_2 ⟨Nat.le_of_ble_eq_true rfl, Nat.le_of_ble_eq_true rfl⟩ (fun E ce q9 u H locs ho hw h1 h2 h3 => ?_) (fun o u H locs hp hw => ?_)
  · obtain ⟨rfl, ho, rfl⟩ := ho
    have hno := root_not hg hs1 ho
    exact pg_out hex hlocks hw h1 h2 h3 (⟨Or.inl ⟨rfl, fun h => hno h.1⟩, rfl⟩) (by omega) (by omega)
  · obtain ⟨k, hk24, rfl, rfl, hne, rfl⟩ := hp
    have hkn : k < nm := root_iff hg hk24 hne
    obtain ⟨am, ra, N, g, hgk, hm, hNof⟩ := hgk9 k hkn
    obtain ⟨⟨ham, hta, hem⟩, ⟨hra, htr, her⟩, hN, hbs, hrow⟩ := id hm
    obtain ⟨hpN, hp16⟩ := Nof_le hs hkn hNof
    refine tp_v (v := .ref am) (by rw [hgk]; rfl) ?_
    refine lv_astore (lv' := [(5, .ref am), (0, .ref x), (1, .int (nI k)), (2, .int op), (3, .int ad), (4, .int of)]) hx hb d_P_load_5 hl (by decide) rfl (fun ls hl => ?_)
    refine lv_iload_n hx hb d_P_load_7 rfl (lv_at hl 3 rfl) ?_
    refine lv_bipush (v := 40) hx hb d_P_load_8 (by decide) ?_
    refine va_gets hx hb hZb hw.2.2 hown (hts _ (gg_mem k_fl_P_69)) (fun _ h => h) d_P_load_10 ?_
    refine va_tlen hx hb hTb hw.2.2 (v := nI 14) rfl d_P_load_13 ?_
    refine callXSi (As := [.int op, .int 40, .int (nI 14)]) (n9 := 3) hC hw (c_kindOf l hst D kc _ _ _ op 40 (nI 14)) k_co_P_kindOf k_ml_P_73 k_sm_P_kindOf k_in_P rfl rfl (by decide +kernel) rfl ⟨Nat.le_of_ble_eq_true rfl, Nat.le_of_ble_eq_true rfl⟩ hl.1 rfl (Nat.le_of_ble_eq_true rfl) d_P_load_14 ⟨Nat.le_of_ble_eq_true rfl, Nat.le_of_ble_eq_true rfl⟩ (fun E ce q9 u H locs ho hw h1 h2 h3 => ?_) (fun r9 u H locs hp hw => ?_)
    · obtain ⟨rfl, ho, rfl⟩ := ho
      exact pg_out hex hlocks hw h1 h2 h3 (⟨Or.inl ⟨rfl, fun h => kd_no 40 14 (by decide) ho h.2⟩, rfl⟩) (by omega) (by omega)
    · obtain ⟨rfl, ⟨ho1, ho2⟩, rfl⟩ := hp
      obtain ⟨kd, hkd, hop, hopk⟩ := kd_of 40 14 (by decide) ho1 ho2
      obtain ⟨hz1, hz2, hz3⟩ := szL_ok kd hkd
      subst hop
      refine tp_i (v := nI kd) (hopk) ?_
      refine lv_istore (lv' := [(6, .int (nI kd)), (5, .ref am), (0, .ref x), (1, .int (nI k)), (2, .int (nI (40 + kd))), (3, .int ad), (4, .int of)]) hx hb d_P_load_17 hl (by decide) rfl (fun ls hl => ?_)
      refine va_gets hx hb hZb hw.2.2 hown (hts _ (gg_mem k_fl_P_69)) (fun _ h => h) d_P_load_19 ?_
      refine lv_iload hx hb d_P_load_22 (lv_at hl 0 rfl) ?_
      refine va_ti hx hb hTb hw.2.2 (v := .int (tLB kd)) (vp_in_nI (hkd) (by decide)) (by rw [nI_clamp (by omega)]) d_P_load_24 ?_
      refine tp_i (v := nI (szL kd)) (hz1) ?_
      refine lv_istore (lv' := [(7, .int (nI (szL kd))), (6, .int (nI kd)), (5, .ref am), (0, .ref x), (1, .int (nI k)), (2, .int (nI (40 + kd))), (3, .int ad), (4, .int of)]) hx hb d_P_load_25 hl (by decide) rfl (fun ls hl => ?_)
      refine lv_aload hx hb d_P_load_27 (lv_at hl 2 rfl) ?_
      refine lv_iload_n hx hb d_P_load_29 rfl (lv_at hl 6 rfl) ?_
      refine lv_iload hx hb d_P_load_30 (lv_at hl 7 rfl) ?_
      refine lv_iload hx hb d_P_load_32 (lv_at hl 0 rfl) ?_
      refine callXSi (As := [.ref am, .int ad, .int of, .int (nI (szL kd))]) (n9 := 4) hC hw (c_placeOf l hst D kc _ _ _ am ham (mo k) (cnt om al k) ra (by omega) hem ad of (szL kd) hz3) k_co_P_placeOf k_ml_P_77 k_sm_P_placeOf k_in_P rfl rfl (by decide +kernel) rfl ⟨Nat.le_of_ble_eq_true rfl, Nat.le_of_ble_eq_true rfl⟩ hl.1 rfl (Nat.le_of_ble_eq_true rfl) d_P_load_34 ⟨Nat.le_of_ble_eq_true rfl, Nat.le_of_ble_eq_true rfl⟩ (fun E ce q9 u H locs ho hw h1 h2 h3 => ?_) (fun r9 u H locs hp hw => ?_)
      · obtain ⟨rfl, ho, rfl⟩ := ho
        exact pg_out hex hlocks hw h1 h2 h3 (⟨Or.inr ⟨rfl, k, hkn, rfl, kd, hkd, rfl, by rw [Nat.mul_comm]; exact ho⟩, rfl⟩) (by omega) (by omega)
      · obtain ⟨rfl, hpl, rfl⟩ := hp
        refine lv_istore (lv' := [(8, .int (nI (uI ad + uI of))), (7, .int (nI (szL kd))), (6, .int (nI kd)), (5, .ref am), (0, .ref x), (1, .int (nI k)), (2, .int (nI (40 + kd))), (3, .int ad), (4, .int of)]) hx hb d_P_load_37 hl (by decide) rfl (fun ls hl => ?_)
        refine lv_aload hx hb d_P_load_39 (lv_at hl 3 rfl) ?_
        refine lv_iload hx hb d_P_load_41 (lv_at hl 0 rfl) ?_
        refine lv_iload hx hb d_P_load_43 (lv_at hl 1 rfl) ?_
        refine callVl (As := [.int (nI (uI ad + uI of)), .int (nI (szL kd))]) (n9 := 2) hC hw (c_M_numberAt l D kc _ _ _ tg k am ra (mo k) (cnt om al k) N g (bs k) hm (uI ad + uI of) (szL kd) (by omega) hz3) k_co_M_numberAt k_ml_P_81 k_im_M_numberAt k_se_M_numberAt k_in_M rfl rfl (by decide +kernel) rfl ⟨Nat.le_of_ble_eq_true rfl, Nat.le_of_ble_eq_true rfl⟩ ham hem rfl hl.1 rfl (Nat.le_of_ble_eq_true rfl) d_P_load_45 ⟨Nat.le_of_ble_eq_true rfl, Nat.le_of_ble_eq_true rfl⟩ (fun r9 u H locs hp hw => ?_)
        obtain ⟨rfl, rfl⟩ := hp
        refine lv_lstore (lv' := [(9, .long (lN (leN (bs k) (uI ad + uI of) (szL kd)))), (8, .int (nI (uI ad + uI of))), (7, .int (nI (szL kd))), (6, .int (nI kd)), (5, .ref am), (0, .ref x), (1, .int (nI k)), (2, .int (nI (40 + kd))), (3, .int ad), (4, .int of)]) hx hb d_P_load_48 hl (by decide) rfl (fun ls hl => ?_)
        refine va_gets hx hb hZs hw.2.2 hown (hts _ (gg_mem k_fl_P_85)) (fun _ h => h) d_P_load_50 ?_
        refine lv_iload hx hb d_P_load_53 (lv_at hl 3 rfl) ?_
        refine va_ti hx hb hTs hw.2.2 (v := .int (tLS kd)) (vp_in_nI (hkd) (by decide)) (by rw [nI_clamp (by omega)]) d_P_load_55 ?_
        refine lv_iconst (v := 1) hx hb d_P_load_56 (by decide) ?_
        refine lv_icmp_ne (tgt := 69) hx hb d_P_load_57 (by decide) (fun c1 => ?_) (fun c1 => ?_)
        · refine va_gets hx hb hZt hw.2.2 hown (hts _ (gg_mem k_fl_P_92)) (fun _ h => h) d_P_load_69 ?_
          refine lv_iload hx hb d_P_load_72 (lv_at hl 3 rfl) ?_
          refine va_ti hx hb hTt hw.2.2 (v := .int (tLT kd)) (vp_in_nI (hkd) (by decide)) (by rw [nI_clamp (by omega)]) d_P_load_74 ?_
          refine lv_iconst (v := 4) hx hb d_P_load_75 (by decide) ?_
          refine lv_icmp_ne (tgt := 88) hx hb d_P_load_76 (by decide) (fun c2 => ?_) (fun c2 => ?_)
          · refine lv_lload hx hb d_P_load_88 (lv_at hl 0 rfl) ?_
            exact vx_ret (pg_lret hC.1 hw (⟨k, hkn, rfl, kd, hkd, rfl, by rw [Nat.mul_comm]; exact hpl, by unfold loadV; rw [if_neg c2, if_neg c1], rfl⟩) d_P_load_90)
          · refine lv_lload hx hb d_P_load_79 (lv_at hl 0 rfl) ?_
            refine lv_ldc2 (v := 4294967295) hx hb hown (hts _ (gg_mem k_cn_P_95)) d_P_load_81 ?_
            refine lv_land hx hb d_P_load_84 ?_
            refine lv_goto (tgt := 90) hx hb d_P_load_85 (by decide) ?_
            exact vx_ret (pg_lret hC.1 hw (⟨k, hkn, rfl, kd, hkd, rfl, by rw [Nat.mul_comm]; exact hpl, by unfold loadV; rw [if_pos c2, if_neg c1], rfl⟩) d_P_load_90)
        · refine lv_lload hx hb d_P_load_60 (lv_at hl 0 rfl) ?_
          refine lv_iload hx hb d_P_load_62 (lv_at hl 2 rfl) ?_
          refine callSl (As := [.long (lN (leN (bs k) (uI ad + uI of) (szL kd))), .int (nI (szL kd))]) (n9 := 2) hC hw (c_withSign l D kc _ _ _ (lN (leN (bs k) (uI ad + uI of) (szL kd))) (nI (szL kd))) k_co_P_withSign k_ml_P_88 k_sm_P_withSign k_in_P rfl rfl (by decide +kernel) rfl ⟨Nat.le_of_ble_eq_true rfl, Nat.le_of_ble_eq_true rfl⟩ hl.1 rfl (Nat.le_of_ble_eq_true rfl) d_P_load_64 ⟨Nat.le_of_ble_eq_true rfl, Nat.le_of_ble_eq_true rfl⟩ (fun r9 u H locs hp hw => ?_)
          obtain ⟨rfl, rfl⟩ := hp
          refine lv_lstore (lv' := [(9, .long ((lN (leN (bs k) (uI ad + uI of) (szL kd)) <<< ((8 * (8 - nI (szL kd))).toInt64 &&& 63)) >>> ((8 * (8 - nI (szL kd))).toInt64 &&& 63))), (8, .int (nI (uI ad + uI of))), (7, .int (nI (szL kd))), (6, .int (nI kd)), (5, .ref am), (0, .ref x), (1, .int (nI k)), (2, .int (nI (40 + kd))), (3, .int ad), (4, .int of)]) hx hb d_P_load_67 hl (by decide) rfl (fun ls hl => ?_)
          refine va_gets hx hb hZt hw.2.2 hown (hts _ (gg_mem k_fl_P_92)) (fun _ h => h) d_P_load_69 ?_
          refine lv_iload hx hb d_P_load_72 (lv_at hl 3 rfl) ?_
          refine va_ti hx hb hTt hw.2.2 (v := .int (tLT kd)) (vp_in_nI (hkd) (by decide)) (by rw [nI_clamp (by omega)]) d_P_load_74 ?_
          refine lv_iconst (v := 4) hx hb d_P_load_75 (by decide) ?_
          refine lv_icmp_ne (tgt := 88) hx hb d_P_load_76 (by decide) (fun c2 => ?_) (fun c2 => ?_)
          · refine lv_lload hx hb d_P_load_88 (lv_at hl 0 rfl) ?_
            exact vx_ret (pg_lret hC.1 hw (⟨k, hkn, rfl, kd, hkd, rfl, by rw [Nat.mul_comm]; exact hpl, by unfold loadV; rw [if_neg c2, if_pos c1]; rfl, rfl⟩) d_P_load_90)
          · refine lv_lload hx hb d_P_load_79 (lv_at hl 0 rfl) ?_
            refine lv_ldc2 (v := 4294967295) hx hb hown (hts _ (gg_mem k_cn_P_95)) d_P_load_81 ?_
            refine lv_land hx hb d_P_load_84 ?_
            refine lv_goto (tgt := 90) hx hb d_P_load_85 (by decide) ?_
            exact vx_ret (pg_lret hC.1 hw (⟨k, hkn, rfl, kd, hkd, rfl, by rw [Nat.mul_comm]; exact hpl, by unfold loadV; rw [if_pos c2, if_pos c1]; rfl, rfl⟩) d_P_load_90)
set_option maxHeartbeats 4000000 in
set_option maxRecDepth 100000 in
theorem c_P_store (l : Launch) (hst : l.stackTraces = false) (D : va_G) (kc : Nat → ClassId) (L : List Nat) (f : Nat → va_E) (sz : Nat) (x ms cp : Nat) (gm : Nat → Option Nat) (hc : Nat → Int32) (tg : Nat → Nat × Nat) (nm : Nat) (mo : Nat → Int32) (om : Nat → Nat) (al : Nat) (bs : Nat → Nat → Nat) (hg : rootG kc L f tg x ms cp gm hc nm mo om al bs) (hs : stOK nm mo om al bs) (mm op ad of : Int32) (vl : Int64) : vx_Met l y_P_store w_P_store ({ frames := 8, cells := 7, slots := 2068, locals := 130 }) (PP D kc L f sz [.ref x, .int mm, .int op, .int ad, .int of, .long vl]) (Qv D L f sz (fun u => ∃ k, k < nm ∧ mm = nI k ∧ ∃ kd, kd < 9 ∧ op = nI (54 + kd) ∧ uI ad + uI of + szS kd ≤ 65536 * cnt om al k ∧ ∃ tg', rootP kc u.1 u.2 tg' x nm mo om al (va_up bs k (putN (bs k) (uI ad + uI of) (uL vl) (szS kd))) ∧ Ext SC L f tg u tg')) (XX D L f sz (fun E u => ((E = eIAE ∧ ¬ ((∃ k, k < nm ∧ mm = nI k) ∧ ∃ kd, kd < 9 ∧ op = nI (54 + kd))) ∨ (E = eIOB ∧ ∃ k, k < nm ∧ mm = nI k ∧ ∃ kd, kd < 9 ∧ op = nI (54 + kd) ∧ ¬ (uI ad + uI of + szS kd ≤ 65536 * cnt om al k))) ∧ u = (L, f))) 7 2068 (pA L f sz) := by
  refine kx_metX (by decide) (Nat.le_of_ble_eq_true rfl) ?_
  intro p e s m below meth c hC hex hw hsz ls hl
  subst hsz
  have hl : lv_has ls 10 [(0, .ref x), (1, .int mm), (2, .int op), (3, .int ad), (4, .int of), (5, .long vl)] := hl
  obtain ⟨⟨⟨hx, hb, hml, hown, hts⟩, hret9, hlocks⟩, hK, hE, hA⟩ := id hC
  obtain ⟨⟨⟨hxL, htx, hfx⟩, ⟨hmsL, htms, hfms⟩, ⟨hcpL, htcp, hfcp⟩⟩, hgn, hgk9⟩ := id hg
  obtain ⟨hs1, hs2, hs3, hs4, hs5, hs6⟩ := id hs
  obtain ⟨-, -, -, -, -, -, -, ⟨tb, hZb, hTb⟩, ⟨ts, hZs, hTs⟩, ⟨tt, hZt, hTt⟩, ⟨t4, hZ4, hT4⟩⟩ := id hE
  refine lv_aload_n hx hb d_P_store_0 rfl (lv_at hl 0 rfl) ?_
  refine lv_iload_n hx hb d_P_store_1 rfl (lv_at hl 1 rfl) ?_
  refine callXVq (As := [.int mm]) (n9 := 1) hC hw (c_memoryOf l hst D kc _ _ _ x ms cp (nI nm) (nI al) gm hxL hfx hmsL hfms mm) k_co_P_memoryOf k_ml_P_49 k_im_P_memoryOf k_se_P_memoryOf k_in_P rfl rfl (by decide +kernel) rfl ⟨Nat.le_of_ble_eq_true rfl, Nat.le_of_ble_eq_true rfl⟩ hxL hfx rfl hl.1 rfl (Nat.le_of_ble_eq_true rfl) d_P_store_2 ⟨Nat.le_of_ble_eq_true rfl, Nat.le_of_ble_eq_true rfl⟩ (fun E ce q9 u H locs ho hw h1 h2 h3 => ?_) (fun o u H locs hp hw => ?_)
  · obtain ⟨rfl, ho, rfl⟩ := ho
    have hno := root_not hg hs1 ho
    exact pg_out hex hlocks hw h1 h2 h3 (⟨Or.inl ⟨rfl, fun h => hno h.1⟩, rfl⟩) (by omega) (by omega)
  · obtain ⟨k, hk24, rfl, rfl, hne, rfl⟩ := hp
    have hkn : k < nm := root_iff hg hk24 hne
    obtain ⟨am, ra, N, g, hgk, hm, hNof⟩ := hgk9 k hkn
    obtain ⟨⟨ham, hta, hem⟩, ⟨hra, htr, her⟩, hN, hbs, hrow⟩ := id hm
    obtain ⟨hpN, hp16⟩ := Nof_le hs hkn hNof
    refine tp_v (v := .ref am) (by rw [hgk]; rfl) ?_
    refine lv_astore (lv' := [(7, .ref am), (0, .ref x), (1, .int (nI k)), (2, .int op), (3, .int ad), (4, .int of), (5, .long vl)]) hx hb d_P_store_5 hl (by decide) rfl (fun ls hl => ?_)
    refine va_gets hx hb hZ4 hw.2.2 hown (hts _ (gg_mem k_fl_P_97)) (fun _ h => h) d_P_store_7 ?_
    refine lv_iload_n hx hb d_P_store_10 rfl (lv_at hl 3 rfl) ?_
    refine lv_bipush (v := 54) hx hb d_P_store_11 (by decide) ?_
    refine va_gets hx hb hZ4 hw.2.2 hown (hts _ (gg_mem k_fl_P_97)) (fun _ h => h) d_P_store_13 ?_
    refine va_tlen hx hb hT4 hw.2.2 (v := nI 9) rfl d_P_store_16 ?_
    refine callXSi (As := [.int op, .int 54, .int (nI 9)]) (n9 := 3) hC hw (c_kindOf l hst D kc _ _ _ op 54 (nI 9)) k_co_P_kindOf k_ml_P_73 k_sm_P_kindOf k_in_P rfl rfl (by decide +kernel) rfl ⟨Nat.le_of_ble_eq_true rfl, Nat.le_of_ble_eq_true rfl⟩ hl.1 rfl (Nat.le_of_ble_eq_true rfl) d_P_store_17 ⟨Nat.le_of_ble_eq_true rfl, Nat.le_of_ble_eq_true rfl⟩ (fun E ce q9 u H locs ho hw h1 h2 h3 => ?_) (fun r9 u H locs hp hw => ?_)
    · obtain ⟨rfl, ho, rfl⟩ := ho
      exact pg_out hex hlocks hw h1 h2 h3 (⟨Or.inl ⟨rfl, fun h => kd_no 54 9 (by decide) ho h.2⟩, rfl⟩) (by omega) (by omega)
    · obtain ⟨rfl, ⟨ho1, ho2⟩, rfl⟩ := hp
      obtain ⟨kd, hkd, hop, hopk⟩ := kd_of 54 9 (by decide) ho1 ho2
      obtain ⟨hz1, hz2, hz3⟩ := szS_ok kd hkd
      subst hop
      refine tp_i (v := nI kd) (hopk) ?_
      refine va_ti hx hb hT4 hw.2.2 (v := .int (tSB kd)) (vp_in_nI (hkd) (by decide)) (by rw [nI_clamp (by omega)]) d_P_store_20 ?_
      refine tp_i (v := nI (szS kd)) (hz1) ?_
      refine lv_istore (lv' := [(8, .int (nI (szS kd))), (7, .ref am), (0, .ref x), (1, .int (nI k)), (2, .int (nI (54 + kd))), (3, .int ad), (4, .int of), (5, .long vl)]) hx hb d_P_store_21 hl (by decide) rfl (fun ls hl => ?_)
      refine lv_aload hx hb d_P_store_23 (lv_at hl 1 rfl) ?_
      refine lv_iload_n hx hb d_P_store_25 rfl (lv_at hl 5 rfl) ?_
      refine lv_iload hx hb d_P_store_26 (lv_at hl 6 rfl) ?_
      refine lv_iload hx hb d_P_store_28 (lv_at hl 0 rfl) ?_
      refine callXSi (As := [.ref am, .int ad, .int of, .int (nI (szS kd))]) (n9 := 4) hC hw (c_placeOf l hst D kc _ _ _ am ham (mo k) (cnt om al k) ra (by omega) hem ad of (szS kd) hz3) k_co_P_placeOf k_ml_P_77 k_sm_P_placeOf k_in_P rfl rfl (by decide +kernel) rfl ⟨Nat.le_of_ble_eq_true rfl, Nat.le_of_ble_eq_true rfl⟩ hl.1 rfl (Nat.le_of_ble_eq_true rfl) d_P_store_30 ⟨Nat.le_of_ble_eq_true rfl, Nat.le_of_ble_eq_true rfl⟩ (fun E ce q9 u H locs ho hw h1 h2 h3 => ?_) (fun r9 u H locs hp hw => ?_)
      · obtain ⟨rfl, ho, rfl⟩ := ho
        exact pg_out hex hlocks hw h1 h2 h3 (⟨Or.inr ⟨rfl, k, hkn, rfl, kd, hkd, rfl, by rw [Nat.mul_comm]; exact ho⟩, rfl⟩) (by omega) (by omega)
      · obtain ⟨rfl, hpl, rfl⟩ := hp
        refine lv_istore (lv' := [(9, .int (nI (uI ad + uI of))), (8, .int (nI (szS kd))), (7, .ref am), (0, .ref x), (1, .int (nI k)), (2, .int (nI (54 + kd))), (3, .int ad), (4, .int of), (5, .long vl)]) hx hb d_P_store_33 hl (by decide) rfl (fun ls hl => ?_)
        refine lv_aload hx hb d_P_store_35 (lv_at hl 2 rfl) ?_
        refine lv_iload hx hb d_P_store_37 (lv_at hl 0 rfl) ?_
        refine lv_iload hx hb d_P_store_39 (lv_at hl 1 rfl) ?_
        refine lv_lload hx hb d_P_store_41 (lv_at hl 8 rfl) ?_
        refine callVv (As := [.int (nI (uI ad + uI of)), .int (nI (szS kd)), .long vl]) (n9 := 3) hC hw (c_M_putNumber l D kc _ _ _ tg k am ra (mo k) (cnt om al k) N g (bs k) hm (uI ad + uI of) (szS kd) vl (by omega) hz3) k_co_M_putNumber k_ml_P_100 k_im_M_putNumber k_se_M_putNumber k_in_M rfl rfl (by decide +kernel) rfl ⟨Nat.le_of_ble_eq_true rfl, Nat.le_of_ble_eq_true rfl⟩ ham hem rfl hl.1 rfl (Nat.le_of_ble_eq_true rfl) d_P_store_43 ⟨Nat.le_of_ble_eq_true rfl, Nat.le_of_ble_eq_true rfl⟩ (fun u H locs hp hw => ?_)
        obtain ⟨tg2, g2, hm2, he2⟩ := hp
        obtain ⟨L2, f2⟩ := u
        dsimp only at hw hm2 he2
        have hr2 := root_mem hg hs1 hkn hgk hNof he2 hm2
        exact vx_ret (pg_vret hC.1 hw (⟨k, hkn, rfl, kd, hkd, rfl, by rw [Nat.mul_comm]; exact hpl, tg2, ⟨ms, cp, gm, hc, hr2⟩, he2.mono (fun i hi => Or.inl (by omega))⟩) d_P_store_46)
end
section
/-! PagedBytes: copy, grow, make, the constructor -/
theorem nI_uI (x : Int32) : nI (uI x) = x := by
  apply Int32.toBitVec_inj.1
  show BitVec.ofNat 32 x.toBitVec.toNat = x.toBitVec
  rw [BitVec.ofNat_toNat]
  exact BitVec.setWidth_eq x.toBitVec
theorem uI_nI {n : Nat} (h : n < 2 ^ 32) : uI (nI n) = n := pk_tn h
theorem i64_pos {x : Int32} (h : ¬ x.toInt64 < 0) : ∃ P, P < 2 ^ 31 ∧ x = nI P := by
  refine nI_of (fun q => h ?_)
  have h2 : x.toInt < (0 : Int32).toInt := Int32.lt_iff_toInt_lt.mp q
  rw [Int64.lt_iff_toInt_lt, Int32.toInt_toInt64]
  exact h2
def limP (mo : Int32) (lim : Nat) : Prop := (mo = -1 ∧ lim = 65536) ∨ (lim ≤ 65536 ∧ mo = nI lim)
theorem limP_of {n : Nat} {mo : Nat → Int32} {om : Nat → Nat} {al : Nat} {bs : Nat → Nat → Nat} (hs : stOK n mo om al bs) {k : Nat} (hk : k < n) : ∃ lim, limP (mo k) lim ∧ lim ≤ 65536 ∧ (if mo k = -1 then 65536 else mo k) = nI lim := by
  rcases hs.2.2.2.1 k hk with e | ⟨q, hq, e, -⟩
  · exact ⟨65536, Or.inl ⟨e, rfl⟩, Nat.le_refl _, by rw [if_pos e]; rfl⟩
  · exact ⟨q, Or.inr ⟨hq, e⟩, hq, by rw [e, if_neg (nI_nm1 hq)]⟩
theorem limP_un {mo : Int32} {a b : Nat} (ha : limP mo a) (hb : limP mo b) : a = b := by
  rcases ha with ⟨e, h⟩ | ⟨h, e⟩ <;> rcases hb with ⟨e2, h2⟩ | ⟨h2, e2⟩
  · omega
  · exact absurd (e2.symm.trans e) (nI_nm1 h2)
  · exact absurd (e.symm.trans e2) (nI_nm1 h)
  · exact nI_inj h h2 (e.symm.trans e2)
set_option maxHeartbeats 4000000 in
set_option maxRecDepth 100000 in
theorem c_P_copy (l : Launch) (hst : l.stackTraces = false) (D : va_G) (kc : Nat → ClassId) (L : List Nat) (f : Nat → va_E) (sz : Nat) (x ms cp : Nat) (gm : Nat → Option Nat) (hc : Nat → Int32) (tg : Nat → Nat × Nat) (nm : Nat) (mo : Nat → Int32) (om : Nat → Nat) (al : Nat) (bs : Nat → Nat → Nat) (hg : rootG kc L f tg x ms cp gm hc nm mo om al bs) (hs : stOK nm mo om al bs) (mm fr m2 to9 cn : Int32) : vx_Met l y_P_copy w_P_copy ({ frames := 7, cells := 15, slots := 5155, locals := 105 }) (PP D kc L f sz [.ref x, .int mm, .int fr, .int m2, .int to9, .int cn]) (Qv D L f sz (fun u => ∃ k1, k1 < nm ∧ mm = nI k1 ∧ ∃ k2, k2 < nm ∧ m2 = nI k2 ∧ ∃ nb, nb ≤ 4096 ∧ cn = nI nb ∧ ((nb = 0 ∧ u = (L, f)) ∨ (0 < nb ∧ ∃ P, fr = nI P ∧ P + nb ≤ 65536 * cnt om al k1 ∧ ∃ P2, to9 = nI P2 ∧ P2 + nb ≤ 65536 * cnt om al k2 ∧ ∃ tg', rootP kc u.1 u.2 tg' x nm mo om al (va_up bs k2 (cpN (bs k2) P2 nb (fun j => bs k1 (P + j)))) ∧ Ext SC L f tg u tg')))) (XX D L f sz (fun E u => ((E = eIAE ∧ ¬ ((∃ k, k < nm ∧ mm = nI k) ∧ (∃ k, k < nm ∧ m2 = nI k) ∧ ¬ cn < 0 ∧ cn ≤ 4096)) ∨ (E = eIOB ∧ ∃ k1, k1 < nm ∧ mm = nI k1 ∧ ∃ k2, k2 < nm ∧ m2 = nI k2 ∧ ∃ nb, nb ≤ 4096 ∧ cn = nI nb ∧ 0 < nb ∧ ¬ ((∃ P, fr = nI P ∧ P + nb ≤ 65536 * cnt om al k1) ∧ ∃ P2, to9 = nI P2 ∧ P2 + nb ≤ 65536 * cnt om al k2))) ∧ u = (L, f))) 15 5155 (pA L f sz) := by
  refine kx_metX (by decide) (Nat.le_of_ble_eq_true rfl) ?_
  intro p e s m below meth c hC hex hw hsz ls hl
  subst hsz
  have hl : lv_has ls 8 [(0, .ref x), (1, .int mm), (2, .int fr), (3, .int m2), (4, .int to9), (5, .int cn)] := hl
  obtain ⟨⟨⟨hx, hb, hml, hown, hts⟩, hret9, hlocks⟩, hK, hE, hA⟩ := id hC
  obtain ⟨⟨⟨hxL, htx, hfx⟩, ⟨hmsL, htms, hfms⟩, ⟨hcpL, htcp, hfcp⟩⟩, hgn, hgk9⟩ := id hg
  obtain ⟨hs1, hs2, hs3, hs4, hs5, hs6⟩ := id hs
  refine lv_aload_n hx hb d_P_copy_0 rfl (lv_at hl 0 rfl) ?_
  refine lv_iload_n hx hb d_P_copy_1 rfl (lv_at hl 1 rfl) ?_
  refine callXVq (As := [.int mm]) (n9 := 1) hC hw (c_memoryOf l hst D kc _ _ _ x ms cp (nI nm) (nI al) gm hxL hfx hmsL hfms mm) k_co_P_memoryOf k_ml_P_49 k_im_P_memoryOf k_se_P_memoryOf k_in_P rfl rfl (by decide +kernel) rfl ⟨Nat.le_of_ble_eq_true rfl, Nat.le_of_ble_eq_true rfl⟩ hxL hfx rfl hl.1 rfl (Nat.le_of_ble_eq_true rfl) d_P_copy_2 ⟨Nat.le_of_ble_eq_true rfl, Nat.le_of_ble_eq_true rfl⟩ (fun E ce q9 u H locs ho hw h1 h2 h3 => ?_) (fun o u H locs hp hw => ?_)
  · obtain ⟨rfl, ho, rfl⟩ := ho
    have hno := root_not hg hs1 ho
    exact pg_out hex hlocks hw h1 h2 h3 (⟨Or.inl ⟨rfl, fun h => hno h.1⟩, rfl⟩) (by omega) (by omega)
  · obtain ⟨k1, hk241, rfl, rfl, hne1, rfl⟩ := hp
    have hkn1 : k1 < nm := root_iff hg hk241 hne1
    obtain ⟨am1, ra1, N1, g1, hgk1, hm1, hNof1⟩ := hgk9 k1 hkn1
    obtain ⟨⟨ham1, hta1, hem1⟩, ⟨hra1, htr1, her1⟩, hN1, hbs1, hrow1⟩ := id hm1
    obtain ⟨hpN1, hp161⟩ := Nof_le hs hkn1 hNof1
    refine tp_v (v := .ref am1) (by rw [hgk1]; rfl) ?_
    refine lv_astore (lv' := [(6, .ref am1), (0, .ref x), (1, .int (nI k1)), (2, .int fr), (3, .int m2), (4, .int to9), (5, .int cn)]) hx hb d_P_copy_5 hl (by decide) rfl (fun ls hl => ?_)
    refine lv_aload_n hx hb d_P_copy_7 rfl (lv_at hl 1 rfl) ?_
    refine lv_iload_n hx hb d_P_copy_8 rfl (lv_at hl 4 rfl) ?_
    refine callXVq (As := [.int m2]) (n9 := 1) hC hw (c_memoryOf l hst D kc _ _ _ x ms cp (nI nm) (nI al) gm hxL hfx hmsL hfms m2) k_co_P_memoryOf k_ml_P_49 k_im_P_memoryOf k_se_P_memoryOf k_in_P rfl rfl (by decide +kernel) rfl ⟨Nat.le_of_ble_eq_true rfl, Nat.le_of_ble_eq_true rfl⟩ hxL hfx rfl hl.1 rfl (Nat.le_of_ble_eq_true rfl) d_P_copy_9 ⟨Nat.le_of_ble_eq_true rfl, Nat.le_of_ble_eq_true rfl⟩ (fun E ce q9 u H locs ho hw h1 h2 h3 => ?_) (fun o u H locs hp hw => ?_)
    · obtain ⟨rfl, ho, rfl⟩ := ho
      have hno := root_not hg hs1 ho
      exact pg_out hex hlocks hw h1 h2 h3 (⟨Or.inl ⟨rfl, fun h => hno h.2.1⟩, rfl⟩) (by omega) (by omega)
    · obtain ⟨k2, hk242, rfl, rfl, hne2, rfl⟩ := hp
      have hkn2 : k2 < nm := root_iff hg hk242 hne2
      obtain ⟨am2, ra2, N2, g2, hgk2, hm2, hNof2⟩ := hgk9 k2 hkn2
      obtain ⟨⟨ham2, hta2, hem2⟩, ⟨hra2, htr2, her2⟩, hN2, hbs2, hrow2⟩ := id hm2
      obtain ⟨hpN2, hp162⟩ := Nof_le hs hkn2 hNof2
      refine tp_v (v := .ref am2) (by rw [hgk2]; rfl) ?_
      refine lv_astore (lv' := [(7, .ref am2), (6, .ref am1), (0, .ref x), (1, .int (nI k1)), (2, .int fr), (3, .int (nI k2)), (4, .int to9), (5, .int cn)]) hx hb d_P_copy_12 hl (by decide) rfl (fun ls hl => ?_)
      refine lv_iload hx hb d_P_copy_14 (lv_at hl 7 rfl) ?_
      refine lv_sipush (v := 4096) hx hb d_P_copy_16 (by decide) ?_
      refine callXSv (As := [.int cn, .int 4096]) (n9 := 2) hC hw (c_checkCount l hst D kc _ _ _ cn 4096) k_co_P_checkCount k_ml_P_104 k_sm_P_checkCount k_in_P rfl rfl (by decide +kernel) rfl ⟨Nat.le_of_ble_eq_true rfl, Nat.le_of_ble_eq_true rfl⟩ hl.1 rfl (Nat.le_of_ble_eq_true rfl) d_P_copy_19 ⟨Nat.le_of_ble_eq_true rfl, Nat.le_of_ble_eq_true rfl⟩ (fun E ce q9 u H locs ho hw h1 h2 h3 => ?_) (fun u H locs hp hw => ?_)
      · obtain ⟨rfl, ho, rfl⟩ := ho
        exact pg_out hex hlocks hw h1 h2 h3 (⟨Or.inl ⟨rfl, fun h => ho h.2.2⟩, rfl⟩) (by omega) (by omega)
      · obtain ⟨⟨hc1, hc2⟩, rfl⟩ := hp
        obtain ⟨nb, hnb, rfl⟩ : ∃ j, j ≤ 4096 ∧ cn = nI j := nI_of2 (M := 4096) (n := 4096) (by decide) hc1 hc2
        refine lv_iload hx hb d_P_copy_22 (lv_at hl 7 rfl) ?_
        refine lv_if_ne (tgt := 28) hx hb d_P_copy_24 (by decide) (fun c1 => ?_) (fun c1 => ?_)
        · have hnz : 0 < nb := by
            rcases Nat.eq_zero_or_pos nb with q | q
            · exact absurd (by rw [q]; rfl) c1
            · exact q
          refine lv_aload hx hb d_P_copy_28 (lv_at hl 1 rfl) ?_
          refine lv_iload_n hx hb d_P_copy_30 rfl (lv_at hl 4 rfl) ?_
          refine lv_i2l hx hb d_P_copy_31 rfl ?_
          refine lv_iload hx hb d_P_copy_32 (lv_at hl 7 rfl) ?_
          refine callXSv (As := [.ref am1, .long fr.toInt64, .int (nI nb)]) (n9 := 3) hC hw (c_checkThere l hst D kc _ _ _ am1 ham1 (mo k1) (cnt om al k1) ra1 (by omega) hem1 fr.toInt64 (nI nb)) k_co_P_checkThere k_ml_P_107 k_sm_P_checkThere k_in_P rfl rfl (by decide +kernel) rfl ⟨Nat.le_of_ble_eq_true rfl, Nat.le_of_ble_eq_true rfl⟩ hl.1 rfl (Nat.le_of_ble_eq_true rfl) d_P_copy_34 ⟨Nat.le_of_ble_eq_true rfl, Nat.le_of_ble_eq_true rfl⟩ (fun E ce q9 u H locs ho hw h1 h2 h3 => ?_) (fun u H locs hp hw => ?_)
          · obtain ⟨rfl, ho, rfl⟩ := ho
            refine pg_out hex hlocks hw h1 h2 h3 (⟨Or.inr ⟨rfl, k1, hkn1, rfl, k2, hkn2, rfl, nb, hnb, rfl, hnz, fun h => ho ?_⟩, rfl⟩) (by omega) (by omega)
            obtain ⟨⟨P, rfl, hP⟩, -⟩ := h
            rw [nI_toI64 P (by omega), nI_toI64 nb (by omega)]
            exact ⟨lN_nlt0 (by omega), by rw [lN_add, pk_lLE (by omega) (by omega)]; omega⟩
          · obtain ⟨⟨hq1, hq2⟩, rfl⟩ := hp
            obtain ⟨P, hP31, rfl⟩ := i64_pos hq1
            rw [nI_toI64 P hP31, nI_toI64 nb (by omega), lN_add, pk_lLE (by omega) (by omega)] at hq2
            refine lv_aload hx hb d_P_copy_37 (lv_at hl 0 rfl) ?_
            refine lv_iload hx hb d_P_copy_39 (lv_at hl 6 rfl) ?_
            refine lv_i2l hx hb d_P_copy_41 rfl ?_
            refine lv_iload hx hb d_P_copy_42 (lv_at hl 7 rfl) ?_
            refine callXSv (As := [.ref am2, .long to9.toInt64, .int (nI nb)]) (n9 := 3) hC hw (c_checkThere l hst D kc _ _ _ am2 ham2 (mo k2) (cnt om al k2) ra2 (by omega) hem2 to9.toInt64 (nI nb)) k_co_P_checkThere k_ml_P_107 k_sm_P_checkThere k_in_P rfl rfl (by decide +kernel) rfl ⟨Nat.le_of_ble_eq_true rfl, Nat.le_of_ble_eq_true rfl⟩ hl.1 rfl (Nat.le_of_ble_eq_true rfl) d_P_copy_44 ⟨Nat.le_of_ble_eq_true rfl, Nat.le_of_ble_eq_true rfl⟩ (fun E ce q9 u H locs ho hw h1 h2 h3 => ?_) (fun u H locs hp hw => ?_)
            · obtain ⟨rfl, ho, rfl⟩ := ho
              refine pg_out hex hlocks hw h1 h2 h3 (⟨Or.inr ⟨rfl, k1, hkn1, rfl, k2, hkn2, rfl, nb, hnb, rfl, hnz, fun h => ho ?_⟩, rfl⟩) (by omega) (by omega)
              obtain ⟨-, P2, rfl, hP2⟩ := h
              rw [nI_toI64 P2 (by omega), nI_toI64 nb (by omega)]
              exact ⟨lN_nlt0 (by omega), by rw [lN_add, pk_lLE (by omega) (by omega)]; omega⟩
            · obtain ⟨⟨hq3, hq4⟩, rfl⟩ := hp
              obtain ⟨P2, hP231, rfl⟩ := i64_pos hq3
              rw [nI_toI64 P2 hP231, nI_toI64 nb (by omega), lN_add, pk_lLE (by omega) (by omega)] at hq4
              refine lv_aload hx hb d_P_copy_47 (lv_at hl 1 rfl) ?_
              refine lv_aload_n hx hb d_P_copy_49 rfl (lv_at hl 2 rfl) ?_
              refine get_P hC hw hxL hfx 1 (by decide) k_fl_P_15 rfl d_P_copy_50 ?_
              refine lv_iload_n hx hb d_P_copy_53 rfl (lv_at hl 4 rfl) ?_
              refine lv_iload hx hb d_P_copy_54 (lv_at hl 7 rfl) ?_
              refine callVv (As := [.ref cp, .int (nI P), .int (nI nb)]) (n9 := 3) hC hw (c_M_readInto l D kc _ _ _ tg k1 am1 ra1 (mo k1) (cnt om al k1) N1 g1 (bs k1) hm1 cp P nb hc hcpL hfcp (by rw [htcp]; show 100 ≠ k1; omega) (by omega) ⟨hnz, hnb⟩) k_co_M_readInto k_ml_P_111 k_im_M_readInto k_se_M_readInto k_in_M rfl rfl (by decide +kernel) rfl ⟨Nat.le_of_ble_eq_true rfl, Nat.le_of_ble_eq_true rfl⟩ ham1 hem1 rfl hl.1 rfl (Nat.le_of_ble_eq_true rfl) d_P_copy_56 ⟨Nat.le_of_ble_eq_true rfl, Nat.le_of_ble_eq_true rfl⟩ (fun u H locs hp hw => ?_)
              obtain ⟨h9, rfl, hd9⟩ := hp
              dsimp only at hw
              obtain ⟨f1, hf1⟩ : ∃ F, F = va_up f cp (.inl (kc 0, 4096, .inl h9)) := ⟨_, rfl⟩
              rw [← hf1] at hw
              have hg1 := root_cp (h' := h9) hg hs1
              rw [← hf1] at hg1
              obtain ⟨⟨⟨hxL1, htx1, hfx1⟩, -, ⟨hcpL1, htcp1, hfcp1⟩⟩, -, -⟩ := id hg1
              have he1 : Ext (fun i => i = 100) L f tg (L, f1) tg := by rw [hf1]; exact Ext_up (by rw [htcp])
              have hm2b : memG kc L f1 tg k2 am2 ra2 (mo k2) (cnt om al k2) N2 g2 (bs k2) := memG_ext hm2 he1 (by omega)
              obtain ⟨⟨ham3, hta3, hem3⟩, -⟩ := id hm2b
              refine lv_aload hx hb d_P_copy_59 (lv_at hl 0 rfl) ?_
              refine lv_aload_n hx hb d_P_copy_61 rfl (lv_at hl 2 rfl) ?_
              refine get_P hC hw hxL1 hfx1 1 (by decide) k_fl_P_15 rfl d_P_copy_62 ?_
              refine lv_iload hx hb d_P_copy_65 (lv_at hl 6 rfl) ?_
              refine lv_iload hx hb d_P_copy_67 (lv_at hl 7 rfl) ?_
              refine callVv (As := [.ref cp, .int (nI P2), .int (nI nb)]) (n9 := 3) hC hw (c_M_writeFrom l D kc _ _ _ tg k2 am2 ra2 (mo k2) (cnt om al k2) N2 g2 (bs k2) hm2b cp P2 nb h9 (fun j => bs k1 (P + j)) hcpL1 hfcp1 (by rw [htcp]; show 100 ≠ k2; omega) hd9 (fun j _ => hs6 k1 _) (by omega) ⟨hnz, hnb⟩) k_co_M_writeFrom k_ml_P_115 k_im_M_writeFrom k_se_M_writeFrom k_in_M rfl rfl (by decide +kernel) rfl ⟨Nat.le_of_ble_eq_true rfl, Nat.le_of_ble_eq_true rfl⟩ ham3 hem3 rfl hl.1 rfl (Nat.le_of_ble_eq_true rfl) d_P_copy_69 ⟨Nat.le_of_ble_eq_true rfl, Nat.le_of_ble_eq_true rfl⟩ (fun u H locs hp hw => ?_)
              obtain ⟨tg2, g2b, hm2c, he2⟩ := hp
              obtain ⟨L2, f2⟩ := u
              dsimp only at hw hm2c he2
              have hr2 := root_mem hg1 hs1 hkn2 hgk2 hNof2 he2 hm2c
              have heS : Ext SC L f tg (L2, f2) tg2 := (he1.mono (fun i hi => Or.inr hi)).tr (he2.mono (fun i hi => Or.inl (by omega)))
              exact vx_ret (pg_vret hC.1 hw (⟨k1, hkn1, rfl, k2, hkn2, rfl, nb, hnb, rfl, Or.inr ⟨hnz, P, rfl, by omega, P2, rfl, by omega, tg2, ⟨ms, cp, gm, h9, hr2⟩, heS⟩⟩) d_P_copy_72)
        · have hz : nb = 0 := nI_inj (by omega) (by decide) c1
          subst hz
          refine W.widen (k := 15) (n := 5155) (by omega) (by omega) ?_
          exact vx_ret (pg_vret hC.1 hw (⟨k1, hkn1, rfl, k2, hkn2, rfl, 0, by decide, rfl, Or.inl ⟨rfl, rfl⟩⟩) d_P_copy_27)
set_option maxHeartbeats 4000000 in
set_option maxRecDepth 100000 in
theorem c_P_grow (l : Launch) (hst : l.stackTraces = false) (D : va_G) (kc : Nat → ClassId) (L : List Nat) (f : Nat → va_E) (sz : Nat) (x ms cp : Nat) (gm : Nat → Option Nat) (hc : Nat → Int32) (tg : Nat → Nat × Nat) (nm : Nat) (mo : Nat → Int32) (om : Nat → Nat) (al : Nat) (bs : Nat → Nat → Nat) (hg : rootG kc L f tg x ms cp gm hc nm mo om al bs) (hs : stOK nm mo om al bs) (mm gn : Int32) : vx_Met l y_P_grow w_P_grow ({ frames := 7, cells := 1, slots := 6, locals := 103 }) (PP D kc L f sz [.ref x, .int mm, .int gn]) (Qi D L f sz (fun r u => ∃ k, k < nm ∧ mm = nI k ∧ ∃ lim, limP (mo k) lim ∧ ((¬ (cnt om al k + uI gn ≤ lim ∧ al + uI gn ≤ 16) ∧ r = -1 ∧ u = (L, f)) ∨ (cnt om al k + uI gn ≤ lim ∧ al + uI gn ≤ 16 ∧ r = nI (cnt om al k) ∧ ∃ tg', rootP kc u.1 u.2 tg' x nm mo (appN om al k) (al + uI gn) bs ∧ Ext SC L f tg u tg')))) (XX D L f sz (fun E u => E = eIAE ∧ ¬ (∃ k, k < nm ∧ mm = nI k) ∧ u = (L, f))) 1 6 (pA L f sz) := by
  refine kx_metX (by decide) (Nat.le_of_ble_eq_true rfl) ?_
  intro p e s m below meth c hC hex hw hsz ls hl
  subst hsz
  have hl : lv_has ls 7 [(0, .ref x), (1, .int mm), (2, .int gn)] := hl
  obtain ⟨⟨⟨hx, hb, hml, hown, hts⟩, hret9, hlocks⟩, hK, hE, hA⟩ := id hC
  obtain ⟨⟨⟨hxL, htx, hfx⟩, ⟨hmsL, htms, hfms⟩, ⟨hcpL, htcp, hfcp⟩⟩, hgn, hgk9⟩ := id hg
  obtain ⟨hs1, hs2, hs3, hs4, hs5, hs6⟩ := id hs
  refine lv_aload_n hx hb d_P_grow_0 rfl (lv_at hl 0 rfl) ?_
  refine lv_iload_n hx hb d_P_grow_1 rfl (lv_at hl 1 rfl) ?_
  refine callXVq (As := [.int mm]) (n9 := 1) hC hw (c_memoryOf l hst D kc _ _ _ x ms cp (nI nm) (nI al) gm hxL hfx hmsL hfms mm) k_co_P_memoryOf k_ml_P_49 k_im_P_memoryOf k_se_P_memoryOf k_in_P rfl rfl (by decide +kernel) rfl ⟨Nat.le_of_ble_eq_true rfl, Nat.le_of_ble_eq_true rfl⟩ hxL hfx rfl hl.1 rfl (Nat.le_of_ble_eq_true rfl) d_P_grow_2 ⟨Nat.le_of_ble_eq_true rfl, Nat.le_of_ble_eq_true rfl⟩ (fun E ce q9 u H locs ho hw h1 h2 h3 => ?_) (fun o u H locs hp hw => ?_)
  · obtain ⟨rfl, ho, rfl⟩ := ho
    have hno := root_not hg hs1 ho
    exact pg_out hex hlocks hw h1 h2 h3 (⟨rfl, hno, rfl⟩) (by omega) (by omega)
  · obtain ⟨k, hk24, rfl, rfl, hne, rfl⟩ := hp
    have hkn : k < nm := root_iff hg hk24 hne
    obtain ⟨am, ra, N, g, hgk, hm, hNof⟩ := hgk9 k hkn
    obtain ⟨⟨ham, hta, hem⟩, ⟨hra, htr, her⟩, hN, hbs, hrow⟩ := id hm
    obtain ⟨hpN, hp16⟩ := Nof_le hs hkn hNof
    refine tp_v (v := .ref am) (by rw [hgk]; rfl) ?_
    refine lv_astore_n (lv' := [(3, .ref am), (0, .ref x), (1, .int (nI k)), (2, .int gn)]) hx hb d_P_grow_5 rfl hl (by decide) rfl (fun ls hl => ?_)
    refine lv_iload_n hx hb d_P_grow_6 rfl (lv_at hl 3 rfl) ?_
    refine callSl (As := [.int gn]) (n9 := 1) hC hw (c_withoutSign l D kc _ _ _ gn) k_co_P_withoutSign k_ml_P_56 k_sm_P_withoutSign k_in_P rfl rfl (by decide +kernel) rfl ⟨Nat.le_of_ble_eq_true rfl, Nat.le_of_ble_eq_true rfl⟩ hl.1 rfl (Nat.le_of_ble_eq_true rfl) d_P_grow_7 ⟨Nat.le_of_ble_eq_true rfl, Nat.le_of_ble_eq_true rfl⟩ (fun r9 u H locs hp hw => ?_)
    obtain ⟨rfl, rfl⟩ := hp
    obtain ⟨lim, hlim, hlim9, hlimv⟩ := limP_of hs hkn
    have hu := uI_lt gn
    refine lv_lstore (lv' := [(4, .long (lN (uI gn))), (3, .ref am), (0, .ref x), (1, .int (nI k)), (2, .int gn)]) hx hb d_P_grow_10 hl (by decide) rfl (fun ls hl => ?_)
    refine lv_aload_n hx hb d_P_grow_12 rfl (lv_at hl 1 rfl) ?_
    refine get_M hC hw ham hem 1 (by decide) k_fl_P_53 rfl d_P_grow_13 ?_
    refine lv_istore (lv' := [(6, .int (nI (cnt om al k))), (4, .long (lN (uI gn))), (3, .ref am), (0, .ref x), (1, .int (nI k)), (2, .int gn)]) hx hb d_P_grow_16 hl (by decide) rfl (fun ls hl => ?_)
    refine lv_iload hx hb d_P_grow_18 (lv_at hl 0 rfl) ?_
    refine lv_i2l hx hb d_P_grow_20 rfl ?_
    refine lv_lload hx hb d_P_grow_21 (lv_at hl 1 rfl) ?_
    refine lv_ladd hx hb d_P_grow_23 ?_
    refine tp_l (v := lN (cnt om al k + uI gn)) (by rw [nI_toI64 _ (by omega), lN_add]) ?_
    refine lv_aload_n hx hb d_P_grow_24 rfl (lv_at hl 2 rfl) ?_
    refine callVi (As := []) (n9 := 0) hC hw (c_M_pageLimit l D kc _ _ _ am ham (mo k) (cnt om al k) ra (by omega) hem) k_co_M_pageLimit k_ml_P_60 k_im_M_pageLimit k_se_M_pageLimit k_in_M rfl rfl (by decide +kernel) rfl ⟨Nat.le_of_ble_eq_true rfl, Nat.le_of_ble_eq_true rfl⟩ ham hem rfl hl.1 rfl (Nat.le_of_ble_eq_true rfl) d_P_grow_25 ⟨Nat.le_of_ble_eq_true rfl, Nat.le_of_ble_eq_true rfl⟩ (fun r9 u H locs hp hw => ?_)
    obtain ⟨rfl, rfl⟩ := hp
    refine tp_i (v := nI lim) (hlimv) ?_
    refine lv_i2l hx hb d_P_grow_28 rfl ?_
    refine tp_l (v := lN lim) (nI_toI64 _ (by omega)) ?_
    refine W.lcmp hx hb d_P_grow_29 ?_
    refine lv_if_gt (tgt := 48) hx hb d_P_grow_30 (by decide) (fun c1 => ?_) (fun c1 => ?_)
    · refine lv_iconst (v := (-1)) hx hb d_P_grow_48 (by decide) ?_
      exact vx_ret (pg_iret hC.1 hw (⟨k, hkn, rfl, lim, hlim, Or.inl ⟨fun h => by rw [lg_cmp_gt, pk_lLT (by omega) (by omega)] at c1; omega, rfl, rfl⟩⟩) d_P_grow_49)
    · refine lv_aload_n hx hb d_P_grow_33 rfl (lv_at hl 3 rfl) ?_
      refine get_P hC hw hxL hfx 3 (by decide) k_fl_P_23 rfl d_P_grow_34 ?_
      refine lv_i2l hx hb d_P_grow_37 rfl ?_
      refine tp_l (v := lN al) (nI_toI64 _ (by omega)) ?_
      refine lv_lload hx hb d_P_grow_38 (lv_at hl 1 rfl) ?_
      refine lv_ladd hx hb d_P_grow_40 ?_
      refine tp_l (v := lN (al + uI gn)) (lN_add _ _) ?_
      refine lv_ldc2 (v := 16) hx hb hown (hts _ (gg_mem k_cn_P_64)) d_P_grow_41 ?_
      refine W.lcmp hx hb d_P_grow_44 ?_
      refine lv_if_le (tgt := 50) hx hb d_P_grow_45 (by decide) (fun c2 => ?_) (fun c2 => ?_)
      · have hle1 : cnt om al k + uI gn ≤ lim := by rw [lg_cmp_gt, pk_lLT (by omega) (by omega)] at c1; omega
        have hle2 : al + uI gn ≤ 16 := by rw [lg_cmp_le] at c2; exact (pk_lLE (b := 16) (by omega) (by omega)).mp c2
        have hgn : gn = nI (uI gn) := (nI_uI gn).symm
        refine lv_aload_n hx hb d_P_grow_50 rfl (lv_at hl 2 rfl) ?_
        refine lv_iload hx hb d_P_grow_51 (lv_at hl 0 rfl) ?_
        refine lv_iload_n hx hb d_P_grow_53 rfl (lv_at hl 5 rfl) ?_
        refine lv_iadd hx hb d_P_grow_54 ?_
        refine tp_i (v := nI (cnt om al k + uI gn)) (by rw [hgn, nI_add, uI_nI (by omega)]) ?_
        refine put_M hC hw ham hem 1 (by decide) k_fl_P_53 rfl rfl rfl (Nat.le_of_ble_eq_true rfl) d_P_grow_55 (fun H locs hw => ?_)
        have hxam : x ≠ am := fun e => by rw [e, hta] at htx; cases htx; omega
        obtain ⟨f1, hf1⟩ : ∃ F, F = va_up f am (.inr (0, [.int (mo k), .int (nI (cnt om al k + uI gn)), .ref ra])) := ⟨_, rfl⟩
        have hw := pw_as (f' := f1) hw rfl hf1.symm
        have hfx1 : f1 x = .inr (2, [.ref ms, .ref cp, .int (nI nm), .int (nI al)]) := by rw [hf1, va_up_ne _ _ hxam]; exact hfx
        refine lv_aload_n hx hb d_P_grow_58 rfl (lv_at hl 3 rfl) ?_
        refine lv_dup hx hb d_P_grow_59 rfl ?_
        refine get_P hC hw hxL hfx1 3 (by decide) k_fl_P_23 rfl d_P_grow_60 ?_
        refine lv_iload_n hx hb d_P_grow_63 rfl (lv_at hl 5 rfl) ?_
        refine lv_iadd hx hb d_P_grow_64 ?_
        refine tp_i (v := nI (al + uI gn)) (by rw [hgn, nI_add, uI_nI (by omega)]) ?_
        refine put_P hC hw hxL hfx1 3 (by decide) k_fl_P_23 rfl rfl rfl (Nat.le_of_ble_eq_true rfl) d_P_grow_65 (fun H locs hw => ?_)
        obtain ⟨f2, hf2⟩ : ∃ F, F = va_up f1 x (.inr (2, [.ref ms, .ref cp, .int (nI nm), .int (nI (al + uI gn))])) := ⟨_, rfl⟩
        have hw := pw_as (f' := f2) hw rfl hf2.symm
        obtain ⟨hr2, he2⟩ := root_grow (d := uI gn) (f' := f2) hg hs1 hkn hgk hm hNof (by rw [hf2, va_up_ne _ _ (Ne.symm hxam), hf1, va_up_self]) (by rw [hf2, va_up_self]) (fun a h1 h2 => by rw [hf2, va_up_ne _ _ h2, hf1, va_up_ne _ _ h1])
        refine lv_iload hx hb d_P_grow_68 (lv_at hl 0 rfl) ?_
        exact vx_ret (pg_iret hC.1 hw (⟨k, hkn, rfl, lim, hlim, Or.inr ⟨hle1, hle2, rfl, tg, ⟨ms, cp, gm, hc, hr2⟩, he2⟩⟩) d_P_grow_70)
      · refine lv_iconst (v := (-1)) hx hb d_P_grow_48 (by decide) ?_
        exact vx_ret (pg_iret hC.1 hw (⟨k, hkn, rfl, lim, hlim, Or.inl ⟨fun h => c2 (by rw [lg_cmp_le]; exact (pk_lLE (b := 16) (by omega) (by omega)).mpr h.2), rfl, rfl⟩⟩) d_P_grow_49)
end
section
/-! PagedBytes: make, the constructor -/
def okM (least most : Int32) : Prop := (¬ least < 0 ∧ least ≤ 65536) ∧ (most = -1 ∨ (¬ most < least ∧ most ≤ 65536))
set_option maxHeartbeats 4000000 in
set_option maxRecDepth 100000 in
theorem c_P_make (l : Launch) (hst : l.stackTraces = false) (D : va_G) (kc : Nat → ClassId) (L : List Nat) (f : Nat → va_E) (sz : Nat) (x ms cp : Nat) (gm : Nat → Option Nat) (hc : Nat → Int32) (tg : Nat → Nat × Nat) (nm : Nat) (mo : Nat → Int32) (om : Nat → Nat) (al : Nat) (bs : Nat → Nat → Nat) (hg : rootG kc L f tg x ms cp gm hc nm mo om al bs) (hs : stOK nm mo om al bs) (least most : Int32) : vx_Met l y_P_make w_P_make ({ frames := 6, cells := 2, slots := 1027, locals := 82 }) (PP D kc L f sz [.ref x, .int least, .int most]) (Qi D L f sz (fun r u => okM least most ∧ nm < 24 ∧ al + uI least ≤ 16 ∧ r = nI nm ∧ ∃ tg', rootP kc u.1 u.2 tg' x (nm + 1) (va_up mo nm most) (appN om al nm) (al + uI least) bs ∧ Ext SC L f tg u tg')) (XX D L f sz (fun E u => ((E = eIAE ∧ ¬ okM least most) ∨ (E = eISE ∧ okM least most ∧ nm = 24) ∨ (E = eUOE ∧ okM least most ∧ nm < 24 ∧ ¬ (al + uI least ≤ 16))) ∧ u = (L, f))) 2 1027 (pA L f sz) := by
  refine kx_metX (by decide) (Nat.le_of_ble_eq_true rfl) ?_
  intro p e s m below meth c hC hex hw hsz ls hl
  subst hsz
  have hl : lv_has ls 4 [(0, .ref x), (1, .int least), (2, .int most)] := hl
  obtain ⟨⟨⟨hx, hb, hml, hown, hts⟩, hret9, hlocks⟩, hK, hE, hA⟩ := id hC
  obtain ⟨⟨⟨hxL, htx, hfx⟩, ⟨hmsL, htms, hfms⟩, ⟨hcpL, htcp, hfcp⟩⟩, hgn, hgk9⟩ := id hg
  obtain ⟨hs1, hs2, hs3, hs4, hs5, hs6⟩ := id hs
  refine lv_iload_n hx hb d_P_make_0 rfl (lv_at hl 1 rfl) ?_
  refine lv_if_lt (tgt := 10) hx hb d_P_make_1 (by decide) (fun c1 => ?_) (fun c1 => ?_)
  · exact throwS (cls := eIAE) (is := 29) (text := "least is not 0 .. 65536") hC hw hst hex (by decide +kernel) k_cl_P_27 k_in_JIllegalArgumentException (by decide +kernel) hl.1 d_P_make_10 d_P_make_13 d_P_make_14 d_P_make_16 d_P_make_19 ⟨Nat.le_of_ble_eq_true rfl, Nat.le_of_ble_eq_true rfl, Nat.le_of_ble_eq_true rfl, Nat.le_of_ble_eq_true rfl⟩ (by omega) (by omega) (⟨Or.inl ⟨rfl, fun h => h.1.1 c1⟩, rfl⟩)
  · refine lv_iload_n hx hb d_P_make_4 rfl (lv_at hl 1 rfl) ?_
    refine lv_ldc (v := 65536) hx hb hown (hts _ (gg_mem k_cn_P_26)) d_P_make_5 ?_
    refine lv_icmp_le (tgt := 20) hx hb d_P_make_7 (by decide) (fun c2 => ?_) (fun c2 => ?_)
    · obtain ⟨ls9, hls9, rfl⟩ : ∃ j, j ≤ 65536 ∧ least = nI j := nI_of2 (M := 65536) (n := 65536) (by decide) c1 c2
      refine lv_iload_n hx hb d_P_make_20 rfl (lv_at hl 2 rfl) ?_
      refine lv_iconst (v := (-1)) hx hb d_P_make_21 (by decide) ?_
      refine lv_icmp_eq (tgt := 46) hx hb d_P_make_22 (by decide) (fun c3 => ?_) (fun c3 => ?_)
      · subst c3
        have hok : okM (nI ls9) (-1) := ⟨⟨c1, c2⟩, Or.inl rfl⟩
        refine lv_aload_n hx hb d_P_make_46 rfl (lv_at hl 0 rfl) ?_
        refine get_P hC hw hxL hfx 2 (by decide) k_fl_P_19 rfl d_P_make_47 ?_
        refine lv_aload_n hx hb d_P_make_50 rfl (lv_at hl 0 rfl) ?_
        refine get_P hC hw hxL hfx 0 (by decide) k_fl_P_11 rfl d_P_make_51 ?_
        refine len_M hC hw hmsL hfms d_P_make_54 ?_
        refine lv_icmp_lt (tgt := 68) hx hb d_P_make_55 (by decide) (fun c6 => ?_) (fun c6 => ?_)
        · have hnm : nm < 24 := by
            rcases Nat.lt_or_ge nm 24 with z | z
            · exact z
            · exact absurd c6 (nI_nlt z (by omega))
          refine lv_iload_n hx hb d_P_make_68 rfl (lv_at hl 1 rfl) ?_
          refine lv_bipush (v := 16) hx hb d_P_make_69 (by decide) ?_
          refine lv_aload_n hx hb d_P_make_71 rfl (lv_at hl 0 rfl) ?_
          refine get_P hC hw hxL hfx 3 (by decide) k_fl_P_23 rfl d_P_make_72 ?_
          refine lv_isub hx hb d_P_make_75 ?_
          refine tp_i (v := nI (16 - al)) (pk_sub (a := 16) hs2) ?_
          refine lv_icmp_le (tgt := 89) hx hb d_P_make_76 (by decide) (fun c7 => ?_) (fun c7 => ?_)
          · have hal : ls9 ≤ 16 - al := (nI_leI (by omega) (by omega)).mp c7
            refine lv_aload_n hx hb d_P_make_89 rfl (lv_at hl 0 rfl) ?_
            refine get_P hC hw hxL hfx 2 (by decide) k_fl_P_19 rfl d_P_make_90 ?_
            refine lv_istore_n (lv' := [(3, .int (nI nm)), (0, .ref x), (1, .int (nI ls9)), (2, .int (-1))]) hx hb d_P_make_93 rfl hl (by decide) rfl (fun ls hl => ?_)
            refine lv_aload_n hx hb d_P_make_94 rfl (lv_at hl 1 rfl) ?_
            refine get_P hC hw hxL hfx 0 (by decide) k_fl_P_11 rfl d_P_make_95 ?_
            refine lv_iload_n hx hb d_P_make_98 rfl (lv_at hl 0 rfl) ?_
            refine new_M hC hw k_cl_P_9 k_it_M k_in_M (fs := [.int 0, .int 0, .null]) (fun j hj => by rcases (show j = 0 ∨ j = 1 ∨ j = 2 by omega) with rfl | rfl | rfl <;> rfl) (Nat.le_of_ble_eq_true rfl) (Nat.le_of_ble_eq_true rfl) d_P_make_99 (fun ma H hma hw => ?_)
            refine lv_dup hx hb d_P_make_102 rfl ?_
            refine lv_iload_n hx hb d_P_make_103 rfl (lv_at hl 2 rfl) ?_
            refine lv_iload_n hx hb d_P_make_104 rfl (lv_at hl 3 rfl) ?_
            refine callCtor (b := ma) (As := [.int (nI ls9), .int (-1)]) (n9 := 2) hC hw (c_M_init_none l D kc _ _ _ ma ls9 mem_r (va_up_self _ _ _)) k_co_M_init k_ml_P_46 k_im_M_init k_in_M rfl rfl rfl (by decide +kernel) rfl ⟨Nat.le_of_ble_eq_true rfl, Nat.le_of_ble_eq_true rfl⟩ hl.1 rfl (Nat.le_of_ble_eq_true rfl) d_P_make_105 ⟨Nat.le_of_ble_eq_true rfl, Nat.le_of_ble_eq_true rfl⟩ (fun u H locs hp hw => ?_)
            obtain ⟨ra, hra9, rfl⟩ := hp
            have hraL : ra ∉ L := fun h => hra9 (mem_l h)
            have hmr : ma ≠ ra := ne_in mem_r hra9
            obtain ⟨f2, hf2⟩ : ∃ F, F = va_up (va_up (va_up (va_up f ma (.inr (0, [.int 0, .int 0, .null]))) ma (.inr (0, [.int (-1), .int (nI ls9), .null]))) ra (.inl (kc 2, 16 * 64, .inr (.inr (.inr (.inr (fun _ => none))))))) ma (.inr (0, [.int (-1), .int (nI ls9), .ref ra])) := ⟨_, rfl⟩
            have hw := pw_as (L' := (L ++ [ma]) ++ [ra]) (f' := f2) hw rfl hf2.symm
            have k2 : ∀ a, a ≠ ma → a ≠ ra → f2 a = f a := fun a h1 h2 => by rw [hf2, va_up_ne _ _ h1, va_up_ne _ _ h2, va_up_ne _ _ h1, va_up_ne _ _ h1]
            have m2 : f2 ma = .inr (0, [.int (-1), .int (nI ls9), .ref ra]) := by rw [hf2]; exact va_up_self _ _ _
            have r2 : f2 ra = .inl (kc 2, 16 * 64, .inr (.inr (.inr (.inr (fun _ => none))))) := by rw [hf2, va_up_ne _ _ (Ne.symm hmr)]; exact va_up_self _ _ _
            have xma : x ≠ ma := ne_in hxL hma
            have xra : x ≠ ra := ne_in hxL hraL
            have mma : ms ≠ ma := ne_in hmsL hma
            have mra : ms ≠ ra := ne_in hmsL hraL
            have xms : x ≠ ms := fun e => by rw [e, htms] at htx; cases htx
            refine ast_M hC hw (mem_l (mem_l hmsL)) ((k2 ms mma mra).trans hfms) (mem_l mem_r) m2 hnm (by decide) d_P_make_108 (fun H locs hw => ?_)
            obtain ⟨f3, hf3⟩ : ∃ F, F = va_up f2 ms (.inl (kc 1, 24, .inr (.inr (.inr (.inr (va_up gm nm (some ma))))))) := ⟨_, rfl⟩
            have hw := pw_as (f' := f3) hw rfl hf3.symm
            have k3 : ∀ a, a ≠ ms → f3 a = f2 a := fun a h1 => by rw [hf3, va_up_ne _ _ h1]
            have x3 : f3 x = .inr (2, [.ref ms, .ref cp, .int (nI nm), .int (nI al)]) := by rw [k3 x xms, k2 x xma xra]; exact hfx
            refine lv_aload_n hx hb d_P_make_109 rfl (lv_at hl 1 rfl) ?_
            refine lv_iload_n hx hb d_P_make_110 rfl (lv_at hl 0 rfl) ?_
            refine lv_iconst (v := 1) hx hb d_P_make_111 (by decide) ?_
            refine lv_iadd hx hb d_P_make_112 ?_
            refine tp_i (v := nI (nm + 1)) (nI_1 nm) ?_
            refine put_P hC hw (mem_l (mem_l hxL)) x3 2 (by decide) k_fl_P_19 rfl rfl rfl (Nat.le_of_ble_eq_true rfl) d_P_make_113 (fun H locs hw => ?_)
            obtain ⟨f4, hf4⟩ : ∃ F, F = va_up f3 x (.inr (2, [.ref ms, .ref cp, .int (nI (nm + 1)), .int (nI al)])) := ⟨_, rfl⟩
            have hw := pw_as (f' := f4) hw rfl hf4.symm
            have x4 : f4 x = .inr (2, [.ref ms, .ref cp, .int (nI (nm + 1)), .int (nI al)]) := by rw [hf4]; exact va_up_self _ _ _
            refine lv_aload_n hx hb d_P_make_116 rfl (lv_at hl 1 rfl) ?_
            refine lv_dup hx hb d_P_make_117 rfl ?_
            refine get_P hC hw (mem_l (mem_l hxL)) x4 3 (by decide) k_fl_P_23 rfl d_P_make_118 ?_
            refine lv_iload_n hx hb d_P_make_121 rfl (lv_at hl 2 rfl) ?_
            refine lv_iadd hx hb d_P_make_122 ?_
            refine tp_i (v := nI (al + ls9)) (nI_add _ _) ?_
            refine put_P hC hw (mem_l (mem_l hxL)) x4 3 (by decide) k_fl_P_23 rfl rfl rfl (Nat.le_of_ble_eq_true rfl) d_P_make_123 (fun H locs hw => ?_)
            obtain ⟨f5, hf5⟩ : ∃ F, F = va_up f4 x (.inr (2, [.ref ms, .ref cp, .int (nI (nm + 1)), .int (nI (al + ls9))])) := ⟨_, rfl⟩
            have hw := pw_as (f' := f5) hw rfl hf5.symm
            have k5 : ∀ a, a ≠ x → f5 a = f3 a := fun a h1 => by rw [hf5, va_up_ne _ _ h1, hf4, va_up_ne _ _ h1]
            have hz0 : cnt om al nm = 0 := cnt_zero al (fun j hj => Nat.ne_of_lt (hs3 j hj))
            obtain ⟨tg2, hr2, he2⟩ := root_make (f' := f5) (mv := -1) (N := 16 * 64) (ls9 := ls9) hg hnm hz0 (fun j => hs5 nm j (by rw [hz0]; omega)) (Or.inl ⟨rfl, rfl⟩) hma hraL hmr (by rw [k5 ma (Ne.symm xma), k3 ma (Ne.symm mma)]; exact m2) (by rw [k5 ra (Ne.symm xra), k3 ra (Ne.symm mra)]; exact r2) (by rw [k5 ms (Ne.symm xms), hf3, va_up_self]) (by rw [hf5, va_up_self]) (fun a ha h1 h2 => by rw [k5 a h2, k3 a h1, k2 a (ne_in ha hma) (ne_in ha hraL)])
            refine lv_iload_n hx hb d_P_make_126 rfl (lv_at hl 0 rfl) ?_
            refine W.widen (k := 2) (n := 1027) (by omega) (by omega) ?_
            exact vx_ret (pg_iret hC.1 hw (⟨hok, hnm, by rw [uI_nI (by omega)]; omega, rfl, tg2, by rw [uI_nI (by omega)]; exact ⟨ms, cp, _, hc, hr2⟩, he2⟩) d_P_make_127)
          · exact throwS (cls := eUOE) (is := 43) (text := "all would have more than 16 pages") hC hw hst hex (by decide +kernel) k_cl_P_41 k_in_JUnsupportedOperationException (by decide +kernel) hl.1 d_P_make_79 d_P_make_82 d_P_make_83 d_P_make_85 d_P_make_88 ⟨Nat.le_of_ble_eq_true rfl, Nat.le_of_ble_eq_true rfl, Nat.le_of_ble_eq_true rfl, Nat.le_of_ble_eq_true rfl⟩ (by omega) (by omega) (⟨Or.inr (Or.inr ⟨rfl, hok, hnm, fun z => c7 (by rw [uI_nI (by omega)] at z; exact nI_le (by omega) (by omega))⟩), rfl⟩)
        · exact throwS (cls := eISE) (is := 38) (text := "there are 24 memories") hC hw hst hex (by decide +kernel) k_cl_P_36 k_in_JIllegalStateException (by decide +kernel) hl.1 d_P_make_58 d_P_make_61 d_P_make_62 d_P_make_64 d_P_make_67 ⟨Nat.le_of_ble_eq_true rfl, Nat.le_of_ble_eq_true rfl, Nat.le_of_ble_eq_true rfl, Nat.le_of_ble_eq_true rfl⟩ (by omega) (by omega) (⟨Or.inr (Or.inl ⟨rfl, hok, by rcases Nat.lt_or_ge nm 24 with z | z; exact absurd (nI_lt z (by decide)) c6; omega⟩), rfl⟩)
      · refine lv_iload_n hx hb d_P_make_25 rfl (lv_at hl 2 rfl) ?_
        refine lv_iload_n hx hb d_P_make_26 rfl (lv_at hl 1 rfl) ?_
        refine lv_icmp_lt (tgt := 36) hx hb d_P_make_27 (by decide) (fun c4 => ?_) (fun c4 => ?_)
        · exact throwS (cls := eIAE) (is := 34) (text := "most is below least or above 65536") hC hw hst hex (by decide +kernel) k_cl_P_27 k_in_JIllegalArgumentException (by decide +kernel) hl.1 d_P_make_36 d_P_make_39 d_P_make_40 d_P_make_42 d_P_make_45 ⟨Nat.le_of_ble_eq_true rfl, Nat.le_of_ble_eq_true rfl, Nat.le_of_ble_eq_true rfl, Nat.le_of_ble_eq_true rfl⟩ (by omega) (by omega) (⟨Or.inl ⟨rfl, fun h => h.2.elim c3 (fun q => q.1 c4)⟩, rfl⟩)
        · refine lv_iload_n hx hb d_P_make_30 rfl (lv_at hl 2 rfl) ?_
          refine lv_ldc (v := 65536) hx hb hown (hts _ (gg_mem k_cn_P_26)) d_P_make_31 ?_
          refine lv_icmp_le (tgt := 46) hx hb d_P_make_33 (by decide) (fun c5 => ?_) (fun c5 => ?_)
          · obtain ⟨q9, hq9, rfl⟩ : ∃ j, j ≤ 65536 ∧ most = nI j := nI_of2 (M := 65536) (n := 65536) (by decide) (fun q => c4 (Int32.lt_of_lt_of_le q (nI_pos' (by omega)))) c5
            have hok : okM (nI ls9) (nI q9) := ⟨⟨c1, c2⟩, Or.inr ⟨c4, c5⟩⟩
            refine lv_aload_n hx hb d_P_make_46 rfl (lv_at hl 0 rfl) ?_
            refine get_P hC hw hxL hfx 2 (by decide) k_fl_P_19 rfl d_P_make_47 ?_
            refine lv_aload_n hx hb d_P_make_50 rfl (lv_at hl 0 rfl) ?_
            refine get_P hC hw hxL hfx 0 (by decide) k_fl_P_11 rfl d_P_make_51 ?_
            refine len_M hC hw hmsL hfms d_P_make_54 ?_
            refine lv_icmp_lt (tgt := 68) hx hb d_P_make_55 (by decide) (fun c6 => ?_) (fun c6 => ?_)
            · have hnm : nm < 24 := by
                rcases Nat.lt_or_ge nm 24 with z | z
                · exact z
                · exact absurd c6 (nI_nlt z (by omega))
              refine lv_iload_n hx hb d_P_make_68 rfl (lv_at hl 1 rfl) ?_
              refine lv_bipush (v := 16) hx hb d_P_make_69 (by decide) ?_
              refine lv_aload_n hx hb d_P_make_71 rfl (lv_at hl 0 rfl) ?_
              refine get_P hC hw hxL hfx 3 (by decide) k_fl_P_23 rfl d_P_make_72 ?_
              refine lv_isub hx hb d_P_make_75 ?_
              refine tp_i (v := nI (16 - al)) (pk_sub (a := 16) hs2) ?_
              refine lv_icmp_le (tgt := 89) hx hb d_P_make_76 (by decide) (fun c7 => ?_) (fun c7 => ?_)
              · have hal : ls9 ≤ 16 - al := (nI_leI (by omega) (by omega)).mp c7
                refine lv_aload_n hx hb d_P_make_89 rfl (lv_at hl 0 rfl) ?_
                refine get_P hC hw hxL hfx 2 (by decide) k_fl_P_19 rfl d_P_make_90 ?_
                refine lv_istore_n (lv' := [(3, .int (nI nm)), (0, .ref x), (1, .int (nI ls9)), (2, .int (nI q9))]) hx hb d_P_make_93 rfl hl (by decide) rfl (fun ls hl => ?_)
                refine lv_aload_n hx hb d_P_make_94 rfl (lv_at hl 1 rfl) ?_
                refine get_P hC hw hxL hfx 0 (by decide) k_fl_P_11 rfl d_P_make_95 ?_
                refine lv_iload_n hx hb d_P_make_98 rfl (lv_at hl 0 rfl) ?_
                refine new_M hC hw k_cl_P_9 k_it_M k_in_M (fs := [.int 0, .int 0, .null]) (fun j hj => by rcases (show j = 0 ∨ j = 1 ∨ j = 2 by omega) with rfl | rfl | rfl <;> rfl) (Nat.le_of_ble_eq_true rfl) (Nat.le_of_ble_eq_true rfl) d_P_make_99 (fun ma H hma hw => ?_)
                refine lv_dup hx hb d_P_make_102 rfl ?_
                refine lv_iload_n hx hb d_P_make_103 rfl (lv_at hl 2 rfl) ?_
                refine lv_iload_n hx hb d_P_make_104 rfl (lv_at hl 3 rfl) ?_
                refine callCtor (b := ma) (As := [.int (nI ls9), .int (nI q9)]) (n9 := 2) hC hw (c_M_init_some l D kc _ _ _ ma ls9 mem_r (va_up_self _ _ _) q9 hq9) k_co_M_init k_ml_P_46 k_im_M_init k_in_M rfl rfl rfl (by decide +kernel) rfl ⟨Nat.le_of_ble_eq_true rfl, Nat.le_of_ble_eq_true rfl⟩ hl.1 rfl (Nat.le_of_ble_eq_true rfl) d_P_make_105 ⟨Nat.le_of_ble_eq_true rfl, Nat.le_of_ble_eq_true rfl⟩ (fun u H locs hp hw => ?_)
                obtain ⟨ra, hra9, rfl⟩ := hp
                have hraL : ra ∉ L := fun h => hra9 (mem_l h)
                have hmr : ma ≠ ra := ne_in mem_r hra9
                obtain ⟨f2, hf2⟩ : ∃ F, F = va_up (va_up (va_up (va_up f ma (.inr (0, [.int 0, .int 0, .null]))) ma (.inr (0, [.int (nI q9), .int (nI ls9), .null]))) ra (.inl (kc 2, min q9 16 * 64, .inr (.inr (.inr (.inr (fun _ => none))))))) ma (.inr (0, [.int (nI q9), .int (nI ls9), .ref ra])) := ⟨_, rfl⟩
                have hw := pw_as (L' := (L ++ [ma]) ++ [ra]) (f' := f2) hw rfl hf2.symm
                have k2 : ∀ a, a ≠ ma → a ≠ ra → f2 a = f a := fun a h1 h2 => by rw [hf2, va_up_ne _ _ h1, va_up_ne _ _ h2, va_up_ne _ _ h1, va_up_ne _ _ h1]
                have m2 : f2 ma = .inr (0, [.int (nI q9), .int (nI ls9), .ref ra]) := by rw [hf2]; exact va_up_self _ _ _
                have r2 : f2 ra = .inl (kc 2, min q9 16 * 64, .inr (.inr (.inr (.inr (fun _ => none))))) := by rw [hf2, va_up_ne _ _ (Ne.symm hmr)]; exact va_up_self _ _ _
                have xma : x ≠ ma := ne_in hxL hma
                have xra : x ≠ ra := ne_in hxL hraL
                have mma : ms ≠ ma := ne_in hmsL hma
                have mra : ms ≠ ra := ne_in hmsL hraL
                have xms : x ≠ ms := fun e => by rw [e, htms] at htx; cases htx
                refine ast_M hC hw (mem_l (mem_l hmsL)) ((k2 ms mma mra).trans hfms) (mem_l mem_r) m2 hnm (by decide) d_P_make_108 (fun H locs hw => ?_)
                obtain ⟨f3, hf3⟩ : ∃ F, F = va_up f2 ms (.inl (kc 1, 24, .inr (.inr (.inr (.inr (va_up gm nm (some ma))))))) := ⟨_, rfl⟩
                have hw := pw_as (f' := f3) hw rfl hf3.symm
                have k3 : ∀ a, a ≠ ms → f3 a = f2 a := fun a h1 => by rw [hf3, va_up_ne _ _ h1]
                have x3 : f3 x = .inr (2, [.ref ms, .ref cp, .int (nI nm), .int (nI al)]) := by rw [k3 x xms, k2 x xma xra]; exact hfx
                refine lv_aload_n hx hb d_P_make_109 rfl (lv_at hl 1 rfl) ?_
                refine lv_iload_n hx hb d_P_make_110 rfl (lv_at hl 0 rfl) ?_
                refine lv_iconst (v := 1) hx hb d_P_make_111 (by decide) ?_
                refine lv_iadd hx hb d_P_make_112 ?_
                refine tp_i (v := nI (nm + 1)) (nI_1 nm) ?_
                refine put_P hC hw (mem_l (mem_l hxL)) x3 2 (by decide) k_fl_P_19 rfl rfl rfl (Nat.le_of_ble_eq_true rfl) d_P_make_113 (fun H locs hw => ?_)
                obtain ⟨f4, hf4⟩ : ∃ F, F = va_up f3 x (.inr (2, [.ref ms, .ref cp, .int (nI (nm + 1)), .int (nI al)])) := ⟨_, rfl⟩
                have hw := pw_as (f' := f4) hw rfl hf4.symm
                have x4 : f4 x = .inr (2, [.ref ms, .ref cp, .int (nI (nm + 1)), .int (nI al)]) := by rw [hf4]; exact va_up_self _ _ _
                refine lv_aload_n hx hb d_P_make_116 rfl (lv_at hl 1 rfl) ?_
                refine lv_dup hx hb d_P_make_117 rfl ?_
                refine get_P hC hw (mem_l (mem_l hxL)) x4 3 (by decide) k_fl_P_23 rfl d_P_make_118 ?_
                refine lv_iload_n hx hb d_P_make_121 rfl (lv_at hl 2 rfl) ?_
                refine lv_iadd hx hb d_P_make_122 ?_
                refine tp_i (v := nI (al + ls9)) (nI_add _ _) ?_
                refine put_P hC hw (mem_l (mem_l hxL)) x4 3 (by decide) k_fl_P_23 rfl rfl rfl (Nat.le_of_ble_eq_true rfl) d_P_make_123 (fun H locs hw => ?_)
                obtain ⟨f5, hf5⟩ : ∃ F, F = va_up f4 x (.inr (2, [.ref ms, .ref cp, .int (nI (nm + 1)), .int (nI (al + ls9))])) := ⟨_, rfl⟩
                have hw := pw_as (f' := f5) hw rfl hf5.symm
                have k5 : ∀ a, a ≠ x → f5 a = f3 a := fun a h1 => by rw [hf5, va_up_ne _ _ h1, hf4, va_up_ne _ _ h1]
                have hz0 : cnt om al nm = 0 := cnt_zero al (fun j hj => Nat.ne_of_lt (hs3 j hj))
                obtain ⟨tg2, hr2, he2⟩ := root_make (f' := f5) (mv := nI q9) (N := min q9 16 * 64) (ls9 := ls9) hg hnm hz0 (fun j => hs5 nm j (by rw [hz0]; omega)) (Or.inr ⟨q9, hq9, rfl, rfl⟩) hma hraL hmr (by rw [k5 ma (Ne.symm xma), k3 ma (Ne.symm mma)]; exact m2) (by rw [k5 ra (Ne.symm xra), k3 ra (Ne.symm mra)]; exact r2) (by rw [k5 ms (Ne.symm xms), hf3, va_up_self]) (by rw [hf5, va_up_self]) (fun a ha h1 h2 => by rw [k5 a h2, k3 a h1, k2 a (ne_in ha hma) (ne_in ha hraL)])
                refine lv_iload_n hx hb d_P_make_126 rfl (lv_at hl 0 rfl) ?_
                refine W.widen (k := 2) (n := 1027) (by omega) (by omega) ?_
                exact vx_ret (pg_iret hC.1 hw (⟨hok, hnm, by rw [uI_nI (by omega)]; omega, rfl, tg2, by rw [uI_nI (by omega)]; exact ⟨ms, cp, _, hc, hr2⟩, he2⟩) d_P_make_127)
              · exact throwS (cls := eUOE) (is := 43) (text := "all would have more than 16 pages") hC hw hst hex (by decide +kernel) k_cl_P_41 k_in_JUnsupportedOperationException (by decide +kernel) hl.1 d_P_make_79 d_P_make_82 d_P_make_83 d_P_make_85 d_P_make_88 ⟨Nat.le_of_ble_eq_true rfl, Nat.le_of_ble_eq_true rfl, Nat.le_of_ble_eq_true rfl, Nat.le_of_ble_eq_true rfl⟩ (by omega) (by omega) (⟨Or.inr (Or.inr ⟨rfl, hok, hnm, fun z => c7 (by rw [uI_nI (by omega)] at z; exact nI_le (by omega) (by omega))⟩), rfl⟩)
            · exact throwS (cls := eISE) (is := 38) (text := "there are 24 memories") hC hw hst hex (by decide +kernel) k_cl_P_36 k_in_JIllegalStateException (by decide +kernel) hl.1 d_P_make_58 d_P_make_61 d_P_make_62 d_P_make_64 d_P_make_67 ⟨Nat.le_of_ble_eq_true rfl, Nat.le_of_ble_eq_true rfl, Nat.le_of_ble_eq_true rfl, Nat.le_of_ble_eq_true rfl⟩ (by omega) (by omega) (⟨Or.inr (Or.inl ⟨rfl, hok, by rcases Nat.lt_or_ge nm 24 with z | z; exact absurd (nI_lt z (by decide)) c6; omega⟩), rfl⟩)
          · exact throwS (cls := eIAE) (is := 34) (text := "most is below least or above 65536") hC hw hst hex (by decide +kernel) k_cl_P_27 k_in_JIllegalArgumentException (by decide +kernel) hl.1 d_P_make_36 d_P_make_39 d_P_make_40 d_P_make_42 d_P_make_45 ⟨Nat.le_of_ble_eq_true rfl, Nat.le_of_ble_eq_true rfl, Nat.le_of_ble_eq_true rfl, Nat.le_of_ble_eq_true rfl⟩ (by omega) (by omega) (⟨Or.inl ⟨rfl, fun h => h.2.elim c3 (fun q => c5 q.2)⟩, rfl⟩)
    · exact throwS (cls := eIAE) (is := 29) (text := "least is not 0 .. 65536") hC hw hst hex (by decide +kernel) k_cl_P_27 k_in_JIllegalArgumentException (by decide +kernel) hl.1 d_P_make_10 d_P_make_13 d_P_make_14 d_P_make_16 d_P_make_19 ⟨Nat.le_of_ble_eq_true rfl, Nat.le_of_ble_eq_true rfl, Nat.le_of_ble_eq_true rfl, Nat.le_of_ble_eq_true rfl⟩ (by omega) (by omega) (⟨Or.inl ⟨rfl, fun h => c2 h.1.2⟩, rfl⟩)
set_option maxHeartbeats 4000000 in
set_option maxRecDepth 100000 in
theorem c_P_init (l : Launch) (D : va_G) (kc : Nat → ClassId) (L : List Nat) (f : Nat → va_E) (sz : Nat) (x : Nat) (tg : Nat → Nat × Nat) (mo : Nat → Int32) (om : Nat → Nat) (bs : Nat → Nat → Nat) (hx9 : x ∈ L) (hex9 : f x = .inr (2, [.null, .null, .int 0, .int 0])) : Met l y_P_init w_P_init ({ frames := 1, cells := 2, slots := 4120, locals := 12 }) (PP D kc L f sz [.ref x]) (Qv D L f sz (fun u => ∃ tg', rootP kc u.1 u.2 tg' x 0 mo om 0 bs ∧ (∀ a, a ∈ L → a ∈ u.1) ∧ (∀ a, a ∈ L → a ≠ x → u.2 a = f a ∧ tg' a = tg a) ∧ ∀ a, a ∈ u.1 → a ∉ L → (tg' a).1 = 100)) 2 4120 (pA L f sz) := by
  refine kx_met (by decide) (Nat.le_of_ble_eq_true rfl) ?_
  intro p e s m below meth c hC hnm hw hsz ls hl
  subst hsz
  have hl : lv_has ls 1 [(0, .ref x)] := hl
  obtain ⟨⟨⟨hx, hb, hml, hown, hts⟩, hret9, hlocks⟩, hK, hE, hA⟩ := id hC
  refine lv_aload_n hx hb d_P_init_0 rfl (lv_at hl 0 rfl) ?_
  refine callO hC hw hl.1 k_ml_P_3 d_P_init_1 (Nat.le_of_ble_eq_true rfl) (Nat.le_of_ble_eq_true rfl) ?_
  refine lv_aload_n hx hb d_P_init_4 rfl (lv_at hl 0 rfl) ?_
  refine lv_bipush (v := 24) hx hb d_P_init_5 (by decide) ?_
  refine tp_i (v := nI 24) (rfl) ?_
  refine newM hC hw k_cl_P_9 (by decide) (Nat.le_of_ble_eq_true rfl) (Nat.le_of_ble_eq_true rfl) d_P_init_7 (fun ms H hms hw => ?_)
  refine putF_P hC hw hnm rfl (mem_l hx9) ((va_up_ne _ _ (ne_in hx9 hms)).trans hex9) 0 (by decide) k_fl_P_11 rfl rfl rfl rfl (Nat.le_of_ble_eq_true rfl) d_P_init_10 (fun H locs hw => ?_)
  obtain ⟨f1, hf1⟩ : ∃ F, F = va_up (va_up f ms (.inl (kc 1, 24, .inr (.inr (.inr (.inr (fun _ => none))))))) x (.inr (2, [.ref ms, .null, .int 0, .int 0])) := ⟨_, rfl⟩
  have hw := pw_as (f' := f1) hw rfl hf1.symm
  have xms : x ≠ ms := ne_in hx9 hms
  have x1 : f1 x = .inr (2, [.ref ms, .null, .int 0, .int 0]) := by rw [hf1]; exact va_up_self _ _ _
  have m1 : f1 ms = .inl (kc 1, 24, .inr (.inr (.inr (.inr (fun _ => none))))) := by rw [hf1, va_up_ne _ _ (Ne.symm xms)]; exact va_up_self _ _ _
  have k1 : ∀ a, a ≠ x → a ≠ ms → f1 a = f a := fun a h1 h2 => by rw [hf1, va_up_ne _ _ h1, va_up_ne _ _ h2]
  refine lv_aload_n hx hb d_P_init_13 rfl (lv_at hl 0 rfl) ?_
  refine lv_sipush (v := 4096) hx hb d_P_init_14 (by decide) ?_
  refine tp_i (v := nI 4096) (rfl) ?_
  refine newB hC hw (gg_of (by decide +kernel) (by decide +kernel)) (by decide) (Nat.le_of_ble_eq_true rfl) (Nat.le_of_ble_eq_true rfl) d_P_init_17 (fun cp H hcp hw => ?_)
  have xcp : x ≠ cp := ne_in (mem_l hx9) hcp
  have mcp : ms ≠ cp := ne_in mem_r hcp
  refine putF_P hC hw hnm rfl (mem_l (mem_l hx9)) ((va_up_ne _ _ xcp).trans x1) 1 (by decide) k_fl_P_15 rfl rfl rfl rfl (Nat.le_of_ble_eq_true rfl) d_P_init_19 (fun H locs hw => ?_)
  obtain ⟨f2, hf2⟩ : ∃ F, F = va_up (va_up f1 cp (.inl (kc 0, 4096, .inl (fun _ => 0)))) x (.inr (2, [.ref ms, .ref cp, .int 0, .int 0])) := ⟨_, rfl⟩
  have hw := pw_as (f' := f2) hw rfl hf2.symm
  have x2 : f2 x = .inr (2, [.ref ms, .ref cp, .int 0, .int 0]) := by rw [hf2]; exact va_up_self _ _ _
  have c2 : f2 cp = .inl (kc 0, 4096, .inl (fun _ => 0)) := by rw [hf2, va_up_ne _ _ (Ne.symm xcp)]; exact va_up_self _ _ _
  have k2 : ∀ a, a ≠ x → a ≠ cp → f2 a = f1 a := fun a h1 h2 => by rw [hf2, va_up_ne _ _ h1, va_up_ne _ _ h2]
  refine lv_aload_n hx hb d_P_init_22 rfl (lv_at hl 0 rfl) ?_
  refine lv_iconst (v := 0) hx hb d_P_init_23 (by decide) ?_
  refine put_P hC hw (mem_l (mem_l hx9)) x2 2 (by decide) k_fl_P_19 rfl rfl rfl (Nat.le_of_ble_eq_true rfl) d_P_init_24 (fun H locs hw => ?_)
  refine lv_aload_n hx hb d_P_init_27 rfl (lv_at hl 0 rfl) ?_
  refine lv_iconst (v := 0) hx hb d_P_init_28 (by decide) ?_
  refine put_P hC hw (mem_l (mem_l hx9)) (va_up_self _ _ _) 3 (by decide) k_fl_P_23 rfl rfl rfl (Nat.le_of_ble_eq_true rfl) d_P_init_29 (fun H locs hw => ?_)
  obtain ⟨f3, hf3⟩ : ∃ F, F = va_up (va_up f2 x (.inr (2, [.ref ms, .ref cp, .int 0, .int 0]))) x (.inr (2, [.ref ms, .ref cp, .int 0, .int 0])) := ⟨_, rfl⟩
  have hw := pw_as (f' := f3) hw rfl hf3.symm
  have k3 : ∀ a, f3 a = f2 a := fun a => by
    by_cases q : a = x
    · rw [q, hf3, va_up_self, x2]
    · rw [hf3, va_up_ne _ _ q, va_up_ne _ _ q]
  obtain ⟨t3, ht3⟩ : ∃ T, T = va_up (va_up (va_up tg x (100, 0)) ms (100, 1)) cp (100, 2) := ⟨_, rfl⟩
  have tx : t3 x = (100, 0) := by rw [ht3, va_up_ne _ _ xcp, va_up_ne _ _ xms, va_up_self]
  have tm : t3 ms = (100, 1) := by rw [ht3, va_up_ne _ _ mcp, va_up_self]
  have tc : t3 cp = (100, 2) := by rw [ht3, va_up_self]
  refine W.widen (k := 2) (n := 4120) (by omega) (by omega) ?_
  have kk9 : ∀ a, a ∈ L → a ≠ x → f3 a = f a ∧ t3 a = tg a := fun a ha hne => by
    have e1 : a ≠ ms := ne_in ha hms
    have e2 : a ≠ cp := ne_in (mem_l ha) hcp
    exact ⟨by rw [k3, k2 a hne e2, k1 a hne e1], by rw [ht3, va_up_ne _ _ e2, va_up_ne _ _ e1, va_up_ne _ _ hne]⟩
  have nn9 : ∀ a, a ∈ (L ++ [ms]) ++ [cp] → a ∉ L → (t3 a).1 = 100 := fun a ha hn => by
    rcases List.mem_append.mp ha with h | h
    · rcases List.mem_append.mp h with h | h
      · exact absurd h hn
      · rw [List.mem_singleton.mp h, tm]
    · rw [List.mem_singleton.mp h, tc]
  exact pg_vret hC.1 hw (⟨t3, ⟨ms, cp, (fun _ => none), (fun _ => 0), ⟨⟨⟨mem_l (mem_l hx9), tx, (k3 x).trans x2⟩, ⟨mem_l mem_r, tm, (k3 ms).trans ((k2 ms (Ne.symm xms) mcp).trans m1)⟩, ⟨mem_r, tc, (k3 cp).trans c2⟩⟩, fun _ _ _ => rfl, fun k hk => absurd hk (Nat.not_lt_zero k)⟩⟩, fun a ha => mem_l (mem_l ha), kk9, nn9⟩) d_P_init_32
end
section
/-! THE PICTURE OF THE REFERENCE (region 200) -/
/-- the byte j of its row R -/
def md (om : Nat → Nat) (al : Nat) (bs : Nat → Nat → Nat) (R j : Nat) : Nat := if R / 64 < al then bs (om (R / 64)) (65536 * cnt om (R / 64) (om (R / 64)) + 1024 * (R % 64) + j) else 0
def brow (kc : Nat → ClassId) (L : List Nat) (f : Nat → va_E) (tg : Nat → Nat × Nat) (R : Nat) (o : Option Nat) (c : Nat → Nat) : Prop :=
  (o = none ∧ ∀ j, j < 1024 → c j = 0) ∨ (∃ (b : Nat) (h : Nat → Int32), o = some b ∧ b ∈ L ∧ tg b = (200, 6 + R) ∧ f b = .inl (kc 0, 1024, .inl h) ∧ ∀ j, j < 1024 → h j = sb_b (c j))
def modG (kc : Nat → ClassId) (L : List Nat) (f : Nat → va_E) (tg : Nat → Nat × Nat) (d mst ow ix bb cpy : Nat) (gb : Nat → Option Nat) (hm ho hi hc : Nat → Int32) (th : Int32) (n : Nat) (mo : Nat → Int32) (om : Nat → Nat) (al : Nat) (bs : Nat → Nat → Nat) : Prop :=
  (d ∈ L ∧ tg d = (200, 0) ∧ f d = .inr (3, [.int th, .int (nI n), .ref mst, .int (nI al), .ref ow, .ref ix, .ref bb, .ref cpy])) ∧ (mst ∈ L ∧ tg mst = (200, 1) ∧ f mst = .inl (kc 3, 24, .inl hm)) ∧ (ow ∈ L ∧ tg ow = (200, 2) ∧ f ow = .inl (kc 3, 16, .inl ho)) ∧ (ix ∈ L ∧ tg ix = (200, 3) ∧ f ix = .inl (kc 3, 16, .inl hi)) ∧ (bb ∈ L ∧ tg bb = (200, 4) ∧ f bb = .inl (kc 4, 1024, .inr (.inr (.inr (.inr gb))))) ∧ (cpy ∈ L ∧ tg cpy = (200, 5) ∧ f cpy = .inl (kc 3, 4096, .inl hc)) ∧
  (∀ k, k < n → hm k = mo k) ∧ (∀ k, k < al → ho k = nI (om k) ∧ hi k = nI (cnt om k (om k))) ∧ ∀ R, R < 1024 → brow kc L f tg R (gb R) (md om al bs R)
def modP (kc : Nat → ClassId) (L : List Nat) (f : Nat → va_E) (tg : Nat → Nat × Nat) (d : Nat) (th : Int32) (n : Nat) (mo : Nat → Int32) (om : Nat → Nat) (al : Nat) (bs : Nat → Nat → Nat) : Prop := ∃ (mst ow ix bb cpy : Nat) (gb : Nat → Option Nat) (hm ho hi hc : Nat → Int32), modG kc L f tg d mst ow ix bb cpy gb hm ho hi hc th n mo om al bs
def SD : Nat → Prop := fun i => i = 200
theorem brow_keep {kc : Nat → ClassId} {L L' : List Nat} {f f' : Nat → va_E} {tg tg' : Nat → Nat × Nat} {R : Nat} {o : Option Nat} {c c' : Nat → Nat} (h : brow kc L f tg R o c) (hL : ∀ a, a ∈ L → a ∈ L') (ht : ∀ a, a ∈ L → tg' a = tg a) (hf : ∀ a, a ∈ L → tg a = (200, 6 + R) → f' a = f a) (hc : ∀ j, j < 1024 → c' j = c j) : brow kc L' f' tg' R o c' := by
  rcases h with ⟨h1, h2⟩ | ⟨b, hh, h1, h2, h3, h4, h5⟩
  · exact Or.inl ⟨h1, fun j hj => by rw [hc j hj]; exact h2 j hj⟩
  · exact Or.inr ⟨b, hh, h1, hL b h2, by rw [ht b h2]; exact h3, by rw [hf b h2 h3]; exact h4, fun j hj => by rw [hc j hj]; exact h5 j hj⟩
section MD
variable {kc : Nat → ClassId} {L : List Nat} {f : Nat → va_E} {tg : Nat → Nat × Nat} {d mst ow ix bb cpy : Nat} {gb : Nat → Option Nat} {hm ho hi hc : Nat → Int32} {th : Int32} {n : Nat} {mo : Nat → Int32} {om : Nat → Nat} {al : Nat} {bs : Nat → Nat → Nat}
theorem mod_ext {S : Nat → Prop} {u : pU} {tg' : Nat → Nat × Nat} (h : modG kc L f tg d mst ow ix bb cpy gb hm ho hi hc th n mo om al bs) (he : Ext S L f tg u tg') (hS : ¬ S 200) : modG kc u.1 u.2 tg' d mst ow ix bb cpy gb hm ho hi hc th n mo om al bs := by
  obtain ⟨⟨a1, a2, a3⟩, ⟨b1, b2, b3⟩, ⟨c1, c2, c3⟩, ⟨d1, d2, d3⟩, ⟨e1, e2, e3⟩, ⟨g1, g2, g3⟩, k1, k2, k3⟩ := h
  have kf : ∀ a, a ∈ L → (tg a).1 = 200 → u.2 a = f a := fun a ha ht => he.2.2.1 a ha (by rw [ht]; exact hS)
  exact ⟨⟨he.1 _ a1, by rw [he.2.1 _ a1]; exact a2, by rw [kf _ a1 (by rw [a2])]; exact a3⟩, ⟨he.1 _ b1, by rw [he.2.1 _ b1]; exact b2, by rw [kf _ b1 (by rw [b2])]; exact b3⟩, ⟨he.1 _ c1, by rw [he.2.1 _ c1]; exact c2, by rw [kf _ c1 (by rw [c2])]; exact c3⟩, ⟨he.1 _ d1, by rw [he.2.1 _ d1]; exact d2, by rw [kf _ d1 (by rw [d2])]; exact d3⟩, ⟨he.1 _ e1, by rw [he.2.1 _ e1]; exact e2, by rw [kf _ e1 (by rw [e2])]; exact e3⟩, ⟨he.1 _ g1, by rw [he.2.1 _ g1]; exact g2, by rw [kf _ g1 (by rw [g2])]; exact g3⟩, k1, k2, fun R hR => brow_keep (k3 R hR) he.1 he.2.1 (fun a ha ht => kf a ha (by rw [ht])) (fun _ _ => rfl)⟩
/-- cells of its own have changed, but no row -/
theorem mod_upd {f' : Nat → va_E} {hm' ho' hi' hc' : Nat → Int32} {th' : Int32} {n' : Nat} {mo' : Nat → Int32} {om' : Nat → Nat} {al' : Nat} {bs' : Nat → Nat → Nat} (h : modG kc L f tg d mst ow ix bb cpy gb hm ho hi hc th n mo om al bs) (e0 : f' d = .inr (3, [.int th', .int (nI n'), .ref mst, .int (nI al'), .ref ow, .ref ix, .ref bb, .ref cpy])) (e1 : f' mst = .inl (kc 3, 24, .inl hm')) (e2 : f' ow = .inl (kc 3, 16, .inl ho')) (e3 : f' ix = .inl (kc 3, 16, .inl hi')) (e5 : f' cpy = .inl (kc 3, 4096, .inl hc')) (hk : ∀ a, a ∈ L → a ≠ d → a ≠ mst → a ≠ ow → a ≠ ix → a ≠ cpy → f' a = f a) (c1 : ∀ k, k < n' → hm' k = mo' k) (c2 : ∀ k, k < al' → ho' k = nI (om' k) ∧ hi' k = nI (cnt om' k (om' k))) (c3 : ∀ R, R < 1024 → ∀ j, j < 1024 → md om' al' bs' R j = md om al bs R j) :
    modG kc L f' tg d mst ow ix bb cpy gb hm' ho' hi' hc' th' n' mo' om' al' bs' ∧ Ext SD L f tg (L, f') tg := by
  obtain ⟨⟨a1, a2, a3⟩, ⟨b1, b2, b3⟩, ⟨d1, d2, d3⟩, ⟨e9, e8, e7⟩, ⟨g1, g2, g3⟩, ⟨i1, i2, i3⟩, k1, k2, k3⟩ := h
  have kf : ∀ a, a ∈ L → tg a ≠ (200, 0) → tg a ≠ (200, 1) → tg a ≠ (200, 2) → tg a ≠ (200, 3) → tg a ≠ (200, 5) → f' a = f a := fun a ha z0 z1 z2 z3 z5 => hk a ha (fun e => z0 (e ▸ a2)) (fun e => z1 (e ▸ b2)) (fun e => z2 (e ▸ d2)) (fun e => z3 (e ▸ e8)) (fun e => z5 (e ▸ i2))
  refine ⟨⟨⟨a1, a2, e0⟩, ⟨b1, b2, e1⟩, ⟨d1, d2, e2⟩, ⟨e9, e8, e3⟩, ⟨g1, g2, by rw [kf _ g1 (by rw [g2]; simp) (by rw [g2]; simp) (by rw [g2]; simp) (by rw [g2]; simp) (by rw [g2]; simp)]; exact g3⟩, ⟨i1, i2, e5⟩, c1, c2, fun R hR => brow_keep (k3 R hR) (fun _ h => h) (fun _ _ => rfl) (fun a ha ht => kf a ha ?_ ?_ ?_ ?_ ?_) (c3 R hR)⟩, fun _ h => h, fun _ _ => rfl, fun a ha hs => kf a ha ?_ ?_ ?_ ?_ ?_, fun _ h h2 => absurd h h2⟩
  all_goals first | (rw [ht]; simp only [ne_eq, Prod.mk.injEq, not_and]; omega) | (intro z; exact hs (by rw [z]; rfl))
/-- where a page lies -/
theorem cnt_mono (om : Nat → Nat) (k a : Nat) : ∀ d, cnt om a k ≤ cnt om (a + d) k
  | 0 => Nat.le_refl _
  | d + 1 => Nat.le_trans (cnt_mono om k a d) (Nat.le_add_right _ _)
theorem cnt_step {om : Nat → Nat} {k a : Nat} (h : om a = k) : cnt om (a + 1) k = cnt om a k + 1 := by
  show cnt om a k + (if om a = k then 1 else 0) = _
  rw [if_pos h]
theorem sl_un {om : Nat → Nat} {k a b : Nat} (ha : om a = k) (hb : om b = k) (h : cnt om a k = cnt om b k) : a = b := by
  rcases Nat.lt_trichotomy a b with q | q | q
  · have h1 := cnt_mono om k (a + 1) (b - (a + 1))
    rw [show a + 1 + (b - (a + 1)) = b by omega, cnt_step ha] at h1
    omega
  · exact q
  · have h1 := cnt_mono om k (b + 1) (a - (b + 1))
    rw [show b + 1 + (a - (b + 1)) = a by omega, cnt_step hb] at h1
    omega
theorem sl_ex {om : Nat → Nat} {k : Nat} : ∀ al i, i < cnt om al k → ∃ s, s < al ∧ om s = k ∧ cnt om s k = i
  | 0, i, h => absurd h (Nat.not_lt_zero i)
  | al + 1, i, h => by
    by_cases q : i < cnt om al k
    · obtain ⟨s, h1, h2, h3⟩ := sl_ex al i q
      exact ⟨s, by omega, h2, h3⟩
    · have h2 : i < cnt om al k + (if om al = k then 1 else 0) := h
      by_cases e : om al = k
      · rw [if_pos e] at h2
        exact ⟨al, by omega, e, by omega⟩
      · rw [if_neg e] at h2
        omega
/-- the row and the place in it of the place p of memory k -/
theorem md_at {s p k : Nat} (h1 : s < al) (h2 : om s = k) (h3 : cnt om s k = p / 65536) : md om al bs (64 * s + p % 65536 / 1024) (p % 1024) = bs k p := by
  unfold md
  rw [show (64 * s + p % 65536 / 1024) / 64 = s by omega, if_pos h1, h2, h3, show (64 * s + p % 65536 / 1024) % 64 = p % 65536 / 1024 by omega]
  congr 1
  omega
theorem md_up {s p k v : Nat} (h1 : s < al) (h2 : om s = k) (h3 : cnt om s k = p / 65536) (R j : Nat) (hj : j < 1024) : md om al (va_up bs k (va_up (bs k) p v)) R j = if R = 64 * s + p % 65536 / 1024 ∧ j = p % 1024 then v else md om al bs R j := by
  by_cases q : R = 64 * s + p % 65536 / 1024 ∧ j = p % 1024
  · rw [if_pos q, q.1, q.2, md_at h1 h2 h3, va_up_self, va_up_self]
  · rw [if_neg q]
    unfold md
    by_cases ha : R / 64 < al
    · rw [if_pos ha, if_pos ha]
      by_cases hk : om (R / 64) = k
      · rw [hk, va_up_self]
        refine va_up_ne _ _ (fun e => q ?_)
        have e2 : cnt om (R / 64) k = p / 65536 := by omega
        have e3 : R / 64 = s := sl_un hk h2 (e2.trans h3.symm)
        omega
      · rw [va_up_ne _ _ hk]
    · rw [if_neg ha, if_neg ha]
end MD
end
section
/-! the reference: a byte is put, a row comes -/
def isRow (om : Nat → Nat) (al k p R : Nat) : Prop := ∃ s, s < al ∧ om s = k ∧ cnt om s k = p / 65536 ∧ R = 64 * s + p % 65536 / 1024
theorem isRow_un {om : Nat → Nat} {al k p p' R R' : Nat} (h : isRow om al k p R) (h' : isRow om al k p' R') (e : p / 1024 = p' / 1024) : R = R' := by
  obtain ⟨s, h1, h2, h3, h4⟩ := h
  obtain ⟨s', g1, g2, g3, g4⟩ := h'
  have := sl_un h2 g2 (by omega)
  omega
theorem isRow_lt {om : Nat → Nat} {al k p R : Nat} (ha : al ≤ 16) (h : isRow om al k p R) : R < 1024 := by
  obtain ⟨s, h1, h2, h3, h4⟩ := h
  omega
theorem isRow_ex {om : Nat → Nat} {al k p : Nat} (h : p < 65536 * cnt om al k) : ∃ R, isRow om al k p R := by
  obtain ⟨s, h1, h2, h3⟩ := sl_ex al (p / 65536) (by omega : p / 65536 < cnt om al k)
  exact ⟨_, s, h1, h2, h3, rfl⟩
section MP
variable {kc : Nat → ClassId} {L : List Nat} {f : Nat → va_E} {tg : Nat → Nat × Nat} {d mst ow ix bb cpy : Nat} {gb : Nat → Option Nat} {hm ho hi hc : Nat → Int32} {th : Int32} {n : Nat} {mo : Nat → Int32} {om : Nat → Nat} {al : Nat} {bs : Nat → Nat → Nat}
theorem mod_put (h : modG kc L f tg d mst ow ix bb cpy gb hm ho hi hc th n mo om al bs) {k p v R b : Nat} {hh : Nat → Int32} (hr : isRow om al k p R) (hg : gb R = some b) (hb : b ∈ L) (htb : tg b = (200, 6 + R)) (hfb : f b = .inl (kc 0, 1024, .inl hh)) (hv : ∀ j, j < 1024 → hh j = sb_b (md om al bs R j)) :
    modG kc L (va_up f b (.inl (kc 0, 1024, .inl (upd hh (p % 1024) (sb_b v))))) tg d mst ow ix bb cpy gb hm ho hi hc th n mo om al (va_up bs k (va_up (bs k) p v)) ∧ Ext SD L f tg (L, va_up f b (.inl (kc 0, 1024, .inl (upd hh (p % 1024) (sb_b v))))) tg := by
  obtain ⟨⟨a1, a2, a3⟩, ⟨b1, b2, b3⟩, ⟨c1, c2, c3⟩, ⟨d1, d2, d3⟩, ⟨e1, e2, e3⟩, ⟨g1, g2, g3⟩, k1, k2, k3⟩ := h
  obtain ⟨s, s1, s2, s3, s4⟩ := id hr
  have ne : ∀ a, tg a ≠ (200, 6 + R) → va_up f b (.inl (kc 0, 1024, .inl (upd hh (p % 1024) (sb_b v)))) a = f a := fun a ha => va_up_ne _ _ (fun q => ha (by rw [q]; exact htb))
  have nz : ∀ i, i < 6 → ((200 : Nat), i) ≠ (200, 6 + R) := fun i hi => by simp only [ne_eq, Prod.mk.injEq, not_and]; omega
  refine ⟨⟨⟨a1, a2, by rw [ne _ (by rw [a2]; exact nz 0 (by decide))]; exact a3⟩, ⟨b1, b2, by rw [ne _ (by rw [b2]; exact nz 1 (by decide))]; exact b3⟩, ⟨c1, c2, by rw [ne _ (by rw [c2]; exact nz 2 (by decide))]; exact c3⟩, ⟨d1, d2, by rw [ne _ (by rw [d2]; exact nz 3 (by decide))]; exact d3⟩, ⟨e1, e2, by rw [ne _ (by rw [e2]; exact nz 4 (by decide))]; exact e3⟩, ⟨g1, g2, by rw [ne _ (by rw [g2]; exact nz 5 (by decide))]; exact g3⟩, k1, k2, fun R2 hR2 => ?_⟩, Ext_up (by rw [htb]; rfl)⟩
  by_cases e : R2 = R
  · subst e
    refine Or.inr ⟨b, _, hg, hb, htb, va_up_self _ _ _, fun j hj => ?_⟩
    rw [md_up s1 s2 s3 _ _ hj]
    by_cases q : j = p % 1024
    · rw [if_pos ⟨s4, q⟩, q, pk_us]
    · rw [if_neg (fun z => q z.2), pk_un q]
      exact hv j hj
  · refine brow_keep (k3 R2 hR2) (fun _ h => h) (fun _ _ => rfl) (fun a _ ht => ne a (by rw [ht]; simp only [ne_eq, Prod.mk.injEq, not_and]; omega)) (fun j hj => ?_)
    rw [md_up s1 s2 s3 _ _ hj, if_neg (fun z => e (z.1.trans s4.symm))]
/-- nothing is put where 0 lies -/
theorem mod_zero (h : modG kc L f tg d mst ow ix bb cpy gb hm ho hi hc th n mo om al bs) {k p R : Nat} (hr : isRow om al k p R) (hR : R < 1024) (hg : gb R = none) : va_up bs k (va_up (bs k) p 0) = bs := by
  obtain ⟨s, s1, s2, s3, s4⟩ := hr
  have hz : bs k p = 0 := by
    rcases h.2.2.2.2.2.2.2.2 R hR with ⟨-, z⟩ | ⟨b, hh, z, -⟩
    · rw [← md_at (bs := bs) s1 s2 s3, ← s4]; exact z _ (by omega)
    · rw [hg] at z; cases z
  funext a j
  by_cases q : a = k
  · subst q
    rw [va_up_self]
    by_cases q2 : j = p
    · rw [q2, va_up_self, hz]
    · rw [va_up_ne _ _ q2]
  · rw [va_up_ne _ _ q]
theorem mod_new (h : modG kc L f tg d mst ow ix bb cpy gb hm ho hi hc th n mo om al bs) {R q : Nat} {f' : Nat → va_E} (hR : R < 1024) (hg : gb R = none) (hq : q ∉ L) (h1 : f' q = .inl (kc 0, 1024, .inl (fun _ => 0))) (h2 : f' bb = .inl (kc 4, 1024, .inr (.inr (.inr (.inr (va_up gb R (some q))))))) (h3 : ∀ a, a ∈ L → a ≠ bb → f' a = f a) :
    ∃ tg', modG kc (L ++ [q]) f' tg' d mst ow ix bb cpy (va_up gb R (some q)) hm ho hi hc th n mo om al bs ∧ Ext SD L f tg (L ++ [q], f') tg' ∧ tg' q = (200, 6 + R) := by
  obtain ⟨⟨a1, a2, a3⟩, ⟨b1, b2, b3⟩, ⟨c1, c2, c3⟩, ⟨d1, d2, d3⟩, ⟨e1, e2, e3⟩, ⟨g1, g2, g3⟩, k1, k2, k3⟩ := h
  have kt : ∀ a, a ∈ L → va_up tg q (200, 6 + R) a = tg a := fun a ha => va_up_ne _ _ (ne_in ha hq)
  have kf : ∀ a, a ∈ L → tg a ≠ (200, 4) → f' a = f a := fun a ha hz => h3 a ha (fun e => hz (e ▸ e2))
  refine ⟨va_up tg q (200, 6 + R), ⟨⟨mem_l a1, by rw [kt _ a1]; exact a2, by rw [kf _ a1 (by rw [a2]; simp)]; exact a3⟩, ⟨mem_l b1, by rw [kt _ b1]; exact b2, by rw [kf _ b1 (by rw [b2]; simp)]; exact b3⟩, ⟨mem_l c1, by rw [kt _ c1]; exact c2, by rw [kf _ c1 (by rw [c2]; simp)]; exact c3⟩, ⟨mem_l d1, by rw [kt _ d1]; exact d2, by rw [kf _ d1 (by rw [d2]; simp)]; exact d3⟩, ⟨mem_l e1, by rw [kt _ e1]; exact e2, h2⟩, ⟨mem_l g1, by rw [kt _ g1]; exact g2, by rw [kf _ g1 (by rw [g2]; simp)]; exact g3⟩, k1, k2, fun R2 hR2 => ?_⟩, ⟨fun a ha => mem_l ha, kt, fun a ha hs => kf a ha (fun z => hs (by rw [z]; rfl)), fun a ha hn => ?_⟩, va_up_self _ _ _⟩
  · by_cases e : R2 = R
    · subst e
      have hz : ∀ j, j < 1024 → md om al bs R2 j = 0 := by
        rcases k3 R2 hR2 with ⟨-, z⟩ | ⟨b, hh, z, -⟩
        · exact z
        · rw [hg] at z; cases z
      exact Or.inr ⟨q, fun _ => 0, va_up_self _ _ _, mem_r, va_up_self _ _ _, h1, fun j hj => by rw [hz j hj]; rfl⟩
    · rw [va_up_ne _ _ e]
      exact brow_keep (k3 R2 hR2) (fun a ha => mem_l ha) kt (fun a ha ht => kf a ha (by rw [ht]; simp only [ne_eq, Prod.mk.injEq, not_and]; omega)) (fun _ _ => rfl)
  · rcases List.mem_append.mp ha with h | h
    · exact absurd h hn
    · rw [List.mem_singleton.mp h, va_up_self]; rfl
end MP
end
section
/-! The reference: its leaves -/
set_option maxHeartbeats 4000000 in
set_option maxRecDepth 100000 in
theorem c_D_thrown (l : Launch) (D : va_G) (kc : Nat → ClassId) (L : List Nat) (f : Nat → va_E) (sz : Nat) (d mst ow ix bb cpy : Nat) (gb : Nat → Option Nat) (hm9 ho9 hi9 hc9 : Nat → Int32) (tg : Nat → Nat × Nat) (th : Int32) (nm : Nat) (mo : Nat → Int32) (om : Nat → Nat) (al : Nat) (bs : Nat → Nat → Nat) (hg : modG kc L f tg d mst ow ix bb cpy gb hm9 ho9 hi9 hc9 th nm mo om al bs) (hs : stOK nm mo om al bs) : Met l y_D_thrown w_D_thrown ({ frames := 0, cells := 0, slots := 0, locals := 0 }) (PP D kc L f sz [.ref d]) (Qi D L f sz (fun r u => r = th ∧ u = (L, f))) 0 0 (pA L f sz) := by
  refine kx_met (by decide) (Nat.le_of_ble_eq_true rfl) ?_
  intro p e s m below meth c hC hnm hw hsz ls hl
  subst hsz
  have hl : lv_has ls 1 [(0, .ref d)] := hl
  obtain ⟨⟨⟨hx, hb, hml, hown, hts⟩, hret9, hlocks⟩, hK, hE, hA⟩ := id hC
  obtain ⟨⟨hdL, htd, hfd⟩, ⟨hmL, htm, hfm⟩, ⟨hoL, hto, hfo⟩, ⟨hiL, hti, hfi⟩, ⟨hbL, htb, hfb⟩, ⟨hcL, htc, hfc⟩, hk1, hk2, hk3⟩ := id hg
  refine lv_aload_n hx hb d_D_thrown_0 rfl (lv_at hl 0 rfl) ?_
  refine get_D hC hw hdL hfd 0 (by decide) k_fl_D_28 rfl d_D_thrown_1 ?_
  exact pg_iret hC.1 hw (⟨rfl, rfl⟩) d_D_thrown_4
set_option maxHeartbeats 4000000 in
set_option maxRecDepth 100000 in
theorem c_D_isMemory (l : Launch) (D : va_G) (kc : Nat → ClassId) (L : List Nat) (f : Nat → va_E) (sz : Nat) (d mst ow ix bb cpy : Nat) (gb : Nat → Option Nat) (hm9 ho9 hi9 hc9 : Nat → Int32) (tg : Nat → Nat × Nat) (th : Int32) (nm : Nat) (mo : Nat → Int32) (om : Nat → Nat) (al : Nat) (bs : Nat → Nat → Nat) (hg : modG kc L f tg d mst ow ix bb cpy gb hm9 ho9 hi9 hc9 th nm mo om al bs) (hs : stOK nm mo om al bs) (mm : Int32) : Met l y_D_isMemory w_D_isMemory ({ frames := 0, cells := 0, slots := 0, locals := 0 }) (PP D kc L f sz [.ref d, .int mm]) (Qi D L f sz (fun r u => ((r = 1 ∧ ∃ k, k < nm ∧ mm = nI k) ∨ (r = 0 ∧ ¬ (∃ k, k < nm ∧ mm = nI k))) ∧ u = (L, f))) 0 0 (pA L f sz) := by
  refine kx_met (by decide) (Nat.le_of_ble_eq_true rfl) ?_
  intro p e s m below meth c hC hnm hw hsz ls hl
  subst hsz
  have hl : lv_has ls 2 [(0, .ref d), (1, .int mm)] := hl
  obtain ⟨⟨⟨hx, hb, hml, hown, hts⟩, hret9, hlocks⟩, hK, hE, hA⟩ := id hC
  obtain ⟨⟨hdL, htd, hfd⟩, ⟨hmL, htm, hfm⟩, ⟨hoL, hto, hfo⟩, ⟨hiL, hti, hfi⟩, ⟨hbL, htb, hfb⟩, ⟨hcL, htc, hfc⟩, hk1, hk2, hk3⟩ := id hg
  obtain ⟨hs1, hs2, hs3, hs4, hs5, hs6⟩ := id hs
  refine lv_iload_n hx hb d_D_isMemory_0 rfl (lv_at hl 1 rfl) ?_
  refine lv_if_lt (tgt := 16) hx hb d_D_isMemory_1 (by decide) (fun c1 => ?_) (fun c1 => ?_)
  · refine lv_iconst (v := 0) hx hb d_D_isMemory_16 (by decide) ?_
    exact pg_zret hC.1 hw (by decide) (⟨Or.inr ⟨rfl, fun h => by obtain ⟨k, h1, rfl⟩ := h; exact nI_pos (by omega) c1⟩, rfl⟩) d_D_isMemory_17
  · refine lv_iload_n hx hb d_D_isMemory_4 rfl (lv_at hl 1 rfl) ?_
    refine lv_aload_n hx hb d_D_isMemory_5 rfl (lv_at hl 0 rfl) ?_
    refine get_D hC hw hdL hfd 1 (by decide) k_fl_D_32 rfl d_D_isMemory_6 ?_
    refine lv_icmp_ge (tgt := 16) hx hb d_D_isMemory_9 (by decide) (fun c2 => ?_) (fun c2 => ?_)
    · refine lv_iconst (v := 0) hx hb d_D_isMemory_16 (by decide) ?_
      exact pg_zret hC.1 hw (by decide) (⟨Or.inr ⟨rfl, fun h => by obtain ⟨k, h1, rfl⟩ := h; exact nI_ge h1 (by omega) c2⟩, rfl⟩) d_D_isMemory_17
    · refine lv_iconst (v := 1) hx hb d_D_isMemory_12 (by decide) ?_
      refine lv_goto (tgt := 17) hx hb d_D_isMemory_13 (by decide) ?_
      obtain ⟨j, h1, h2, -⟩ := pk_mu (L := nm) c1 c2 (by omega)
      exact pg_zret hC.1 hw (by decide) (⟨Or.inl ⟨rfl, j, h1, h2⟩, rfl⟩) d_D_isMemory_17
set_option maxHeartbeats 4000000 in
set_option maxRecDepth 100000 in
theorem lp_count {p : Program} {l : Launch} {e : Env} {R : Room} {s : State} {m : MethodId} {args : Array Value} {below : List Frame} {meth : Method} {c : Code} {Q : State → Prop} {A : Nat → Prop} {D : va_G} {kc : Nat → ClassId} {c0 : Cond} {ret : Option FieldType} {L : List Nat} {f : Nat → va_E} {d mst ow ix bb cpy : Nat} {gb : Nat → Option Nat} {hm9 ho9 hi9 hc9 : Nat → Int32} {tg : Nat → Nat × Nat} {th : Int32} {nm : Nat} {mo : Nat → Int32} {om : Nat → Nat} {al : Nat} {bs : Nat → Nat → Nat} (hg : modG kc L f tg d mst ow ix bb cpy gb hm9 ho9 hi9 hc9 th nm mo om al bs) (hs : stOK nm mo om al bs) {cells slots : Nat} (k : Nat) (hk : k < nm) (hC : Kx p m c b_D_count 4 s args c0 R_D meth ret D kc A) (hRf : 0 ≤ R.frames) (hRl : 0 ≤ R.locals)
    (kont : ∀ (H : Heap) (locs : List Loc) (ls : Array Slot), pw D Cls A s.heap H locs L f → lv_has ls 4 [(2, .int (nI (cnt om al k)))] → W p l e R s m args below meth c H locs cells slots Q (F0 m 36 ls [])) :
    ∀ (n : Nat) (i : Nat) (H : Heap) (locs : List Loc) (ls : Array Slot), i ≤ al → al + 1 ≤ i + n → pw D Cls A s.heap H locs L f → lv_has ls 4 [(3, .int (nI i)), (2, .int (nI (cnt om i k))), (0, .ref d), (1, .int (nI k))] → W p l e R s m args below meth c H locs cells slots Q (F0 m 4 ls []) := by
  obtain ⟨⟨⟨hx, hb, hml, hown, hts⟩, hret9, hlocks⟩, hK, hE, hA⟩ := id hC
  intro n
  induction n with
  | zero => intro i H locs ls hi hin hw hl; exact absurd hin (by omega)
  | succ n ih =>
    intro i H locs ls hi hin hw hl
    obtain ⟨⟨hdL, htd, hfd⟩, ⟨hmL, htm, hfm⟩, ⟨hoL, hto, hfo⟩, ⟨hiL, hti, hfi⟩, ⟨hbL, htb, hfb⟩, ⟨hcL, htc, hfc⟩, hk1, hk2, hk3⟩ := id hg
    obtain ⟨hs1, hs2, hs3, hs4, hs5, hs6⟩ := id hs
    refine lv_iload_n hx hb d_D_count_4 rfl (lv_at hl 0 rfl) ?_
    refine lv_aload_n hx hb d_D_count_5 rfl (lv_at hl 2 rfl) ?_
    refine get_D hC hw hdL hfd 3 (by decide) k_fl_D_35 rfl d_D_count_6 ?_
    refine lv_icmp_ge (tgt := 36) hx hb d_D_count_9 (by decide) (fun c1 => ?_) (fun c1 => ?_)
    · have e : i = al := by
        rcases Nat.lt_or_ge i al with q | q
        · exact absurd c1 (nI_ge q (by omega))
        · omega
      subst e
      exact kont H locs ls hw (lv_sub hl [1] rfl)
    · have hlt : i < al := by
        rcases Nat.lt_or_ge i al with q | q
        · exact q
        · exact absurd (nI_le q (by omega)) c1
      have homi := hs3 i hlt
      refine lv_aload_n hx hb d_D_count_12 rfl (lv_at hl 2 rfl) ?_
      refine get_D hC hw hdL hfd 4 (by decide) k_fl_D_13 rfl d_D_count_13 ?_
      refine lv_iload_n hx hb d_D_count_16 rfl (lv_at hl 0 rfl) ?_
      refine ald_I hC hw hoL hfo (by omega) (by decide) d_D_count_17 ?_
      refine tp_i (v := nI (om i)) ((hk2 i hlt).1) ?_
      refine lv_iload_n hx hb d_D_count_18 rfl (lv_at hl 3 rfl) ?_
      refine lv_icmp_ne (tgt := 28) hx hb d_D_count_19 (by decide) (fun c2 => ?_) (fun c2 => ?_)
      · have hne : om i ≠ k := fun e => c2 (by rw [e])
        have hce : cnt om (i + 1) k = cnt om i k := by show cnt om i k + (if om i = k then 1 else 0) = _; rw [if_neg hne]; rfl
        refine lv_iload_n hx hb d_D_count_28 rfl (lv_at hl 1 rfl) ?_
        refine tp_i (v := nI (cnt om (i + 1) k)) (by rw [hce]) ?_
        refine lv_istore_n (lv' := [(2, .int (nI (cnt om (i + 1) k))), (3, .int (nI i)), (0, .ref d), (1, .int (nI k))]) hx hb d_D_count_29 rfl hl (by decide) rfl (fun ls hl => ?_)
        refine lv_iinc (v := nI (i + 1)) (lv' := [(3, .int (nI (i + 1))), (2, .int (nI (cnt om (i + 1) k))), (0, .ref d), (1, .int (nI k))]) hx hb d_D_count_30 hl (k := 1) rfl (nI_1 i) (by decide) rfl (fun ls hl => ?_)
        refine lv_goto (tgt := 4) hx hb d_D_count_33 (by decide) ?_
        exact ih (i + 1) _ _ _ (by omega) (by omega) hw (lv_sub hl [0, 1, 2, 3] rfl)
      · have heq : om i = k := (nI_eq (by omega) (by omega)).mp c2
        refine lv_iload_n hx hb d_D_count_22 rfl (lv_at hl 1 rfl) ?_
        refine lv_iconst (v := 1) hx hb d_D_count_23 (by decide) ?_
        refine lv_iadd hx hb d_D_count_24 ?_
        refine tp_i (v := nI (cnt om (i + 1) k)) (by rw [cnt_step heq, nI_1]) ?_
        refine lv_goto (tgt := 29) hx hb d_D_count_25 (by decide) ?_
        refine lv_istore_n (lv' := [(2, .int (nI (cnt om (i + 1) k))), (3, .int (nI i)), (0, .ref d), (1, .int (nI k))]) hx hb d_D_count_29 rfl hl (by decide) rfl (fun ls hl => ?_)
        refine lv_iinc (v := nI (i + 1)) (lv' := [(3, .int (nI (i + 1))), (2, .int (nI (cnt om (i + 1) k))), (0, .ref d), (1, .int (nI k))]) hx hb d_D_count_30 hl (k := 1) rfl (nI_1 i) (by decide) rfl (fun ls hl => ?_)
        refine lv_goto (tgt := 4) hx hb d_D_count_33 (by decide) ?_
        exact ih (i + 1) _ _ _ (by omega) (by omega) hw (lv_sub hl [0, 1, 2, 3] rfl)
set_option maxHeartbeats 4000000 in
set_option maxRecDepth 100000 in
theorem c_D_count (l : Launch) (D : va_G) (kc : Nat → ClassId) (L : List Nat) (f : Nat → va_E) (sz : Nat) (d mst ow ix bb cpy : Nat) (gb : Nat → Option Nat) (hm9 ho9 hi9 hc9 : Nat → Int32) (tg : Nat → Nat × Nat) (th : Int32) (nm : Nat) (mo : Nat → Int32) (om : Nat → Nat) (al : Nat) (bs : Nat → Nat → Nat) (hg : modG kc L f tg d mst ow ix bb cpy gb hm9 ho9 hi9 hc9 th nm mo om al bs) (hs : stOK nm mo om al bs) (k : Nat) (hk : k < nm) : Met l y_D_count w_D_count ({ frames := 0, cells := 0, slots := 0, locals := 0 }) (PP D kc L f sz [.ref d, .int (nI k)]) (Qi D L f sz (fun r u => r = nI (cnt om al k) ∧ u = (L, f))) 0 0 (pA L f sz) := by
  refine kx_met (by decide) (Nat.le_of_ble_eq_true rfl) ?_
  intro p e s m below meth c hC hnm hw hsz ls hl
  subst hsz
  have hl : lv_has ls 4 [(0, .ref d), (1, .int (nI k))] := hl
  obtain ⟨⟨⟨hx, hb, hml, hown, hts⟩, hret9, hlocks⟩, hK, hE, hA⟩ := id hC
  refine lv_iconst (v := 0) hx hb d_D_count_0 (by decide) ?_
  refine lv_istore_n (lv' := [(2, .int 0), (0, .ref d), (1, .int (nI k))]) hx hb d_D_count_1 rfl hl (by decide) rfl (fun ls hl => ?_)
  refine lv_iconst (v := 0) hx hb d_D_count_2 (by decide) ?_
  refine lv_istore_n (lv' := [(3, .int 0), (2, .int 0), (0, .ref d), (1, .int (nI k))]) hx hb d_D_count_3 rfl hl (by decide) rfl (fun ls hl => ?_)
  refine lp_count hg hs k hk hC (Nat.le_of_ble_eq_true rfl) (Nat.le_of_ble_eq_true rfl) (fun H locs ls hw hl => ?_) (al + 1) 0 _ _ _ (Nat.zero_le _) (by omega) hw (lv_sub hl [0, 1, 2, 3] rfl)
  refine lv_iload_n hx hb d_D_count_36 rfl (lv_at hl 0 rfl) ?_
  exact pg_iret hC.1 hw (⟨rfl, rfl⟩) d_D_count_37
set_option maxHeartbeats 4000000 in
set_option maxRecDepth 100000 in
theorem lp_rowOf {p : Program} {l : Launch} {e : Env} {R : Room} {s : State} {m : MethodId} {args : Array Value} {below : List Frame} {meth : Method} {c : Code} {Q : State → Prop} {A : Nat → Prop} {D : va_G} {kc : Nat → ClassId} {c0 : Cond} {ret : Option FieldType} {L : List Nat} {f : Nat → va_E} {d mst ow ix bb cpy : Nat} {gb : Nat → Option Nat} {hm9 ho9 hi9 hc9 : Nat → Int32} {tg : Nat → Nat × Nat} {th : Int32} {nm : Nat} {mo : Nat → Int32} {om : Nat → Nat} {al : Nat} {bs : Nat → Nat → Nat} (hg : modG kc L f tg d mst ow ix bb cpy gb hm9 ho9 hi9 hc9 th nm mo om al bs) (hs : stOK nm mo om al bs) {cells slots : Nat} (k : Nat) (hk : k < nm) (pp sl : Nat) (hpp : pp < 2 ^ 24) (hsl1 : sl < al) (hsl2 : om sl = k) (hsl3 : cnt om sl k = pp / 65536) (hC : Kx p m c b_D_rowOf 7 s args c0 R_D meth ret D kc A) (hRf : 0 ≤ R.frames) (hRl : 0 ≤ R.locals)
    (kont : ∀ (H : Heap) (locs : List Loc) (ls : Array Slot), pw D Cls A s.heap H locs L f → lv_has ls 7 [(5, .int (nI sl)), (2, .long (lN pp))] → W p l e R s m args below meth c H locs cells slots Q (F0 m 61 ls [])) :
    ∀ (n : Nat) (i : Nat) (H : Heap) (locs : List Loc) (ls : Array Slot), i ≤ al → al + 1 ≤ i + n → pw D Cls A s.heap H locs L f → lv_has ls 7 [(6, .int (nI i)), (5, .int (nI (if sl < i then sl else 0))), (4, .int (nI (pp / 65536))), (0, .ref d), (1, .int (nI k)), (2, .long (lN pp))] → W p l e R s m args below meth c H locs cells slots Q (F0 m 14 ls []) := by
  obtain ⟨⟨⟨hx, hb, hml, hown, hts⟩, hret9, hlocks⟩, hK, hE, hA⟩ := id hC
  intro n
  induction n with
  | zero => intro i H locs ls hi hin hw hl; exact absurd hin (by omega)
  | succ n ih =>
    intro i H locs ls hi hin hw hl
    obtain ⟨⟨hdL, htd, hfd⟩, ⟨hmL, htm, hfm⟩, ⟨hoL, hto, hfo⟩, ⟨hiL, hti, hfi⟩, ⟨hbL, htb, hfb⟩, ⟨hcL, htc, hfc⟩, hk1, hk2, hk3⟩ := id hg
    obtain ⟨hs1, hs2, hs3, hs4, hs5, hs6⟩ := id hs
    refine lv_iload hx hb d_D_rowOf_14 (lv_at hl 0 rfl) ?_
    refine lv_aload_n hx hb d_D_rowOf_16 rfl (lv_at hl 3 rfl) ?_
    refine get_D hC hw hdL hfd 3 (by decide) k_fl_D_35 rfl d_D_rowOf_17 ?_
    refine lv_icmp_ge (tgt := 61) hx hb d_D_rowOf_20 (by decide) (fun c1 => ?_) (fun c1 => ?_)
    · have e : i = al := by
        rcases Nat.lt_or_ge i al with q | q
        · exact absurd c1 (nI_ge q (by omega))
        · omega
      subst e
      rw [if_pos hsl1] at hl
      exact kont H locs ls hw (lv_sub hl [1, 5] rfl)
    · have hlt : i < al := by
        rcases Nat.lt_or_ge i al with q | q
        · exact q
        · exact absurd (nI_le q (by omega)) c1
      have homi := hs3 i hlt
      have hcle := cnt_le om (om i) i
      refine lv_aload_n hx hb d_D_rowOf_23 rfl (lv_at hl 3 rfl) ?_
      refine get_D hC hw hdL hfd 4 (by decide) k_fl_D_13 rfl d_D_rowOf_24 ?_
      refine lv_iload hx hb d_D_rowOf_27 (lv_at hl 0 rfl) ?_
      refine ald_I hC hw hoL hfo (by omega) (by decide) d_D_rowOf_29 ?_
      refine tp_i (v := nI (om i)) ((hk2 i hlt).1) ?_
      refine lv_iload_n hx hb d_D_rowOf_30 rfl (lv_at hl 4 rfl) ?_
      refine lv_icmp_ne (tgt := 51) hx hb d_D_rowOf_31 (by decide) (fun c2 => ?_) (fun c2 => ?_)
      · have hne : i ≠ sl := fun e => c2 (by rw [e, hsl2])
        have hce : (if sl < i then sl else 0) = (if sl < i + 1 then sl else 0) := by
          by_cases q : sl < i
          · rw [if_pos q, if_pos (by omega)]
          · rw [if_neg q, if_neg (by omega)]
        refine lv_iload hx hb d_D_rowOf_51 (lv_at hl 1 rfl) ?_
        refine tp_i (v := nI (if sl < i + 1 then sl else 0)) (by rw [hce]) ?_
        refine lv_istore (lv' := [(5, .int (nI (if sl < i + 1 then sl else 0))), (6, .int (nI i)), (4, .int (nI (pp / 65536))), (0, .ref d), (1, .int (nI k)), (2, .long (lN pp))]) hx hb d_D_rowOf_53 hl (by decide) rfl (fun ls hl => ?_)
        refine lv_iinc (v := nI (i + 1)) (lv' := [(6, .int (nI (i + 1))), (5, .int (nI (if sl < i + 1 then sl else 0))), (4, .int (nI (pp / 65536))), (0, .ref d), (1, .int (nI k)), (2, .long (lN pp))]) hx hb d_D_rowOf_55 hl (k := 1) rfl (nI_1 i) (by decide) rfl (fun ls hl => ?_)
        refine lv_goto (tgt := 14) hx hb d_D_rowOf_58 (by decide) ?_
        exact ih (i + 1) _ _ _ (by omega) (by omega) hw (lv_sub hl [0, 1, 2, 3, 4, 5] rfl)
      · have heq : om i = k := (nI_eq (by omega) (by omega)).mp c2
        refine lv_aload_n hx hb d_D_rowOf_34 rfl (lv_at hl 3 rfl) ?_
        refine get_D hC hw hdL hfd 5 (by decide) k_fl_D_16 rfl d_D_rowOf_35 ?_
        refine lv_iload hx hb d_D_rowOf_38 (lv_at hl 0 rfl) ?_
        refine ald_I hC hw hiL hfi (by omega) (by decide) d_D_rowOf_40 ?_
        refine tp_i (v := nI (cnt om i (om i))) ((hk2 i hlt).2) ?_
        refine lv_iload hx hb d_D_rowOf_41 (lv_at hl 2 rfl) ?_
        refine lv_icmp_ne (tgt := 51) hx hb d_D_rowOf_43 (by decide) (fun c3 => ?_) (fun c3 => ?_)
        · have hne : i ≠ sl := fun e => c3 (by rw [heq, e, hsl3])
          have hce : (if sl < i then sl else 0) = (if sl < i + 1 then sl else 0) := by
            by_cases q : sl < i
            · rw [if_pos q, if_pos (by omega)]
            · rw [if_neg q, if_neg (by omega)]
          refine lv_iload hx hb d_D_rowOf_51 (lv_at hl 1 rfl) ?_
          refine tp_i (v := nI (if sl < i + 1 then sl else 0)) (by rw [hce]) ?_
          refine lv_istore (lv' := [(5, .int (nI (if sl < i + 1 then sl else 0))), (6, .int (nI i)), (4, .int (nI (pp / 65536))), (0, .ref d), (1, .int (nI k)), (2, .long (lN pp))]) hx hb d_D_rowOf_53 hl (by decide) rfl (fun ls hl => ?_)
          refine lv_iinc (v := nI (i + 1)) (lv' := [(6, .int (nI (i + 1))), (5, .int (nI (if sl < i + 1 then sl else 0))), (4, .int (nI (pp / 65536))), (0, .ref d), (1, .int (nI k)), (2, .long (lN pp))]) hx hb d_D_rowOf_55 hl (k := 1) rfl (nI_1 i) (by decide) rfl (fun ls hl => ?_)
          refine lv_goto (tgt := 14) hx hb d_D_rowOf_58 (by decide) ?_
          exact ih (i + 1) _ _ _ (by omega) (by omega) hw (lv_sub hl [0, 1, 2, 3, 4, 5] rfl)
        · have heq2 : cnt om i (om i) = pp / 65536 := (nI_eq (by omega) (by omega)).mp c3
          have hi9e : i = sl := sl_un heq hsl2 (by rw [heq] at heq2; rw [heq2, hsl3])
          refine lv_iload hx hb d_D_rowOf_46 (lv_at hl 0 rfl) ?_
          refine lv_goto (tgt := 53) hx hb d_D_rowOf_48 (by decide) ?_
          refine tp_i (v := nI (if sl < i + 1 then sl else 0)) (by rw [if_pos (by omega), hi9e]) ?_
          refine lv_istore (lv' := [(5, .int (nI (if sl < i + 1 then sl else 0))), (6, .int (nI i)), (4, .int (nI (pp / 65536))), (0, .ref d), (1, .int (nI k)), (2, .long (lN pp))]) hx hb d_D_rowOf_53 hl (by decide) rfl (fun ls hl => ?_)
          refine lv_iinc (v := nI (i + 1)) (lv' := [(6, .int (nI (i + 1))), (5, .int (nI (if sl < i + 1 then sl else 0))), (4, .int (nI (pp / 65536))), (0, .ref d), (1, .int (nI k)), (2, .long (lN pp))]) hx hb d_D_rowOf_55 hl (k := 1) rfl (nI_1 i) (by decide) rfl (fun ls hl => ?_)
          refine lv_goto (tgt := 14) hx hb d_D_rowOf_58 (by decide) ?_
          exact ih (i + 1) _ _ _ (by omega) (by omega) hw (lv_sub hl [0, 1, 2, 3, 4, 5] rfl)
set_option maxHeartbeats 4000000 in
set_option maxRecDepth 100000 in
theorem c_D_rowOf (l : Launch) (D : va_G) (kc : Nat → ClassId) (L : List Nat) (f : Nat → va_E) (sz : Nat) (d mst ow ix bb cpy : Nat) (gb : Nat → Option Nat) (hm9 ho9 hi9 hc9 : Nat → Int32) (tg : Nat → Nat × Nat) (th : Int32) (nm : Nat) (mo : Nat → Int32) (om : Nat → Nat) (al : Nat) (bs : Nat → Nat → Nat) (hg : modG kc L f tg d mst ow ix bb cpy gb hm9 ho9 hi9 hc9 th nm mo om al bs) (hs : stOK nm mo om al bs) (k : Nat) (hk : k < nm) (pp sl : Nat) (hpp : pp < 2 ^ 24) (hsl1 : sl < al) (hsl2 : om sl = k) (hsl3 : cnt om sl k = pp / 65536) : Met l y_D_rowOf w_D_rowOf ({ frames := 0, cells := 0, slots := 0, locals := 0 }) (PP D kc L f sz [.ref d, .int (nI k), .long (lN pp)]) (Qi D L f sz (fun r u => r = nI (64 * sl + pp % 65536 / 1024) ∧ u = (L, f))) 0 0 (pA L f sz) := by
  refine kx_met (by decide) (Nat.le_of_ble_eq_true rfl) ?_
  intro p e s m below meth c hC hnm hw hsz ls hl
  subst hsz
  have hl : lv_has ls 7 [(0, .ref d), (1, .int (nI k)), (2, .long (lN pp))] := hl
  obtain ⟨⟨⟨hx, hb, hml, hown, hts⟩, hret9, hlocks⟩, hK, hE, hA⟩ := id hC
  obtain ⟨hs1, hs2, hs3, hs4, hs5, hs6⟩ := id hs
  refine lv_lload_n hx hb d_D_rowOf_0 rfl (lv_at hl 2 rfl) ?_
  refine lv_ldc2 (v := 65536) hx hb hown (hts _ (gg_mem k_cn_D_38)) d_D_rowOf_1 ?_
  refine lv_ldiv hx hb d_D_rowOf_4 (by decide) ?_
  refine tp_l (v := lN (pp / 65536)) (pk_lDiv (b := 65536) (by omega) (by decide) (by decide)) ?_
  refine lv_l2i hx hb d_D_rowOf_5 rfl ?_
  refine tp_i (v := nI (pp / 65536)) (lN_i _) ?_
  refine lv_istore (lv' := [(4, .int (nI (pp / 65536))), (0, .ref d), (1, .int (nI k)), (2, .long (lN pp))]) hx hb d_D_rowOf_6 hl (by decide) rfl (fun ls hl => ?_)
  refine lv_iconst (v := 0) hx hb d_D_rowOf_8 (by decide) ?_
  refine lv_istore (lv' := [(5, .int 0), (4, .int (nI (pp / 65536))), (0, .ref d), (1, .int (nI k)), (2, .long (lN pp))]) hx hb d_D_rowOf_9 hl (by decide) rfl (fun ls hl => ?_)
  refine lv_iconst (v := 0) hx hb d_D_rowOf_11 (by decide) ?_
  refine lv_istore (lv' := [(6, .int 0), (5, .int 0), (4, .int (nI (pp / 65536))), (0, .ref d), (1, .int (nI k)), (2, .long (lN pp))]) hx hb d_D_rowOf_12 hl (by decide) rfl (fun ls hl => ?_)
  refine lp_rowOf hg hs k hk pp sl hpp hsl1 hsl2 hsl3 hC (Nat.le_of_ble_eq_true rfl) (Nat.le_of_ble_eq_true rfl) (fun H locs ls hw hl => ?_) (al + 1) 0 _ _ _ (Nat.zero_le _) (by omega) hw (lv_sub hl [0, 1, 2, 3, 4, 5] rfl)
  refine lv_bipush (v := 64) hx hb d_D_rowOf_61 (by decide) ?_
  refine lv_iload hx hb d_D_rowOf_63 (lv_at hl 0 rfl) ?_
  refine lv_imul hx hb d_D_rowOf_65 ?_
  refine tp_i (v := nI (64 * sl)) (pk_mul 64 sl) ?_
  refine lv_lload_n hx hb d_D_rowOf_66 rfl (lv_at hl 1 rfl) ?_
  refine lv_ldc2 (v := 65536) hx hb hown (hts _ (gg_mem k_cn_D_38)) d_D_rowOf_67 ?_
  refine lv_lrem hx hb d_D_rowOf_70 (by decide) ?_
  refine tp_l (v := lN (pp % 65536)) (pk_lRem (b := 65536) (by omega) (by decide) (by decide)) ?_
  refine lv_l2i hx hb d_D_rowOf_71 rfl ?_
  refine tp_i (v := nI (pp % 65536)) (lN_i _) ?_
  refine lv_sipush (v := 1024) hx hb d_D_rowOf_72 (by decide) ?_
  refine lv_idiv hx hb d_D_rowOf_75 (by decide) ?_
  refine tp_i (v := nI (pp % 65536 / 1024)) (pk_div (d := 1024) (by omega) (by decide) (by decide)) ?_
  refine lv_iadd hx hb d_D_rowOf_76 ?_
  refine tp_i (v := nI (64 * sl + pp % 65536 / 1024)) (nI_add _ _) ?_
  exact pg_iret hC.1 hw (⟨rfl, rfl⟩) d_D_rowOf_77
set_option maxHeartbeats 4000000 in
set_option maxRecDepth 100000 in
theorem c_D_get (l : Launch) (D : va_G) (kc : Nat → ClassId) (L : List Nat) (f : Nat → va_E) (sz : Nat) (d mst ow ix bb cpy : Nat) (gb : Nat → Option Nat) (hm9 ho9 hi9 hc9 : Nat → Int32) (tg : Nat → Nat × Nat) (th : Int32) (nm : Nat) (mo : Nat → Int32) (om : Nat → Nat) (al : Nat) (bs : Nat → Nat → Nat) (hg : modG kc L f tg d mst ow ix bb cpy gb hm9 ho9 hi9 hc9 th nm mo om al bs) (hs : stOK nm mo om al bs) (k : Nat) (hk : k < nm) (pp : Nat) (hpp : pp < 65536 * cnt om al k) : Met l y_D_get w_D_get ({ frames := 1, cells := 0, slots := 0, locals := 26 }) (PP D kc L f sz [.ref d, .int (nI k), .long (lN pp)]) (Qi D L f sz (fun r u => r = nI (bs k pp) ∧ u = (L, f))) 0 0 (pA L f sz) := by
  refine kx_met (by decide) (Nat.le_of_ble_eq_true rfl) ?_
  intro p e s m below meth c hC hnm hw hsz ls hl
  subst hsz
  have hl : lv_has ls 5 [(0, .ref d), (1, .int (nI k)), (2, .long (lN pp))] := hl
  obtain ⟨⟨⟨hx, hb, hml, hown, hts⟩, hret9, hlocks⟩, hK, hE, hA⟩ := id hC
  obtain ⟨⟨hdL, htd, hfd⟩, ⟨hmL, htm, hfm⟩, ⟨hoL, hto, hfo⟩, ⟨hiL, hti, hfi⟩, ⟨hbL, htb, hfb⟩, ⟨hcL, htc, hfc⟩, hk1, hk2, hk3⟩ := id hg
  obtain ⟨hs1, hs2, hs3, hs4, hs5, hs6⟩ := id hs
  obtain ⟨sl, hsl1, hsl2, hsl3⟩ := sl_ex (om := om) (k := k) al (pp / 65536) (by omega)
  have hcl := cnt_le om k al
  refine lv_aload_n hx hb d_D_get_0 rfl (lv_at hl 0 rfl) ?_
  refine get_D hC hw hdL hfd 6 (by decide) k_fl_D_21 rfl d_D_get_1 ?_
  refine lv_aload_n hx hb d_D_get_4 rfl (lv_at hl 0 rfl) ?_
  refine lv_iload_n hx hb d_D_get_5 rfl (lv_at hl 1 rfl) ?_
  refine lv_lload_n hx hb d_D_get_6 rfl (lv_at hl 2 rfl) ?_
  refine callVi (As := [.int (nI k), .long (lN pp)]) (n9 := 2) hC hw (c_D_rowOf l D kc _ _ _ d mst ow ix bb cpy gb hm9 ho9 hi9 hc9 tg th nm mo om al bs hg hs k hk pp sl (by omega) hsl1 hsl2 hsl3) k_co_D_rowOf k_ml_D_40 k_im_D_rowOf k_se_D_rowOf k_in_D rfl rfl (by decide +kernel) rfl ⟨Nat.le_of_ble_eq_true rfl, Nat.le_of_ble_eq_true rfl⟩ hdL hfd rfl hl.1 rfl (Nat.le_of_ble_eq_true rfl) d_D_get_7 ⟨Nat.le_of_ble_eq_true rfl, Nat.le_of_ble_eq_true rfl⟩ (fun r9 u H locs hp hw => ?_)
  obtain ⟨rfl, rfl⟩ := hp
  have hR : 64 * sl + pp % 65536 / 1024 < 1024 := by omega
  refine ald_G hC hw hbL hfb (hR) (by decide) d_D_get_10 ?_
  rcases hk3 _ hR with ⟨hg9, hz⟩ | ⟨b9, hh, hg9, hb9, htb9, hfb9, hv⟩
  · refine tp_v (v := .null) (by rw [hg9]; rfl) ?_
    refine lv_astoreN (lv' := [(4, .null), (0, .ref d), (1, .int (nI k)), (2, .long (lN pp))]) hx hb d_D_get_11 hl (by decide) rfl (fun ls hl => ?_)
    refine lv_aloadN hx hb d_D_get_13 (lv_at hl 0 rfl) ?_
    refine lv_ifnonnullN hx hb d_D_get_15 ?_
    refine lv_iconst (v := 0) hx hb d_D_get_18 (by decide) ?_
    refine lv_goto (tgt := 35) hx hb d_D_get_19 (by decide) ?_
    exact pg_iret hC.1 hw (⟨by rw [← md_at (bs := bs) hsl1 hsl2 hsl3, hz _ (by omega)]; rfl, rfl⟩) d_D_get_35
  · refine tp_v (v := .ref b9) (by rw [hg9]; rfl) ?_
    refine lv_astore (lv' := [(4, .ref b9), (0, .ref d), (1, .int (nI k)), (2, .long (lN pp))]) hx hb d_D_get_11 hl (by decide) rfl (fun ls hl => ?_)
    refine lv_aload hx hb d_D_get_13 (lv_at hl 0 rfl) ?_
    refine lv_ifnonnull (tgt := 22) hx hb d_D_get_15 (by decide) ?_
    refine lv_aload hx hb d_D_get_22 (lv_at hl 0 rfl) ?_
    refine lv_lload_n hx hb d_D_get_24 rfl (lv_at hl 3 rfl) ?_
    refine lv_ldc2 (v := 1024) hx hb hown (hts _ (gg_mem k_cn_D_44)) d_D_get_25 ?_
    refine lv_lrem hx hb d_D_get_28 (by decide) ?_
    refine tp_l (v := lN (pp % 1024)) (pk_lRem (b := 1024) (by omega) (by decide) (by decide)) ?_
    refine lv_l2i hx hb d_D_get_29 rfl ?_
    refine tp_i (v := nI (pp % 1024)) (lN_i _) ?_
    refine ald_B hC hw hb9 hfb9 (by omega) (by decide) d_D_get_30 ?_
    refine lv_sipush (v := 255) hx hb d_D_get_31 (by decide) ?_
    refine lv_iand hx hb d_D_get_34 ?_
    refine tp_i (v := nI (bs k pp)) (by rw [hv _ (by omega), md_at hsl1 hsl2 hsl3]; exact (sb_byte _ (hs6 k pp)).1) ?_
    exact pg_iret hC.1 hw (⟨rfl, rfl⟩) d_D_get_35
end
section
/-! The reference: put, add, its constructor -/
theorem mod_th {kc : Nat → ClassId} {L : List Nat} {f : Nat → va_E} {tg : Nat → Nat × Nat} {d mst ow ix bb cpy : Nat} {gb : Nat → Option Nat} {hm ho hi hc : Nat → Int32} {th : Int32} {n : Nat} {mo : Nat → Int32} {om : Nat → Nat} {al : Nat} {bs : Nat → Nat → Nat} (h : modG kc L f tg d mst ow ix bb cpy gb hm ho hi hc th n mo om al bs) (th' : Int32) :
    modG kc L (va_up f d (.inr (3, [.int th', .int (nI n), .ref mst, .int (nI al), .ref ow, .ref ix, .ref bb, .ref cpy]))) tg d mst ow ix bb cpy gb hm ho hi hc th' n mo om al bs ∧ Ext SD L f tg (L, va_up f d (.inr (3, [.int th', .int (nI n), .ref mst, .int (nI al), .ref ow, .ref ix, .ref bb, .ref cpy]))) tg := by
  obtain ⟨⟨a1, a2, a3⟩, ⟨b1, b2, b3⟩, ⟨c1, c2, c3⟩, ⟨d1, d2, d3⟩, ⟨e1, e2, e3⟩, ⟨g1, g2, g3⟩, k1, k2, k3⟩ := id h
  have ne : ∀ a, tg a ≠ (200, 0) → a ≠ d := fun a ha e => ha (e ▸ a2)
  exact mod_upd h (va_up_self _ _ _) (by rw [va_up_ne _ _ (ne _ (by rw [b2]; simp))]; exact b3) (by rw [va_up_ne _ _ (ne _ (by rw [c2]; simp))]; exact c3) (by rw [va_up_ne _ _ (ne _ (by rw [d2]; simp))]; exact d3) (by rw [va_up_ne _ _ (ne _ (by rw [g2]; simp))]; exact g3) (fun a _ h1 _ _ _ _ => va_up_ne _ _ h1) k1 k2 (fun _ _ _ _ => rfl)
set_option maxHeartbeats 4000000 in
set_option maxRecDepth 100000 in
theorem c_D_put_row (l : Launch) (D : va_G) (kc : Nat → ClassId) (L : List Nat) (f : Nat → va_E) (sz : Nat) (d mst ow ix bb cpy : Nat) (gb : Nat → Option Nat) (hm9 ho9 hi9 hc9 : Nat → Int32) (tg : Nat → Nat × Nat) (th : Int32) (nm : Nat) (mo : Nat → Int32) (om : Nat → Nat) (al : Nat) (bs : Nat → Nat → Nat) (hg : modG kc L f tg d mst ow ix bb cpy gb hm9 ho9 hi9 hc9 th nm mo om al bs) (hs : stOK nm mo om al bs) (k : Nat) (hk : k < nm) (pp : Nat) (hpp : pp < 65536 * cnt om al k) (v : Nat) (hv9 : v < 256) (hg0 : ∀ R, isRow om al k pp R → gb R ≠ none) : Met l y_D_put w_D_put ({ frames := 1, cells := 0, slots := 0, locals := 26 }) (PP D kc L f sz [.ref d, .int (nI k), .long (lN pp), .int (nI v)]) (Qv D L f sz (fun u => ∃ tg' gb', modG kc u.1 u.2 tg' d mst ow ix bb cpy gb' hm9 ho9 hi9 hc9 th nm mo om al (va_up bs k (va_up (bs k) pp v)) ∧ (∀ R, gb R ≠ none → gb' R ≠ none) ∧ (∀ R, isRow om al k pp R → gb' R ≠ none) ∧ Ext SD L f tg u tg')) 0 0 (pA L f sz) := by
  refine kx_met (by decide) (Nat.le_of_ble_eq_true rfl) ?_
  intro p e s m below meth c hC hnm hw hsz ls hl
  subst hsz
  have hl : lv_has ls 6 [(0, .ref d), (1, .int (nI k)), (2, .long (lN pp)), (4, .int (nI v))] := hl
  obtain ⟨⟨⟨hx, hb, hml, hown, hts⟩, hret9, hlocks⟩, hK, hE, hA⟩ := id hC
  obtain ⟨⟨hdL, htd, hfd⟩, ⟨hmL, htm, hfm⟩, ⟨hoL, hto, hfo⟩, ⟨hiL, hti, hfi⟩, ⟨hbL, htb, hfb⟩, ⟨hcL, htc, hfc⟩, hk1, hk2, hk3⟩ := id hg
  obtain ⟨hs1, hs2, hs3, hs4, hs5, hs6⟩ := id hs
  obtain ⟨sl, hsl1, hsl2, hsl3⟩ := sl_ex (om := om) (k := k) al (pp / 65536) (by omega)
  have hcl := cnt_le om k al
  refine lv_aload_n hx hb d_D_put_0 rfl (lv_at hl 0 rfl) ?_
  refine lv_iload_n hx hb d_D_put_1 rfl (lv_at hl 1 rfl) ?_
  refine lv_lload_n hx hb d_D_put_2 rfl (lv_at hl 2 rfl) ?_
  refine callVi (As := [.int (nI k), .long (lN pp)]) (n9 := 2) hC hw (c_D_rowOf l D kc _ _ _ d mst ow ix bb cpy gb hm9 ho9 hi9 hc9 tg th nm mo om al bs hg hs k hk pp sl (by omega) hsl1 hsl2 hsl3) k_co_D_rowOf k_ml_D_40 k_im_D_rowOf k_se_D_rowOf k_in_D rfl rfl (by decide +kernel) rfl ⟨Nat.le_of_ble_eq_true rfl, Nat.le_of_ble_eq_true rfl⟩ hdL hfd rfl hl.1 rfl (Nat.le_of_ble_eq_true rfl) d_D_put_3 ⟨Nat.le_of_ble_eq_true rfl, Nat.le_of_ble_eq_true rfl⟩ (fun r9 u H locs hp hw => ?_)
  obtain ⟨rfl, rfl⟩ := hp
  have hR : (64 * sl + pp % 65536 / 1024) < 1024 := by omega
  have hro : isRow om al k pp (64 * sl + pp % 65536 / 1024) := ⟨sl, hsl1, hsl2, hsl3, rfl⟩
  refine lv_istore (lv' := [(5, .int (nI (64 * sl + pp % 65536 / 1024))), (0, .ref d), (1, .int (nI k)), (2, .long (lN pp)), (4, .int (nI v))]) hx hb d_D_put_6 hl (by decide) rfl (fun ls hl => ?_)
  refine lv_aload_n hx hb d_D_put_8 rfl (lv_at hl 1 rfl) ?_
  refine get_D hC hw hdL hfd 6 (by decide) k_fl_D_21 rfl d_D_put_9 ?_
  refine lv_iload hx hb d_D_put_12 (lv_at hl 0 rfl) ?_
  refine ald_G hC hw hbL hfb (hR) (by decide) d_D_put_14 ?_
  obtain ⟨b9, hh, hg9, hb9, htb9, hfb9, hv⟩ : ∃ (b : Nat) (h : Nat → Int32), gb (64 * sl + pp % 65536 / 1024) = some b ∧ b ∈ L ∧ tg b = (200, 6 + (64 * sl + pp % 65536 / 1024)) ∧ f b = .inl (kc 0, 1024, .inl h) ∧ ∀ j, j < 1024 → h j = sb_b (md om al bs (64 * sl + pp % 65536 / 1024) j) := by
    rcases hk3 _ hR with ⟨hn, -⟩ | h
    · exact absurd hn (hg0 _ hro)
    · exact h
  refine tp_v (v := .ref b9) (by rw [hg9]; rfl) ?_
  refine lv_ifnonnull (tgt := 35) hx hb d_D_put_15 (by decide) ?_
  refine lv_aload_n hx hb d_D_put_35 rfl (lv_at hl 1 rfl) ?_
  refine get_D hC hw hdL hfd 6 (by decide) k_fl_D_21 rfl d_D_put_36 ?_
  refine lv_iload hx hb d_D_put_39 (lv_at hl 0 rfl) ?_
  refine ald_G hC hw hbL hfb (hR) (by decide) d_D_put_41 ?_
  refine tp_v (v := .ref b9) (by rw [hg9]; rfl) ?_
  refine lv_ifnull hx hb d_D_put_42 ?_
  refine lv_aload_n hx hb d_D_put_45 rfl (lv_at hl 1 rfl) ?_
  refine get_D hC hw hdL hfd 6 (by decide) k_fl_D_21 rfl d_D_put_46 ?_
  refine lv_iload hx hb d_D_put_49 (lv_at hl 0 rfl) ?_
  refine ald_G hC hw hbL hfb (hR) (by decide) d_D_put_51 ?_
  refine tp_v (v := .ref b9) (by rw [hg9]; rfl) ?_
  refine lv_lload_n hx hb d_D_put_52 rfl (lv_at hl 3 rfl) ?_
  refine lv_ldc2 (v := 1024) hx hb hown (hts _ (gg_mem k_cn_D_44)) d_D_put_53 ?_
  refine lv_lrem hx hb d_D_put_56 (by decide) ?_
  refine tp_l (v := lN (pp % 1024)) (pk_lRem (b := 1024) (by omega) (by decide) (by decide)) ?_
  refine lv_l2i hx hb d_D_put_57 rfl ?_
  refine tp_i (v := nI (pp % 1024)) (lN_i _) ?_
  refine lv_iload hx hb d_D_put_58 (lv_at hl 4 rfl) ?_
  refine lv_i2b hx hb d_D_put_60 rfl ?_
  refine ast_B hC hw hb9 hfb9 (y := sb_b v) (by exact pk_vb (nI v)) (show pp % 1024 < 1024 by omega) (by decide) d_D_put_61 (fun H locs hw => ?_)
  obtain ⟨hm2, he2⟩ := mod_put (v := v) hg hro hg9 hb9 htb9 hfb9 hv
  exact pg_vret hC.1 hw (⟨tg, gb, hm2, fun _ h => h, fun R h => by rw [isRow_un h hro rfl, hg9]; exact (fun z => Option.some_ne_none _ z), he2⟩) d_D_put_62
set_option maxHeartbeats 4000000 in
set_option maxRecDepth 100000 in
theorem c_D_put_zero (l : Launch) (D : va_G) (kc : Nat → ClassId) (L : List Nat) (f : Nat → va_E) (sz : Nat) (d mst ow ix bb cpy : Nat) (gb : Nat → Option Nat) (hm9 ho9 hi9 hc9 : Nat → Int32) (tg : Nat → Nat × Nat) (th : Int32) (nm : Nat) (mo : Nat → Int32) (om : Nat → Nat) (al : Nat) (bs : Nat → Nat → Nat) (hg : modG kc L f tg d mst ow ix bb cpy gb hm9 ho9 hi9 hc9 th nm mo om al bs) (hs : stOK nm mo om al bs) (k : Nat) (hk : k < nm) (pp : Nat) (hpp : pp < 65536 * cnt om al k) (hg0 : ∀ R, isRow om al k pp R → gb R = none) : Met l y_D_put w_D_put ({ frames := 1, cells := 0, slots := 0, locals := 26 }) (PP D kc L f sz [.ref d, .int (nI k), .long (lN pp), .int (nI 0)]) (Qv D L f sz (fun u => ∃ tg' gb', modG kc u.1 u.2 tg' d mst ow ix bb cpy gb' hm9 ho9 hi9 hc9 th nm mo om al (va_up bs k (va_up (bs k) pp 0)) ∧ (∀ R, gb R ≠ none → gb' R ≠ none) ∧ (True) ∧ Ext SD L f tg u tg')) 0 0 (pA L f sz) := by
  refine kx_met (by decide) (Nat.le_of_ble_eq_true rfl) ?_
  intro p e s m below meth c hC hnm hw hsz ls hl
  subst hsz
  have hl : lv_has ls 6 [(0, .ref d), (1, .int (nI k)), (2, .long (lN pp)), (4, .int (nI 0))] := hl
  obtain ⟨⟨⟨hx, hb, hml, hown, hts⟩, hret9, hlocks⟩, hK, hE, hA⟩ := id hC
  obtain ⟨⟨hdL, htd, hfd⟩, ⟨hmL, htm, hfm⟩, ⟨hoL, hto, hfo⟩, ⟨hiL, hti, hfi⟩, ⟨hbL, htb, hfb⟩, ⟨hcL, htc, hfc⟩, hk1, hk2, hk3⟩ := id hg
  obtain ⟨hs1, hs2, hs3, hs4, hs5, hs6⟩ := id hs
  obtain ⟨sl, hsl1, hsl2, hsl3⟩ := sl_ex (om := om) (k := k) al (pp / 65536) (by omega)
  have hcl := cnt_le om k al
  refine lv_aload_n hx hb d_D_put_0 rfl (lv_at hl 0 rfl) ?_
  refine lv_iload_n hx hb d_D_put_1 rfl (lv_at hl 1 rfl) ?_
  refine lv_lload_n hx hb d_D_put_2 rfl (lv_at hl 2 rfl) ?_
  refine callVi (As := [.int (nI k), .long (lN pp)]) (n9 := 2) hC hw (c_D_rowOf l D kc _ _ _ d mst ow ix bb cpy gb hm9 ho9 hi9 hc9 tg th nm mo om al bs hg hs k hk pp sl (by omega) hsl1 hsl2 hsl3) k_co_D_rowOf k_ml_D_40 k_im_D_rowOf k_se_D_rowOf k_in_D rfl rfl (by decide +kernel) rfl ⟨Nat.le_of_ble_eq_true rfl, Nat.le_of_ble_eq_true rfl⟩ hdL hfd rfl hl.1 rfl (Nat.le_of_ble_eq_true rfl) d_D_put_3 ⟨Nat.le_of_ble_eq_true rfl, Nat.le_of_ble_eq_true rfl⟩ (fun r9 u H locs hp hw => ?_)
  obtain ⟨rfl, rfl⟩ := hp
  have hR : (64 * sl + pp % 65536 / 1024) < 1024 := by omega
  have hro : isRow om al k pp (64 * sl + pp % 65536 / 1024) := ⟨sl, hsl1, hsl2, hsl3, rfl⟩
  refine lv_istore (lv' := [(5, .int (nI (64 * sl + pp % 65536 / 1024))), (0, .ref d), (1, .int (nI k)), (2, .long (lN pp)), (4, .int (nI 0))]) hx hb d_D_put_6 hl (by decide) rfl (fun ls hl => ?_)
  refine lv_aload_n hx hb d_D_put_8 rfl (lv_at hl 1 rfl) ?_
  refine get_D hC hw hdL hfd 6 (by decide) k_fl_D_21 rfl d_D_put_9 ?_
  refine lv_iload hx hb d_D_put_12 (lv_at hl 0 rfl) ?_
  refine ald_G hC hw hbL hfb (hR) (by decide) d_D_put_14 ?_
  have hg9 : gb (64 * sl + pp % 65536 / 1024) = none := hg0 _ hro
  refine tp_v (v := .null) (by rw [hg9]; rfl) ?_
  refine lv_ifnonnullN hx hb d_D_put_15 ?_
  refine lv_iload hx hb d_D_put_18 (lv_at hl 4 rfl) ?_
  refine lv_if_eq (tgt := 35) hx hb d_D_put_20 (by decide) (fun c1 => ?_) (fun c1 => (c1 rfl).elim)
  refine lv_aload_n hx hb d_D_put_35 rfl (lv_at hl 1 rfl) ?_
  refine get_D hC hw hdL hfd 6 (by decide) k_fl_D_21 rfl d_D_put_36 ?_
  refine lv_iload hx hb d_D_put_39 (lv_at hl 0 rfl) ?_
  refine ald_G hC hw hbL hfb (hR) (by decide) d_D_put_41 ?_
  refine tp_v (v := .null) (by rw [hg9]; rfl) ?_
  refine lv_ifnullN (tgt := 62) hx hb d_D_put_42 (by decide) ?_
  exact pg_vret hC.1 hw (⟨tg, gb, by rw [mod_zero hg hro hR hg9]; exact hg, fun _ h => h, trivial, Ext.rf⟩) d_D_put_62
set_option maxHeartbeats 4000000 in
set_option maxRecDepth 100000 in
theorem c_D_put_new (l : Launch) (D : va_G) (kc : Nat → ClassId) (L : List Nat) (f : Nat → va_E) (sz : Nat) (d mst ow ix bb cpy : Nat) (gb : Nat → Option Nat) (hm9 ho9 hi9 hc9 : Nat → Int32) (tg : Nat → Nat × Nat) (th : Int32) (nm : Nat) (mo : Nat → Int32) (om : Nat → Nat) (al : Nat) (bs : Nat → Nat → Nat) (hg : modG kc L f tg d mst ow ix bb cpy gb hm9 ho9 hi9 hc9 th nm mo om al bs) (hs : stOK nm mo om al bs) (k : Nat) (hk : k < nm) (pp : Nat) (hpp : pp < 65536 * cnt om al k) (v : Nat) (hv9 : v < 256) (hvp : 0 < v) (hg0 : ∀ R, isRow om al k pp R → gb R = none) : Met l y_D_put w_D_put ({ frames := 1, cells := 1, slots := 1024, locals := 26 }) (PP D kc L f sz [.ref d, .int (nI k), .long (lN pp), .int (nI v)]) (Qv D L f sz (fun u => ∃ tg' gb', modG kc u.1 u.2 tg' d mst ow ix bb cpy gb' hm9 ho9 hi9 hc9 th nm mo om al (va_up bs k (va_up (bs k) pp v)) ∧ (∀ R, gb R ≠ none → gb' R ≠ none) ∧ (∀ R, isRow om al k pp R → gb' R ≠ none) ∧ Ext SD L f tg u tg')) 1 1024 (pA L f sz) := by
  refine kx_met (by decide) (Nat.le_of_ble_eq_true rfl) ?_
  intro p e s m below meth c hC hnm hw hsz ls hl
  subst hsz
  have hl : lv_has ls 6 [(0, .ref d), (1, .int (nI k)), (2, .long (lN pp)), (4, .int (nI v))] := hl
  obtain ⟨⟨⟨hx, hb, hml, hown, hts⟩, hret9, hlocks⟩, hK, hE, hA⟩ := id hC
  obtain ⟨⟨hdL, htd, hfd⟩, ⟨hmL, htm, hfm⟩, ⟨hoL, hto, hfo⟩, ⟨hiL, hti, hfi⟩, ⟨hbL, htb, hfb⟩, ⟨hcL, htc, hfc⟩, hk1, hk2, hk3⟩ := id hg
  obtain ⟨hs1, hs2, hs3, hs4, hs5, hs6⟩ := id hs
  obtain ⟨sl, hsl1, hsl2, hsl3⟩ := sl_ex (om := om) (k := k) al (pp / 65536) (by omega)
  have hcl := cnt_le om k al
  refine lv_aload_n hx hb d_D_put_0 rfl (lv_at hl 0 rfl) ?_
  refine lv_iload_n hx hb d_D_put_1 rfl (lv_at hl 1 rfl) ?_
  refine lv_lload_n hx hb d_D_put_2 rfl (lv_at hl 2 rfl) ?_
  refine callVi (As := [.int (nI k), .long (lN pp)]) (n9 := 2) hC hw (c_D_rowOf l D kc _ _ _ d mst ow ix bb cpy gb hm9 ho9 hi9 hc9 tg th nm mo om al bs hg hs k hk pp sl (by omega) hsl1 hsl2 hsl3) k_co_D_rowOf k_ml_D_40 k_im_D_rowOf k_se_D_rowOf k_in_D rfl rfl (by decide +kernel) rfl ⟨Nat.le_of_ble_eq_true rfl, Nat.le_of_ble_eq_true rfl⟩ hdL hfd rfl hl.1 rfl (Nat.le_of_ble_eq_true rfl) d_D_put_3 ⟨Nat.le_of_ble_eq_true rfl, Nat.le_of_ble_eq_true rfl⟩ (fun r9 u H locs hp hw => ?_)
  obtain ⟨rfl, rfl⟩ := hp
  have hR : (64 * sl + pp % 65536 / 1024) < 1024 := by omega
  have hro : isRow om al k pp (64 * sl + pp % 65536 / 1024) := ⟨sl, hsl1, hsl2, hsl3, rfl⟩
  refine lv_istore (lv' := [(5, .int (nI (64 * sl + pp % 65536 / 1024))), (0, .ref d), (1, .int (nI k)), (2, .long (lN pp)), (4, .int (nI v))]) hx hb d_D_put_6 hl (by decide) rfl (fun ls hl => ?_)
  refine lv_aload_n hx hb d_D_put_8 rfl (lv_at hl 1 rfl) ?_
  refine get_D hC hw hdL hfd 6 (by decide) k_fl_D_21 rfl d_D_put_9 ?_
  refine lv_iload hx hb d_D_put_12 (lv_at hl 0 rfl) ?_
  refine ald_G hC hw hbL hfb (hR) (by decide) d_D_put_14 ?_
  have hg9 : gb (64 * sl + pp % 65536 / 1024) = none := hg0 _ hro
  refine tp_v (v := .null) (by rw [hg9]; rfl) ?_
  refine lv_ifnonnullN hx hb d_D_put_15 ?_
  refine lv_iload hx hb d_D_put_18 (lv_at hl 4 rfl) ?_
  refine lv_if_eq (tgt := 35) hx hb d_D_put_20 (by decide) (fun c1 => (nI_ne0 hvp (by omega) c1).elim) (fun c1 => ?_)
  refine lv_aload_n hx hb d_D_put_23 rfl (lv_at hl 1 rfl) ?_
  refine get_D hC hw hdL hfd 6 (by decide) k_fl_D_21 rfl d_D_put_24 ?_
  refine lv_iload hx hb d_D_put_27 (lv_at hl 0 rfl) ?_
  refine lv_sipush (v := 1024) hx hb d_D_put_29 (by decide) ?_
  refine tp_i (v := nI 1024) (rfl) ?_
  refine newB hC hw (gg_of (by decide +kernel) (by decide +kernel)) (by decide) (Nat.le_of_ble_eq_true rfl) (Nat.le_of_ble_eq_true rfl) d_D_put_32 (fun q H hq hw => ?_)
  have hbq : bb ≠ q := ne_in hbL hq
  refine ast_G hC hw (mem_l hbL) ((va_up_ne _ _ hbq).trans hfb) mem_r (va_up_self _ _ _) hR (by decide) d_D_put_34 (fun H locs hw => ?_)
  obtain ⟨f1, hf1⟩ : ∃ F, F = va_up (va_up f q (.inl (kc 0, 1024, .inl (fun _ => 0)))) bb (.inl (kc 4, 1024, .inr (.inr (.inr (.inr (va_up gb (64 * sl + pp % 65536 / 1024) (some q))))))) := ⟨_, rfl⟩
  have hw := pw_as (f' := f1) hw rfl hf1.symm
  have q1 : f1 q = .inl (kc 0, 1024, .inl (fun _ => 0)) := by rw [hf1, va_up_ne _ _ (Ne.symm hbq)]; exact va_up_self _ _ _
  have b1 : f1 bb = .inl (kc 4, 1024, .inr (.inr (.inr (.inr (va_up gb (64 * sl + pp % 65536 / 1024) (some q)))))) := by rw [hf1]; exact va_up_self _ _ _
  obtain ⟨tg1, hm1, he1, htq⟩ := mod_new (f' := f1) hg hR hg9 hq q1 b1 (fun a ha hne => by rw [hf1, va_up_ne _ _ hne, va_up_ne _ _ (ne_in ha hq)])
  obtain ⟨⟨hdL1, htd1, hfd1⟩, -, -, -, -, -, -, -, hk31⟩ := id hm1
  have hgq : va_up gb (64 * sl + pp % 65536 / 1024) (some q) (64 * sl + pp % 65536 / 1024) = some q := va_up_self _ _ _
  refine lv_aload_n hx hb d_D_put_35 rfl (lv_at hl 1 rfl) ?_
  refine get_D hC hw hdL1 hfd1 6 (by decide) k_fl_D_21 rfl d_D_put_36 ?_
  refine lv_iload hx hb d_D_put_39 (lv_at hl 0 rfl) ?_
  refine ald_G hC hw (mem_l hbL) b1 (hR) (by decide) d_D_put_41 ?_
  refine tp_v (v := .ref q) (by rw [hgq]; rfl) ?_
  refine lv_ifnull hx hb d_D_put_42 ?_
  refine lv_aload_n hx hb d_D_put_45 rfl (lv_at hl 1 rfl) ?_
  refine get_D hC hw hdL1 hfd1 6 (by decide) k_fl_D_21 rfl d_D_put_46 ?_
  refine lv_iload hx hb d_D_put_49 (lv_at hl 0 rfl) ?_
  refine ald_G hC hw (mem_l hbL) b1 (hR) (by decide) d_D_put_51 ?_
  refine tp_v (v := .ref q) (by rw [hgq]; rfl) ?_
  refine lv_lload_n hx hb d_D_put_52 rfl (lv_at hl 3 rfl) ?_
  refine lv_ldc2 (v := 1024) hx hb hown (hts _ (gg_mem k_cn_D_44)) d_D_put_53 ?_
  refine lv_lrem hx hb d_D_put_56 (by decide) ?_
  refine tp_l (v := lN (pp % 1024)) (pk_lRem (b := 1024) (by omega) (by decide) (by decide)) ?_
  refine lv_l2i hx hb d_D_put_57 rfl ?_
  refine tp_i (v := nI (pp % 1024)) (lN_i _) ?_
  refine lv_iload hx hb d_D_put_58 (lv_at hl 4 rfl) ?_
  refine lv_i2b hx hb d_D_put_60 rfl ?_
  refine ast_B hC hw mem_r q1 (y := sb_b v) (by exact pk_vb (nI v)) (show pp % 1024 < 1024 by omega) (by decide) d_D_put_61 (fun H locs hw => ?_)
  have hv1 : ∀ j, j < 1024 → (fun _ : Nat => (0 : Int32)) j = sb_b (md om al bs (64 * sl + pp % 65536 / 1024) j) := fun j hj => by
    rcases hk3 _ hR with ⟨-, z⟩ | ⟨b, hh, z, -⟩
    · rw [z j hj]; rfl
    · rw [hg9] at z; cases z
  obtain ⟨hm2, he2⟩ := mod_put (v := v) hm1 hro hgq mem_r htq q1 hv1
  refine W.widen (k := 1) (n := 1024) (by omega) (by omega) ?_
  have hkk : ∀ R, gb R ≠ none → va_up gb (64 * sl + pp % 65536 / 1024) (some q) R ≠ none := fun R h => by
    by_cases e : R = (64 * sl + pp % 65536 / 1024)
    · rw [e, hgq]; exact (fun z => Option.some_ne_none _ z)
    · rw [va_up_ne _ _ e]; exact h
  exact pg_vret hC.1 hw (⟨tg1, va_up gb (64 * sl + pp % 65536 / 1024) (some q), hm2, hkk, fun R h => by rw [isRow_un h hro rfl, hgq]; exact (fun z => Option.some_ne_none _ z), he1.tr he2⟩) d_D_put_62
set_option maxHeartbeats 4000000 in
set_option maxRecDepth 100000 in
theorem c_D_add (l : Launch) (D : va_G) (kc : Nat → ClassId) (L : List Nat) (f : Nat → va_E) (sz : Nat) (d mst ow ix bb cpy : Nat) (gb : Nat → Option Nat) (hm9 ho9 hi9 hc9 : Nat → Int32) (tg : Nat → Nat × Nat) (th : Int32) (nm : Nat) (mo : Nat → Int32) (om : Nat → Nat) (al : Nat) (bs : Nat → Nat → Nat) (hg : modG kc L f tg d mst ow ix bb cpy gb hm9 ho9 hi9 hc9 th nm mo om al bs) (k : Nat) (hal9 : al < 16) (hbz : ∀ j, 65536 * cnt om al k ≤ j → bs k j = 0) : Met l y_D_add w_D_add ({ frames := 0, cells := 0, slots := 0, locals := 0 }) (PP D kc L f sz [.ref d, .int (nI k), .int (nI (cnt om al k))]) (Qv D L f sz (fun u => ∃ ho2 hi2, (∃ f2, u = (L, f2)) ∧ modG kc u.1 u.2 tg d mst ow ix bb cpy gb hm9 ho2 hi2 hc9 th nm mo (appN om al k) (al + 1) bs ∧ Ext SD L f tg u tg)) 0 0 (pA L f sz) := by
  refine kx_met (by decide) (Nat.le_of_ble_eq_true rfl) ?_
  intro p e s m below meth c hC hnm hw hsz ls hl
  subst hsz
  have hl : lv_has ls 3 [(0, .ref d), (1, .int (nI k)), (2, .int (nI (cnt om al k)))] := hl
  obtain ⟨⟨⟨hx, hb, hml, hown, hts⟩, hret9, hlocks⟩, hK, hE, hA⟩ := id hC
  obtain ⟨⟨hdL, htd, hfd⟩, ⟨hmL, htm, hfm⟩, ⟨hoL, hto, hfo⟩, ⟨hiL, hti, hfi⟩, ⟨hbL, htb, hfb⟩, ⟨hcL, htc, hfc⟩, hk1, hk2, hk3⟩ := id hg
  refine lv_aload_n hx hb d_D_add_0 rfl (lv_at hl 0 rfl) ?_
  refine get_D hC hw hdL hfd 4 (by decide) k_fl_D_13 rfl d_D_add_1 ?_
  refine lv_aload_n hx hb d_D_add_4 rfl (lv_at hl 0 rfl) ?_
  refine get_D hC hw hdL hfd 3 (by decide) k_fl_D_35 rfl d_D_add_5 ?_
  refine lv_iload_n hx hb d_D_add_8 rfl (lv_at hl 1 rfl) ?_
  refine ast_I hC hw hoL hfo hal9 (by decide) d_D_add_9 (fun H locs hw => ?_)
  have n1 : d ≠ ow := fun e => by rw [e, hto] at htd; cases htd
  have n2 : ix ≠ ow := fun e => by rw [e, hto] at hti; cases hti
  have n3 : d ≠ ix := fun e => by rw [e, hti] at htd; cases htd
  obtain ⟨f1, hf1⟩ : ∃ F, F = va_up f ow (.inl (kc 3, 16, .inl (upd ho9 al (nI k)))) := ⟨_, rfl⟩
  have hw := pw_as (f' := f1) hw rfl hf1.symm
  have k1 : ∀ a, a ≠ ow → f1 a = f a := fun a h => by rw [hf1, va_up_ne _ _ h]
  refine lv_aload_n hx hb d_D_add_10 rfl (lv_at hl 0 rfl) ?_
  refine get_D hC hw hdL ((k1 d n1).trans hfd) 5 (by decide) k_fl_D_16 rfl d_D_add_11 ?_
  refine lv_aload_n hx hb d_D_add_14 rfl (lv_at hl 0 rfl) ?_
  refine get_D hC hw hdL ((k1 d n1).trans hfd) 3 (by decide) k_fl_D_35 rfl d_D_add_15 ?_
  refine lv_iload_n hx hb d_D_add_18 rfl (lv_at hl 2 rfl) ?_
  refine ast_I hC hw hiL ((k1 ix n2).trans hfi) hal9 (by decide) d_D_add_19 (fun H locs hw => ?_)
  obtain ⟨f2, hf2⟩ : ∃ F, F = va_up f1 ix (.inl (kc 3, 16, .inl (upd hi9 al (nI (cnt om al k))))) := ⟨_, rfl⟩
  have hw := pw_as (f' := f2) hw rfl hf2.symm
  have k2 : ∀ a, a ≠ ix → f2 a = f1 a := fun a h => by rw [hf2, va_up_ne _ _ h]
  refine lv_aload_n hx hb d_D_add_20 rfl (lv_at hl 0 rfl) ?_
  refine lv_dup hx hb d_D_add_21 rfl ?_
  refine get_D hC hw hdL ((k2 d n3).trans ((k1 d n1).trans hfd)) 3 (by decide) k_fl_D_35 rfl d_D_add_22 ?_
  refine lv_iconst (v := 1) hx hb d_D_add_25 (by decide) ?_
  refine lv_iadd hx hb d_D_add_26 ?_
  refine tp_i (v := nI (al + 1)) (nI_1 al) ?_
  refine put_D hC hw hdL ((k2 d n3).trans ((k1 d n1).trans hfd)) 3 (by decide) k_fl_D_35 rfl rfl rfl (Nat.le_of_ble_eq_true rfl) d_D_add_27 (fun H locs hw => ?_)
  obtain ⟨f3, hf3⟩ : ∃ F, F = va_up f2 d (.inr (3, [.int th, .int (nI nm), .ref mst, .int (nI (al + 1)), .ref ow, .ref ix, .ref bb, .ref cpy])) := ⟨_, rfl⟩
  have hw := pw_as (f' := f3) hw rfl hf3.symm
  have k3 : ∀ a, a ≠ d → f3 a = f2 a := fun a h => by rw [hf3, va_up_ne _ _ h]
  have n4 : mst ≠ d := fun e => by rw [e, htd] at htm; cases htm
  have n5 : mst ≠ ow := fun e => by rw [e, hto] at htm; cases htm
  have n6 : mst ≠ ix := fun e => by rw [e, hti] at htm; cases htm
  have n7 : cpy ≠ d := fun e => by rw [e, htd] at htc; cases htc
  have n8 : cpy ≠ ow := fun e => by rw [e, hto] at htc; cases htc
  have n9 : cpy ≠ ix := fun e => by rw [e, hti] at htc; cases htc
  obtain ⟨hm2, he2⟩ := mod_upd (f' := f3) (hm' := hm9) (ho' := upd ho9 al (nI k)) (hi' := upd hi9 al (nI (cnt om al k))) (hc' := hc9) (th' := th) (n' := nm) (mo' := mo) (om' := appN om al k) (al' := al + 1) (bs' := bs) hg (by rw [hf3, va_up_self]) (by rw [k3 _ n4, k2 _ n6, k1 _ n5]; exact hfm) (by rw [k3 _ (Ne.symm n1), k2 _ (Ne.symm n2), hf1, va_up_self]) (by rw [k3 _ (Ne.symm n3), hf2, va_up_self]) (by rw [k3 _ n7, k2 _ n9, k1 _ n8]; exact hfc) (fun a _ h0 _ h2 h3 _ => by rw [k3 _ h0, k2 _ h3, k1 _ h2]) hk1 (by
    intro j hj
    have hcc : ∀ i, i ≤ al → cnt (appN om al k) i = cnt om i := fun i hi => by funext m; exact cnt_congr m i (fun z hz => by unfold appN; rw [if_pos (by omega)])
    by_cases q : j = al
    · subst q
      have e1 : appN om j k j = k := by unfold appN; rw [if_neg (Nat.lt_irrefl _)]
      rw [pk_us, pk_us, e1, hcc j (Nat.le_refl _)]
      exact ⟨rfl, rfl⟩
    · have e1 : appN om al k j = om j := by unfold appN; rw [if_pos (by omega)]
      rw [pk_un q, pk_un q, e1, hcc j (by omega)]
      exact hk2 j (by omega)) (by
    intro R hR j hj
    unfold md
    by_cases q : R / 64 < al
    · have e1 : appN om al k (R / 64) = om (R / 64) := by unfold appN; rw [if_pos q]
      rw [if_pos q, if_pos (by omega), e1, cnt_congr (om' := om) _ _ (fun z hz => by unfold appN; rw [if_pos (by omega)])]
    · rw [if_neg q]
      by_cases q2 : R / 64 < al + 1
      · have e2 : R / 64 = al := by omega
        have e1 : appN om al k al = k := by unfold appN; rw [if_neg (Nat.lt_irrefl _)]
        rw [if_pos q2, e2, e1, cnt_congr (om' := om) k al (fun z hz => by unfold appN; rw [if_pos hz])]
        exact hbz _ (by omega)
      · rw [if_neg q2])
  exact pg_vret hC.1 hw (⟨_, _, ⟨f3, rfl⟩, hm2, he2⟩) d_D_add_30
end
section
/-! The reference: size, isWhole, place, isThere, pages, fits, its constructor -/
def szM : Nat → Nat := fun j => [4, 8, 4, 8, 1, 1, 2, 2, 1, 1, 2, 2, 4, 4, 4, 8, 4, 8, 1, 2, 1, 2, 4].getD j 1
theorem szM_L : ∀ kd, kd < 14 → szM kd = szL kd := by decide +kernel
theorem szM_S : ∀ kd, kd < 9 → szM (14 + kd) = szS kd := by decide +kernel
theorem szM_ok : ∀ j, j < 23 → 1 ≤ szM j ∧ szM j ≤ 8 := by decide +kernel
def thereP (pl : Int64) (nb c : Nat) : Prop := nb = 0 ∨ (¬ pl < 0 ∧ pl + lN nb ≤ lN (65536 * c))
set_option maxHeartbeats 4000000 in
set_option maxRecDepth 100000 in
theorem c_D_size (l : Launch) (D : va_G) (kc : Nat → ClassId) (L : List Nat) (f : Nat → va_E) (sz : Nat) (op : Int32) : Met l y_D_size w_D_size ({ frames := 0, cells := 0, slots := 0, locals := 0 }) (PP D kc L f sz [.int op]) (Qi D L f sz (fun r u => (∃ z, r = nI z ∧ 1 ≤ z ∧ z ≤ 8 ∧ (∀ kd, kd < 14 → op = nI (40 + kd) → z = szL kd) ∧ (∀ kd, kd < 9 → op = nI (54 + kd) → z = szS kd)) ∧ u = (L, f))) 0 0 (pA L f sz) := by
  refine kx_met (by decide) (Nat.le_of_ble_eq_true rfl) ?_
  intro p e s m below meth c hC hnm hw hsz ls hl
  subst hsz
  have hl : lv_has ls 1 [(0, .int op)] := hl
  obtain ⟨⟨⟨hx, hb, hml, hown, hts⟩, hret9, hlocks⟩, hK, hE, hA⟩ := id hC
  refine lv_iload_n hx hb d_D_size_0 rfl (lv_at hl 0 rfl) ?_
  by_cases hin : 40 ≤ op.toInt ∧ op.toInt ≤ 62
  · obtain ⟨j, hj, rfl⟩ : ∃ j, j < 23 ∧ op = nI (40 + j) := by
      obtain ⟨i, hi, rfl⟩ := nI_of (x := op) (fun q => by
        have h2 : op.toInt < (0 : Int32).toInt := Int32.lt_iff_toInt_lt.mp q
        have h3 : (0 : Int32).toInt = 0 := by decide
        omega)
      rw [nI_toInt hi] at hin
      exact ⟨i - 40, by omega, by rw [show 40 + (i - 40) = i by omega]⟩
    have e9 : (nI (40 + j)).toInt - 40 = (j : Int) := by rw [nI_toInt (by omega)]; omega
    have hz : ∀ r : Int32, r = nI (szM j) → ((∃ z, r = nI z ∧ 1 ≤ z ∧ z ≤ 8 ∧ (∀ kd, kd < 14 → nI (40 + j) = nI (40 + kd) → z = szL kd) ∧ (∀ kd, kd < 9 → nI (40 + j) = nI (54 + kd) → z = szS kd)) ∧ ((L, f) : pU) = (L, f)) := fun r hr => ⟨⟨szM j, hr, (szM_ok j hj).1, (szM_ok j hj).2, fun kd h1 h2 => by
      have h3 := (nI_eq (by omega) (by omega)).mp h2
      rw [show j = kd by omega]; exact szM_L kd h1, fun kd h1 h2 => by
      have h3 := (nI_eq (by omega) (by omega)).mp h2
      rw [show j = 14 + kd by omega]; exact szM_S kd h1⟩, rfl⟩
    rcases (show j = 0 ∨ j = 1 ∨ j = 2 ∨ j = 3 ∨ j = 4 ∨ j = 5 ∨ j = 6 ∨ j = 7 ∨ j = 8 ∨ j = 9 ∨ j = 10 ∨ j = 11 ∨ j = 12 ∨ j = 13 ∨ j = 14 ∨ j = 15 ∨ j = 16 ∨ j = 17 ∨ j = 18 ∨ j = 19 ∨ j = 20 ∨ j = 21 ∨ j = 22 by omega) with rfl | rfl | rfl | rfl | rfl | rfl | rfl | rfl | rfl | rfl | rfl | rfl | rfl | rfl | rfl | rfl | rfl | rfl | rfl | rfl | rfl | rfl | rfl
    · refine lv_tableIn (off := 110) (tgt := 111) hx hb d_D_size_1 (Int.not_lt.mpr hin.1) (Int.not_lt.mpr hin.2) (by rw [e9]; rfl) (by decide) ?_
      refine lv_iconst (v := 4) hx hb d_D_size_111 (by decide) ?_
      exact pg_iret hC.1 hw (hz _ rfl) d_D_size_112
    · refine lv_tableIn (off := 107) (tgt := 108) hx hb d_D_size_1 (Int.not_lt.mpr hin.1) (Int.not_lt.mpr hin.2) (by rw [e9]; rfl) (by decide) ?_
      refine lv_bipush (v := 8) hx hb d_D_size_108 (by decide) ?_
      exact pg_iret hC.1 hw (hz _ rfl) d_D_size_110
    · refine lv_tableIn (off := 110) (tgt := 111) hx hb d_D_size_1 (Int.not_lt.mpr hin.1) (Int.not_lt.mpr hin.2) (by rw [e9]; rfl) (by decide) ?_
      refine lv_iconst (v := 4) hx hb d_D_size_111 (by decide) ?_
      exact pg_iret hC.1 hw (hz _ rfl) d_D_size_112
    · refine lv_tableIn (off := 107) (tgt := 108) hx hb d_D_size_1 (Int.not_lt.mpr hin.1) (Int.not_lt.mpr hin.2) (by rw [e9]; rfl) (by decide) ?_
      refine lv_bipush (v := 8) hx hb d_D_size_108 (by decide) ?_
      exact pg_iret hC.1 hw (hz _ rfl) d_D_size_110
    · refine lv_tableIn (off := 114) (tgt := 115) hx hb d_D_size_1 (Int.not_lt.mpr hin.1) (Int.not_lt.mpr hin.2) (by rw [e9]; rfl) (by decide) ?_
      refine lv_iconst (v := 1) hx hb d_D_size_115 (by decide) ?_
      exact pg_iret hC.1 hw (hz _ rfl) d_D_size_116
    · refine lv_tableIn (off := 114) (tgt := 115) hx hb d_D_size_1 (Int.not_lt.mpr hin.1) (Int.not_lt.mpr hin.2) (by rw [e9]; rfl) (by decide) ?_
      refine lv_iconst (v := 1) hx hb d_D_size_115 (by decide) ?_
      exact pg_iret hC.1 hw (hz _ rfl) d_D_size_116
    · refine lv_tableIn (off := 112) (tgt := 113) hx hb d_D_size_1 (Int.not_lt.mpr hin.1) (Int.not_lt.mpr hin.2) (by rw [e9]; rfl) (by decide) ?_
      refine lv_iconst (v := 2) hx hb d_D_size_113 (by decide) ?_
      exact pg_iret hC.1 hw (hz _ rfl) d_D_size_114
    · refine lv_tableIn (off := 112) (tgt := 113) hx hb d_D_size_1 (Int.not_lt.mpr hin.1) (Int.not_lt.mpr hin.2) (by rw [e9]; rfl) (by decide) ?_
      refine lv_iconst (v := 2) hx hb d_D_size_113 (by decide) ?_
      exact pg_iret hC.1 hw (hz _ rfl) d_D_size_114
    · refine lv_tableIn (off := 114) (tgt := 115) hx hb d_D_size_1 (Int.not_lt.mpr hin.1) (Int.not_lt.mpr hin.2) (by rw [e9]; rfl) (by decide) ?_
      refine lv_iconst (v := 1) hx hb d_D_size_115 (by decide) ?_
      exact pg_iret hC.1 hw (hz _ rfl) d_D_size_116
    · refine lv_tableIn (off := 114) (tgt := 115) hx hb d_D_size_1 (Int.not_lt.mpr hin.1) (Int.not_lt.mpr hin.2) (by rw [e9]; rfl) (by decide) ?_
      refine lv_iconst (v := 1) hx hb d_D_size_115 (by decide) ?_
      exact pg_iret hC.1 hw (hz _ rfl) d_D_size_116
    · refine lv_tableIn (off := 112) (tgt := 113) hx hb d_D_size_1 (Int.not_lt.mpr hin.1) (Int.not_lt.mpr hin.2) (by rw [e9]; rfl) (by decide) ?_
      refine lv_iconst (v := 2) hx hb d_D_size_113 (by decide) ?_
      exact pg_iret hC.1 hw (hz _ rfl) d_D_size_114
    · refine lv_tableIn (off := 112) (tgt := 113) hx hb d_D_size_1 (Int.not_lt.mpr hin.1) (Int.not_lt.mpr hin.2) (by rw [e9]; rfl) (by decide) ?_
      refine lv_iconst (v := 2) hx hb d_D_size_113 (by decide) ?_
      exact pg_iret hC.1 hw (hz _ rfl) d_D_size_114
    · refine lv_tableIn (off := 110) (tgt := 111) hx hb d_D_size_1 (Int.not_lt.mpr hin.1) (Int.not_lt.mpr hin.2) (by rw [e9]; rfl) (by decide) ?_
      refine lv_iconst (v := 4) hx hb d_D_size_111 (by decide) ?_
      exact pg_iret hC.1 hw (hz _ rfl) d_D_size_112
    · refine lv_tableIn (off := 110) (tgt := 111) hx hb d_D_size_1 (Int.not_lt.mpr hin.1) (Int.not_lt.mpr hin.2) (by rw [e9]; rfl) (by decide) ?_
      refine lv_iconst (v := 4) hx hb d_D_size_111 (by decide) ?_
      exact pg_iret hC.1 hw (hz _ rfl) d_D_size_112
    · refine lv_tableIn (off := 110) (tgt := 111) hx hb d_D_size_1 (Int.not_lt.mpr hin.1) (Int.not_lt.mpr hin.2) (by rw [e9]; rfl) (by decide) ?_
      refine lv_iconst (v := 4) hx hb d_D_size_111 (by decide) ?_
      exact pg_iret hC.1 hw (hz _ rfl) d_D_size_112
    · refine lv_tableIn (off := 107) (tgt := 108) hx hb d_D_size_1 (Int.not_lt.mpr hin.1) (Int.not_lt.mpr hin.2) (by rw [e9]; rfl) (by decide) ?_
      refine lv_bipush (v := 8) hx hb d_D_size_108 (by decide) ?_
      exact pg_iret hC.1 hw (hz _ rfl) d_D_size_110
    · refine lv_tableIn (off := 110) (tgt := 111) hx hb d_D_size_1 (Int.not_lt.mpr hin.1) (Int.not_lt.mpr hin.2) (by rw [e9]; rfl) (by decide) ?_
      refine lv_iconst (v := 4) hx hb d_D_size_111 (by decide) ?_
      exact pg_iret hC.1 hw (hz _ rfl) d_D_size_112
    · refine lv_tableIn (off := 107) (tgt := 108) hx hb d_D_size_1 (Int.not_lt.mpr hin.1) (Int.not_lt.mpr hin.2) (by rw [e9]; rfl) (by decide) ?_
      refine lv_bipush (v := 8) hx hb d_D_size_108 (by decide) ?_
      exact pg_iret hC.1 hw (hz _ rfl) d_D_size_110
    · refine lv_tableIn (off := 114) (tgt := 115) hx hb d_D_size_1 (Int.not_lt.mpr hin.1) (Int.not_lt.mpr hin.2) (by rw [e9]; rfl) (by decide) ?_
      refine lv_iconst (v := 1) hx hb d_D_size_115 (by decide) ?_
      exact pg_iret hC.1 hw (hz _ rfl) d_D_size_116
    · refine lv_tableIn (off := 112) (tgt := 113) hx hb d_D_size_1 (Int.not_lt.mpr hin.1) (Int.not_lt.mpr hin.2) (by rw [e9]; rfl) (by decide) ?_
      refine lv_iconst (v := 2) hx hb d_D_size_113 (by decide) ?_
      exact pg_iret hC.1 hw (hz _ rfl) d_D_size_114
    · refine lv_tableIn (off := 114) (tgt := 115) hx hb d_D_size_1 (Int.not_lt.mpr hin.1) (Int.not_lt.mpr hin.2) (by rw [e9]; rfl) (by decide) ?_
      refine lv_iconst (v := 1) hx hb d_D_size_115 (by decide) ?_
      exact pg_iret hC.1 hw (hz _ rfl) d_D_size_116
    · refine lv_tableIn (off := 112) (tgt := 113) hx hb d_D_size_1 (Int.not_lt.mpr hin.1) (Int.not_lt.mpr hin.2) (by rw [e9]; rfl) (by decide) ?_
      refine lv_iconst (v := 2) hx hb d_D_size_113 (by decide) ?_
      exact pg_iret hC.1 hw (hz _ rfl) d_D_size_114
    · refine lv_tableIn (off := 110) (tgt := 111) hx hb d_D_size_1 (Int.not_lt.mpr hin.1) (Int.not_lt.mpr hin.2) (by rw [e9]; rfl) (by decide) ?_
      refine lv_iconst (v := 4) hx hb d_D_size_111 (by decide) ?_
      exact pg_iret hC.1 hw (hz _ rfl) d_D_size_112
  · refine lv_tableOut (tgt := 115) hx hb d_D_size_1 (by omega) (by decide) ?_
    refine lv_iconst (v := 1) hx hb d_D_size_115 (by decide) ?_
    exact pg_iret hC.1 hw (⟨⟨1, rfl, by decide, by decide, fun kd h1 h2 => absurd (by rw [h2, nI_toInt (by omega)]; omega) hin, fun kd h1 h2 => absurd (by rw [h2, nI_toInt (by omega)]; omega) hin⟩, rfl⟩) d_D_size_116
set_option maxHeartbeats 4000000 in
set_option maxRecDepth 100000 in
theorem c_D_isWhole_ld (l : Launch) (D : va_G) (kc : Nat → ClassId) (L : List Nat) (f : Nat → va_E) (sz : Nat) (op : Int32) : Met l y_D_isWhole w_D_isWhole ({ frames := 0, cells := 0, slots := 0, locals := 0 }) (PP D kc L f sz [.int op, .int 0]) (Qi D L f sz (fun r u => ((r = 1 ∧ ∃ kd, kd < 14 ∧ op = nI (40 + kd)) ∨ (r = 0 ∧ ¬ (∃ kd, kd < 14 ∧ op = nI (40 + kd)))) ∧ u = (L, f))) 0 0 (pA L f sz) := by
  refine kx_met (by decide) (Nat.le_of_ble_eq_true rfl) ?_
  intro p e s m below meth c hC hnm hw hsz ls hl
  subst hsz
  have hl : lv_has ls 2 [(0, .int op), (1, .int 0)] := hl
  obtain ⟨⟨⟨hx, hb, hml, hown, hts⟩, hret9, hlocks⟩, hK, hE, hA⟩ := id hC
  refine lv_iload_n hx hb d_D_isWhole_0 rfl (lv_at hl 1 rfl) ?_
  refine lv_if_eq (tgt := 24) hx hb d_D_isWhole_1 (by decide) (fun c0 => ?_) (fun c0 => (c0 rfl).elim)
  refine lv_iload_n hx hb d_D_isWhole_24 rfl (lv_at hl 0 rfl) ?_
  refine lv_bipush (v := 40) hx hb d_D_isWhole_25 (by decide) ?_
  refine lv_icmp_lt (tgt := 40) hx hb d_D_isWhole_27 (by decide) (fun c1 => ?_) (fun c1 => ?_)
  · refine lv_iconst (v := 0) hx hb d_D_isWhole_40 (by decide) ?_
    exact pg_zret hC.1 hw (by decide) (⟨Or.inr ⟨rfl, fun h => by obtain ⟨kd, h1, rfl⟩ := h; exact nI_nlt (a := 40 + kd) (b := 40) (by omega) (by omega) c1⟩, rfl⟩) d_D_isWhole_41
  · refine lv_iload_n hx hb d_D_isWhole_30 rfl (lv_at hl 0 rfl) ?_
    refine lv_bipush (v := 53) hx hb d_D_isWhole_31 (by decide) ?_
    refine lv_icmp_gt (tgt := 40) hx hb d_D_isWhole_33 (by decide) (fun c2 => ?_) (fun c2 => ?_)
    · refine lv_iconst (v := 0) hx hb d_D_isWhole_40 (by decide) ?_
      exact pg_zret hC.1 hw (by decide) (⟨Or.inr ⟨rfl, fun h => by obtain ⟨kd, h1, rfl⟩ := h; exact nI_nlt (a := 53) (b := 40 + kd) (by omega) (by omega) c2⟩, rfl⟩) d_D_isWhole_41
    · refine lv_iconst (v := 1) hx hb d_D_isWhole_36 (by decide) ?_
      refine lv_goto (tgt := 41) hx hb d_D_isWhole_37 (by decide) ?_
      obtain ⟨kd, h1, h2, -⟩ := kd_of (op := op) 40 14 (by decide) c1 (Int32.lt_of_le_of_lt (Int32.not_lt.mp c2) (by decide))
      exact pg_zret hC.1 hw (by decide) (⟨Or.inl ⟨rfl, kd, h1, h2⟩, rfl⟩) d_D_isWhole_41
set_option maxHeartbeats 4000000 in
set_option maxRecDepth 100000 in
theorem c_D_isWhole_st (l : Launch) (D : va_G) (kc : Nat → ClassId) (L : List Nat) (f : Nat → va_E) (sz : Nat) (op : Int32) : Met l y_D_isWhole w_D_isWhole ({ frames := 0, cells := 0, slots := 0, locals := 0 }) (PP D kc L f sz [.int op, .int 1]) (Qi D L f sz (fun r u => ((r = 1 ∧ ∃ kd, kd < 9 ∧ op = nI (54 + kd)) ∨ (r = 0 ∧ ¬ (∃ kd, kd < 9 ∧ op = nI (54 + kd)))) ∧ u = (L, f))) 0 0 (pA L f sz) := by
  refine kx_met (by decide) (Nat.le_of_ble_eq_true rfl) ?_
  intro p e s m below meth c hC hnm hw hsz ls hl
  subst hsz
  have hl : lv_has ls 2 [(0, .int op), (1, .int 1)] := hl
  obtain ⟨⟨⟨hx, hb, hml, hown, hts⟩, hret9, hlocks⟩, hK, hE, hA⟩ := id hC
  refine lv_iload_n hx hb d_D_isWhole_0 rfl (lv_at hl 1 rfl) ?_
  refine lv_if_eq (tgt := 24) hx hb d_D_isWhole_1 (by decide) (fun c0 => ((by decide : ¬ (1 : Int32) = 0) c0).elim) (fun c0 => ?_)
  refine lv_iload_n hx hb d_D_isWhole_4 rfl (lv_at hl 0 rfl) ?_
  refine lv_bipush (v := 54) hx hb d_D_isWhole_5 (by decide) ?_
  refine lv_icmp_lt (tgt := 20) hx hb d_D_isWhole_7 (by decide) (fun c1 => ?_) (fun c1 => ?_)
  · refine lv_iconst (v := 0) hx hb d_D_isWhole_20 (by decide) ?_
    refine lv_goto (tgt := 41) hx hb d_D_isWhole_21 (by decide) ?_
    exact pg_zret hC.1 hw (by decide) (⟨Or.inr ⟨rfl, fun h => by obtain ⟨kd, h1, rfl⟩ := h; exact nI_nlt (a := 54 + kd) (b := 54) (by omega) (by omega) c1⟩, rfl⟩) d_D_isWhole_41
  · refine lv_iload_n hx hb d_D_isWhole_10 rfl (lv_at hl 0 rfl) ?_
    refine lv_bipush (v := 62) hx hb d_D_isWhole_11 (by decide) ?_
    refine lv_icmp_gt (tgt := 20) hx hb d_D_isWhole_13 (by decide) (fun c2 => ?_) (fun c2 => ?_)
    · refine lv_iconst (v := 0) hx hb d_D_isWhole_20 (by decide) ?_
      refine lv_goto (tgt := 41) hx hb d_D_isWhole_21 (by decide) ?_
      exact pg_zret hC.1 hw (by decide) (⟨Or.inr ⟨rfl, fun h => by obtain ⟨kd, h1, rfl⟩ := h; exact nI_nlt (a := 62) (b := 54 + kd) (by omega) (by omega) c2⟩, rfl⟩) d_D_isWhole_41
    · refine lv_iconst (v := 1) hx hb d_D_isWhole_16 (by decide) ?_
      refine lv_goto (tgt := 41) hx hb d_D_isWhole_17 (by decide) ?_
      obtain ⟨kd, h1, h2, -⟩ := kd_of (op := op) 54 9 (by decide) c1 (Int32.lt_of_le_of_lt (Int32.not_lt.mp c2) (by decide))
      exact pg_zret hC.1 hw (by decide) (⟨Or.inl ⟨rfl, kd, h1, h2⟩, rfl⟩) d_D_isWhole_41
set_option maxHeartbeats 4000000 in
set_option maxRecDepth 100000 in
theorem c_D_place (l : Launch) (D : va_G) (kc : Nat → ClassId) (L : List Nat) (f : Nat → va_E) (sz : Nat) (ad of : Int32) : Met l y_D_place w_D_place ({ frames := 0, cells := 0, slots := 0, locals := 0 }) (PP D kc L f sz [.int ad, .int of]) (Ql D L f sz (fun r u => r = lN (uI ad + uI of) ∧ u = (L, f))) 0 0 (pA L f sz) := by
  refine kx_met (by decide) (Nat.le_of_ble_eq_true rfl) ?_
  intro p e s m below meth c hC hnm hw hsz ls hl
  subst hsz
  have hl : lv_has ls 2 [(0, .int ad), (1, .int of)] := hl
  obtain ⟨⟨⟨hx, hb, hml, hown, hts⟩, hret9, hlocks⟩, hK, hE, hA⟩ := id hC
  refine lv_iload_n hx hb d_D_place_0 rfl (lv_at hl 0 rfl) ?_
  refine lv_i2l hx hb d_D_place_1 rfl ?_
  refine lv_ldc2 (v := 4294967295) hx hb hown (hts _ (gg_mem k_cn_D_63)) d_D_place_2 ?_
  refine lv_land hx hb d_D_place_5 ?_
  refine tp_l (v := lN (uI ad)) (uI_and ad) ?_
  refine lv_iload_n hx hb d_D_place_6 rfl (lv_at hl 1 rfl) ?_
  refine lv_i2l hx hb d_D_place_7 rfl ?_
  refine lv_ldc2 (v := 4294967295) hx hb hown (hts _ (gg_mem k_cn_D_63)) d_D_place_8 ?_
  refine lv_land hx hb d_D_place_11 ?_
  refine tp_l (v := lN (uI of)) (uI_and of) ?_
  refine lv_ladd hx hb d_D_place_12 ?_
  refine tp_l (v := lN (uI ad + uI of)) (lN_add _ _) ?_
  exact pg_lret hC.1 hw (⟨rfl, rfl⟩) d_D_place_13
set_option maxHeartbeats 4000000 in
set_option maxRecDepth 100000 in
theorem c_D_isThere (l : Launch) (D : va_G) (kc : Nat → ClassId) (L : List Nat) (f : Nat → va_E) (sz : Nat) (d mst ow ix bb cpy : Nat) (gb : Nat → Option Nat) (hm9 ho9 hi9 hc9 : Nat → Int32) (tg : Nat → Nat × Nat) (th : Int32) (nm : Nat) (mo : Nat → Int32) (om : Nat → Nat) (al : Nat) (bs : Nat → Nat → Nat) (hg : modG kc L f tg d mst ow ix bb cpy gb hm9 ho9 hi9 hc9 th nm mo om al bs) (hs : stOK nm mo om al bs) (k : Nat) (hk : k < nm) (pl : Int64) (nb : Nat) (hnb : nb ≤ 65536) : Met l y_D_isThere w_D_isThere ({ frames := 1, cells := 0, slots := 0, locals := 23 }) (PP D kc L f sz [.ref d, .int (nI k), .long pl, .int (nI nb)]) (Qi D L f sz (fun r u => ((r = 1 ∧ thereP pl nb (cnt om al k)) ∨ (r = 0 ∧ ¬ thereP pl nb (cnt om al k))) ∧ u = (L, f))) 0 0 (pA L f sz) := by
  refine kx_met (by decide) (Nat.le_of_ble_eq_true rfl) ?_
  intro p e s m below meth c hC hnm hw hsz ls hl
  subst hsz
  have hl : lv_has ls 5 [(0, .ref d), (1, .int (nI k)), (2, .long pl), (4, .int (nI nb))] := hl
  obtain ⟨⟨⟨hx, hb, hml, hown, hts⟩, hret9, hlocks⟩, hK, hE, hA⟩ := id hC
  obtain ⟨⟨hdL, htd, hfd⟩, ⟨hmL, htm, hfm⟩, ⟨hoL, hto, hfo⟩, ⟨hiL, hti, hfi⟩, ⟨hbL, htb, hfb⟩, ⟨hcL, htc, hfc⟩, hk1, hk2, hk3⟩ := id hg
  obtain ⟨hs1, hs2, hs3, hs4, hs5, hs6⟩ := id hs
  have hcl := cnt_le om k al
  refine lv_iload hx hb d_D_isThere_0 (lv_at hl 3 rfl) ?_
  refine lv_if_eq (tgt := 30) hx hb d_D_isThere_2 (by decide) (fun c1 => ?_) (fun c1 => ?_)
  · refine lv_iconst (v := 1) hx hb d_D_isThere_30 (by decide) ?_
    refine lv_goto (tgt := 35) hx hb d_D_isThere_31 (by decide) ?_
    exact pg_zret hC.1 hw (by decide) (⟨Or.inl ⟨rfl, Or.inl (nI_inj hnb (by decide) c1)⟩, rfl⟩) d_D_isThere_35
  · have hnz : nb ≠ 0 := fun e => c1 (by rw [e]; rfl)
    refine lv_lload_n hx hb d_D_isThere_5 rfl (lv_at hl 2 rfl) ?_
    refine lv_lconst (v := 0) hx hb d_D_isThere_6 (by decide) ?_
    refine W.lcmp hx hb d_D_isThere_7 ?_
    refine lv_if_lt (tgt := 34) hx hb d_D_isThere_8 (by decide) (fun c2 => ?_) (fun c2 => ?_)
    · refine lv_iconst (v := 0) hx hb d_D_isThere_34 (by decide) ?_
      exact pg_zret hC.1 hw (by decide) (⟨Or.inr ⟨rfl, fun h => h.elim hnz (fun q => q.1 ((lg_cmp_lt _ _).mp c2))⟩, rfl⟩) d_D_isThere_35
    · refine lv_lload_n hx hb d_D_isThere_11 rfl (lv_at hl 2 rfl) ?_
      refine lv_iload hx hb d_D_isThere_12 (lv_at hl 3 rfl) ?_
      refine lv_i2l hx hb d_D_isThere_14 rfl ?_
      refine tp_l (v := lN nb) (nI_toI64 _ (by omega)) ?_
      refine lv_ladd hx hb d_D_isThere_15 ?_
      refine lv_ldc2 (v := 65536) hx hb hown (hts _ (gg_mem k_cn_D_38)) d_D_isThere_16 ?_
      refine lv_aload_n hx hb d_D_isThere_19 rfl (lv_at hl 0 rfl) ?_
      refine lv_iload_n hx hb d_D_isThere_20 rfl (lv_at hl 1 rfl) ?_
      refine callVi (As := [.int (nI k)]) (n9 := 1) hC hw (c_D_count l D kc _ _ _ d mst ow ix bb cpy gb hm9 ho9 hi9 hc9 tg th nm mo om al bs hg hs k hk) k_co_D_count k_ml_D_55 k_im_D_count k_se_D_count k_in_D rfl rfl (by decide +kernel) rfl ⟨Nat.le_of_ble_eq_true rfl, Nat.le_of_ble_eq_true rfl⟩ hdL hfd rfl hl.1 rfl (Nat.le_of_ble_eq_true rfl) d_D_isThere_21 ⟨Nat.le_of_ble_eq_true rfl, Nat.le_of_ble_eq_true rfl⟩ (fun r9 u H locs hp hw => ?_)
      obtain ⟨rfl, rfl⟩ := hp
      refine lv_i2l hx hb d_D_isThere_24 rfl ?_
      refine tp_l (v := lN (cnt om al k)) (nI_toI64 _ (by omega)) ?_
      refine lv_lmul hx hb d_D_isThere_25 ?_
      refine tp_l (v := lN (65536 * cnt om al k)) (lN_mul 65536 _) ?_
      refine W.lcmp hx hb d_D_isThere_26 ?_
      refine lv_if_gt (tgt := 34) hx hb d_D_isThere_27 (by decide) (fun c3 => ?_) (fun c3 => ?_)
      · refine lv_iconst (v := 0) hx hb d_D_isThere_34 (by decide) ?_
        exact pg_zret hC.1 hw (by decide) (⟨Or.inr ⟨rfl, fun h => h.elim hnz (fun q => Int64.not_lt.mpr q.2 ((lg_cmp_gt _ _).mp c3))⟩, rfl⟩) d_D_isThere_35
      · refine lv_iconst (v := 1) hx hb d_D_isThere_30 (by decide) ?_
        refine lv_goto (tgt := 35) hx hb d_D_isThere_31 (by decide) ?_
        exact pg_zret hC.1 hw (by decide) (⟨Or.inl ⟨rfl, Or.inr ⟨fun q => c2 ((lg_cmp_lt _ _).mpr q), Int64.not_lt.mp (fun q => c3 ((lg_cmp_gt _ _).mpr q))⟩⟩, rfl⟩) d_D_isThere_35
set_option maxHeartbeats 4000000 in
set_option maxRecDepth 100000 in
theorem c_D_pages (l : Launch) (D : va_G) (kc : Nat → ClassId) (L : List Nat) (f : Nat → va_E) (sz : Nat) (d mst ow ix bb cpy : Nat) (gb : Nat → Option Nat) (hm9 ho9 hi9 hc9 : Nat → Int32) (tg : Nat → Nat × Nat) (th : Int32) (nm : Nat) (mo : Nat → Int32) (om : Nat → Nat) (al : Nat) (bs : Nat → Nat → Nat) (hg : modG kc L f tg d mst ow ix bb cpy gb hm9 ho9 hi9 hc9 th nm mo om al bs) (hs : stOK nm mo om al bs) (mm : Int32) : Met l y_D_pages w_D_pages ({ frames := 1, cells := 0, slots := 0, locals := 23 }) (PP D kc L f sz [.ref d, .int mm]) (Qi D L f sz (fun r u => ∃ t9 tg', modP kc u.1 u.2 tg' d t9 nm mo om al bs ∧ Ext SD L f tg u tg' ∧ ((t9 = 0 ∧ ∃ k, k < nm ∧ mm = nI k ∧ r = nI (cnt om al k)) ∨ (t9 = 1 ∧ ¬ (∃ k, k < nm ∧ mm = nI k))))) 0 0 (pA L f sz) := by
  refine kx_met (by decide) (Nat.le_of_ble_eq_true rfl) ?_
  intro p e s m below meth c hC hnm hw hsz ls hl
  subst hsz
  have hl : lv_has ls 2 [(0, .ref d), (1, .int mm)] := hl
  obtain ⟨⟨⟨hx, hb, hml, hown, hts⟩, hret9, hlocks⟩, hK, hE, hA⟩ := id hC
  obtain ⟨⟨hdL, htd, hfd⟩, ⟨hmL, htm, hfm⟩, ⟨hoL, hto, hfo⟩, ⟨hiL, hti, hfi⟩, ⟨hbL, htb, hfb⟩, ⟨hcL, htc, hfc⟩, hk1, hk2, hk3⟩ := id hg
  obtain ⟨hs1, hs2, hs3, hs4, hs5, hs6⟩ := id hs
  refine lv_aload_n hx hb d_D_pages_0 rfl (lv_at hl 0 rfl) ?_
  refine lv_aload_n hx hb d_D_pages_1 rfl (lv_at hl 0 rfl) ?_
  refine lv_iload_n hx hb d_D_pages_2 rfl (lv_at hl 1 rfl) ?_
  refine callVi (As := [.int mm]) (n9 := 1) hC hw (c_D_isMemory l D kc _ _ _ d mst ow ix bb cpy gb hm9 ho9 hi9 hc9 tg th nm mo om al bs hg hs mm) k_co_D_isMemory k_ml_D_51 k_im_D_isMemory k_se_D_isMemory k_in_D rfl rfl (by decide +kernel) rfl ⟨Nat.le_of_ble_eq_true rfl, Nat.le_of_ble_eq_true rfl⟩ hdL hfd rfl hl.1 rfl (Nat.le_of_ble_eq_true rfl) d_D_pages_3 ⟨Nat.le_of_ble_eq_true rfl, Nat.le_of_ble_eq_true rfl⟩ (fun r9 u H locs hp hw => ?_)
  obtain ⟨hp, rfl⟩ := hp
  rcases hp with ⟨rfl, k, hkn, rfl⟩ | ⟨rfl, hno⟩
  · refine lv_if_eq (tgt := 13) hx hb d_D_pages_6 (by decide) (fun c0 => ((by decide : ¬ (1 : Int32) = 0) c0).elim) (fun c0 => ?_)
    refine lv_iconst (v := 0) hx hb d_D_pages_9 (by decide) ?_
    refine lv_goto (tgt := 14) hx hb d_D_pages_10 (by decide) ?_
    refine put_D hC hw hdL hfd 0 (by decide) k_fl_D_28 rfl rfl rfl (Nat.le_of_ble_eq_true rfl) d_D_pages_14 (fun H locs hw => ?_)
    obtain ⟨f1, hf1⟩ : ∃ F, F = va_up f d (.inr (3, [.int 0, .int (nI nm), .ref mst, .int (nI al), .ref ow, .ref ix, .ref bb, .ref cpy])) := ⟨_, rfl⟩
    have hw := pw_as (f' := f1) hw rfl hf1.symm
    obtain ⟨hg1, he1⟩ := mod_th hg 0
    rw [← hf1] at hg1 he1
    obtain ⟨⟨hdL1, htd1, hfd1⟩, ⟨hmL1, htm1, hfm1⟩, ⟨hoL1, hto1, hfo1⟩, ⟨hiL1, hti1, hfi1⟩, ⟨hbL1, htb1, hfb1⟩, ⟨hcL1, htc1, hfc1⟩, hk11, hk21, hk31⟩ := id hg1
    refine lv_aload_n hx hb d_D_pages_17 rfl (lv_at hl 0 rfl) ?_
    refine get_D hC hw hdL1 hfd1 0 (by decide) k_fl_D_28 rfl d_D_pages_18 ?_
    refine lv_if_le (tgt := 28) hx hb d_D_pages_21 (by decide) (fun c1 => ?_) (fun c1 => (c1 (by decide)).elim)
    refine lv_aload_n hx hb d_D_pages_28 rfl (lv_at hl 0 rfl) ?_
    refine lv_iload_n hx hb d_D_pages_29 rfl (lv_at hl 1 rfl) ?_
    refine callVi (As := [.int (nI k)]) (n9 := 1) hC hw (c_D_count l D kc _ _ _ d mst ow ix bb cpy gb hm9 ho9 hi9 hc9 tg 0 nm mo om al bs hg1 hs k hkn) k_co_D_count k_ml_D_55 k_im_D_count k_se_D_count k_in_D rfl rfl (by decide +kernel) rfl ⟨Nat.le_of_ble_eq_true rfl, Nat.le_of_ble_eq_true rfl⟩ hdL1 hfd1 rfl hl.1 rfl (Nat.le_of_ble_eq_true rfl) d_D_pages_30 ⟨Nat.le_of_ble_eq_true rfl, Nat.le_of_ble_eq_true rfl⟩ (fun r9 u H locs hp hw => ?_)
    obtain ⟨rfl, rfl⟩ := hp
    exact pg_iret hC.1 hw (⟨0, tg, ⟨mst, ow, ix, bb, cpy, gb, hm9, ho9, hi9, hc9, hg1⟩, he1, Or.inl ⟨rfl, k, hkn, rfl, rfl⟩⟩) d_D_pages_33
  · refine lv_if_eq (tgt := 13) hx hb d_D_pages_6 (by decide) (fun c0 => ?_) (fun c0 => (c0 rfl).elim)
    refine lv_iconst (v := 1) hx hb d_D_pages_13 (by decide) ?_
    refine put_D hC hw hdL hfd 0 (by decide) k_fl_D_28 rfl rfl rfl (Nat.le_of_ble_eq_true rfl) d_D_pages_14 (fun H locs hw => ?_)
    obtain ⟨f1, hf1⟩ : ∃ F, F = va_up f d (.inr (3, [.int 1, .int (nI nm), .ref mst, .int (nI al), .ref ow, .ref ix, .ref bb, .ref cpy])) := ⟨_, rfl⟩
    have hw := pw_as (f' := f1) hw rfl hf1.symm
    obtain ⟨hg1, he1⟩ := mod_th hg 1
    rw [← hf1] at hg1 he1
    obtain ⟨⟨hdL1, htd1, hfd1⟩, ⟨hmL1, htm1, hfm1⟩, ⟨hoL1, hto1, hfo1⟩, ⟨hiL1, hti1, hfi1⟩, ⟨hbL1, htb1, hfb1⟩, ⟨hcL1, htc1, hfc1⟩, hk11, hk21, hk31⟩ := id hg1
    refine lv_aload_n hx hb d_D_pages_17 rfl (lv_at hl 0 rfl) ?_
    refine get_D hC hw hdL1 hfd1 0 (by decide) k_fl_D_28 rfl d_D_pages_18 ?_
    refine lv_if_le (tgt := 28) hx hb d_D_pages_21 (by decide) (fun c1 => ((by decide : ¬ (1 : Int32) ≤ 0) c1).elim) (fun c1 => ?_)
    refine lv_iconst (v := 0) hx hb d_D_pages_24 (by decide) ?_
    refine lv_goto (tgt := 33) hx hb d_D_pages_25 (by decide) ?_
    exact pg_iret hC.1 hw (⟨1, tg, ⟨mst, ow, ix, bb, cpy, gb, hm9, ho9, hi9, hc9, hg1⟩, he1, Or.inr ⟨rfl, hno⟩⟩) d_D_pages_33
set_option maxHeartbeats 4000000 in
set_option maxRecDepth 100000 in
theorem c_D_fits (l : Launch) (D : va_G) (kc : Nat → ClassId) (L : List Nat) (f : Nat → va_E) (sz : Nat) (d mst ow ix bb cpy : Nat) (gb : Nat → Option Nat) (hm9 ho9 hi9 hc9 : Nat → Int32) (tg : Nat → Nat × Nat) (th : Int32) (nm : Nat) (mo : Nat → Int32) (om : Nat → Nat) (al : Nat) (bs : Nat → Nat → Nat) (hg : modG kc L f tg d mst ow ix bb cpy gb hm9 ho9 hi9 hc9 th nm mo om al bs) (hs : stOK nm mo om al bs) (mm least most : Int32) : Met l y_D_fits w_D_fits ({ frames := 1, cells := 0, slots := 0, locals := 23 }) (PP D kc L f sz [.ref d, .int mm, .int least, .int most]) (Qi D L f sz (fun r u => ∃ t9 tg', modP kc u.1 u.2 tg' d t9 nm mo om al bs ∧ Ext SD L f tg u tg' ∧ ((t9 = 0 ∧ ∃ k, k < nm ∧ mm = nI k ∧ r = fitV (nI (cnt om al k)) (mo k) least most) ∨ (t9 = 1 ∧ ¬ (∃ k, k < nm ∧ mm = nI k))))) 0 0 (pA L f sz) := by
  refine kx_met (by decide) (Nat.le_of_ble_eq_true rfl) ?_
  intro p e s m below meth c hC hnm hw hsz ls hl
  subst hsz
  have hl : lv_has ls 4 [(0, .ref d), (1, .int mm), (2, .int least), (3, .int most)] := hl
  obtain ⟨⟨⟨hx, hb, hml, hown, hts⟩, hret9, hlocks⟩, hK, hE, hA⟩ := id hC
  obtain ⟨⟨hdL, htd, hfd⟩, ⟨hmL, htm, hfm⟩, ⟨hoL, hto, hfo⟩, ⟨hiL, hti, hfi⟩, ⟨hbL, htb, hfb⟩, ⟨hcL, htc, hfc⟩, hk1, hk2, hk3⟩ := id hg
  obtain ⟨hs1, hs2, hs3, hs4, hs5, hs6⟩ := id hs
  refine lv_aload_n hx hb d_D_fits_0 rfl (lv_at hl 0 rfl) ?_
  refine lv_aload_n hx hb d_D_fits_1 rfl (lv_at hl 0 rfl) ?_
  refine lv_iload_n hx hb d_D_fits_2 rfl (lv_at hl 1 rfl) ?_
  refine callVi (As := [.int mm]) (n9 := 1) hC hw (c_D_isMemory l D kc _ _ _ d mst ow ix bb cpy gb hm9 ho9 hi9 hc9 tg th nm mo om al bs hg hs mm) k_co_D_isMemory k_ml_D_51 k_im_D_isMemory k_se_D_isMemory k_in_D rfl rfl (by decide +kernel) rfl ⟨Nat.le_of_ble_eq_true rfl, Nat.le_of_ble_eq_true rfl⟩ hdL hfd rfl hl.1 rfl (Nat.le_of_ble_eq_true rfl) d_D_fits_3 ⟨Nat.le_of_ble_eq_true rfl, Nat.le_of_ble_eq_true rfl⟩ (fun r9 u H locs hp hw => ?_)
  obtain ⟨hp, rfl⟩ := hp
  rcases hp with ⟨rfl, k, hkn, rfl⟩ | ⟨rfl, hno⟩
  · refine lv_if_eq (tgt := 13) hx hb d_D_fits_6 (by decide) (fun c0 => ((by decide : ¬ (1 : Int32) = 0) c0).elim) (fun c0 => ?_)
    refine lv_iconst (v := 0) hx hb d_D_fits_9 (by decide) ?_
    refine lv_goto (tgt := 14) hx hb d_D_fits_10 (by decide) ?_
    refine put_D hC hw hdL hfd 0 (by decide) k_fl_D_28 rfl rfl rfl (Nat.le_of_ble_eq_true rfl) d_D_fits_14 (fun H locs hw => ?_)
    obtain ⟨f1, hf1⟩ : ∃ F, F = va_up f d (.inr (3, [.int 0, .int (nI nm), .ref mst, .int (nI al), .ref ow, .ref ix, .ref bb, .ref cpy])) := ⟨_, rfl⟩
    have hw := pw_as (f' := f1) hw rfl hf1.symm
    obtain ⟨hg1, he1⟩ := mod_th hg 0
    rw [← hf1] at hg1 he1
    obtain ⟨⟨hdL1, htd1, hfd1⟩, ⟨hmL1, htm1, hfm1⟩, ⟨hoL1, hto1, hfo1⟩, ⟨hiL1, hti1, hfi1⟩, ⟨hbL1, htb1, hfb1⟩, ⟨hcL1, htc1, hfc1⟩, hk11, hk21, hk31⟩ := id hg1
    refine lv_aload_n hx hb d_D_fits_17 rfl (lv_at hl 0 rfl) ?_
    refine get_D hC hw hdL1 hfd1 0 (by decide) k_fl_D_28 rfl d_D_fits_18 ?_
    refine lv_if_ne (tgt := 62) hx hb d_D_fits_21 (by decide) (fun c1 => (c1 rfl).elim) (fun c1 => ?_)
    refine lv_aload_n hx hb d_D_fits_24 rfl (lv_at hl 0 rfl) ?_
    refine lv_iload_n hx hb d_D_fits_25 rfl (lv_at hl 1 rfl) ?_
    refine callVi (As := [.int (nI k)]) (n9 := 1) hC hw (c_D_count l D kc _ _ _ d mst ow ix bb cpy gb hm9 ho9 hi9 hc9 tg 0 nm mo om al bs hg1 hs k hkn) k_co_D_count k_ml_D_55 k_im_D_count k_se_D_count k_in_D rfl rfl (by decide +kernel) rfl ⟨Nat.le_of_ble_eq_true rfl, Nat.le_of_ble_eq_true rfl⟩ hdL1 hfd1 rfl hl.1 rfl (Nat.le_of_ble_eq_true rfl) d_D_fits_26 ⟨Nat.le_of_ble_eq_true rfl, Nat.le_of_ble_eq_true rfl⟩ (fun r9 u H locs hp hw => ?_)
    obtain ⟨rfl, rfl⟩ := hp
    refine lv_iload_n hx hb d_D_fits_29 rfl (lv_at hl 2 rfl) ?_
    refine lv_icmp_lt (tgt := 62) hx hb d_D_fits_30 (by decide) (fun c2 => ?_) (fun c2 => ?_)
    · refine lv_iconst (v := 0) hx hb d_D_fits_62 (by decide) ?_
      exact pg_zret hC.1 hw (by decide) (⟨0, tg, ⟨mst, ow, ix, bb, cpy, gb, hm9, ho9, hi9, hc9, hg1⟩, he1, Or.inl ⟨rfl, k, hkn, rfl, by unfold fitV; rw [if_neg (fun h => Int32.not_lt.mpr h.1 c2)]⟩⟩) d_D_fits_63
    · refine lv_iload_n hx hb d_D_fits_33 rfl (lv_at hl 3 rfl) ?_
      refine lv_iconst (v := (-1)) hx hb d_D_fits_34 (by decide) ?_
      refine lv_icmp_eq (tgt := 58) hx hb d_D_fits_35 (by decide) (fun c3 => ?_) (fun c3 => ?_)
      · refine lv_iconst (v := 1) hx hb d_D_fits_58 (by decide) ?_
        refine lv_goto (tgt := 63) hx hb d_D_fits_59 (by decide) ?_
        exact pg_zret hC.1 hw (by decide) (⟨0, tg, ⟨mst, ow, ix, bb, cpy, gb, hm9, ho9, hi9, hc9, hg1⟩, he1, Or.inl ⟨rfl, k, hkn, rfl, by unfold fitV; rw [if_pos ⟨Int32.not_lt.mp c2, Or.inl c3⟩]⟩⟩) d_D_fits_63
      · refine lv_aload_n hx hb d_D_fits_38 rfl (lv_at hl 0 rfl) ?_
        refine get_D hC hw hdL1 hfd1 2 (by decide) k_fl_D_9 rfl d_D_fits_39 ?_
        refine lv_iload_n hx hb d_D_fits_42 rfl (lv_at hl 1 rfl) ?_
        refine ald_I hC hw hmL1 hfm1 (by omega) (by decide) d_D_fits_43 ?_
        refine tp_i (v := mo k) (hk1 k hkn) ?_
        refine lv_iconst (v := (-1)) hx hb d_D_fits_44 (by decide) ?_
        refine lv_icmp_eq (tgt := 62) hx hb d_D_fits_45 (by decide) (fun c4 => ?_) (fun c4 => ?_)
        · refine lv_iconst (v := 0) hx hb d_D_fits_62 (by decide) ?_
          exact pg_zret hC.1 hw (by decide) (⟨0, tg, ⟨mst, ow, ix, bb, cpy, gb, hm9, ho9, hi9, hc9, hg1⟩, he1, Or.inl ⟨rfl, k, hkn, rfl, by unfold fitV; rw [if_neg (fun h => h.2.elim c3 (fun q => q.1 c4))]⟩⟩) d_D_fits_63
        · refine lv_aload_n hx hb d_D_fits_48 rfl (lv_at hl 0 rfl) ?_
          refine get_D hC hw hdL1 hfd1 2 (by decide) k_fl_D_9 rfl d_D_fits_49 ?_
          refine lv_iload_n hx hb d_D_fits_52 rfl (lv_at hl 1 rfl) ?_
          refine ald_I hC hw hmL1 hfm1 (by omega) (by decide) d_D_fits_53 ?_
          refine tp_i (v := mo k) (hk1 k hkn) ?_
          refine lv_iload_n hx hb d_D_fits_54 rfl (lv_at hl 3 rfl) ?_
          refine lv_icmp_gt (tgt := 62) hx hb d_D_fits_55 (by decide) (fun c5 => ?_) (fun c5 => ?_)
          · refine lv_iconst (v := 0) hx hb d_D_fits_62 (by decide) ?_
            exact pg_zret hC.1 hw (by decide) (⟨0, tg, ⟨mst, ow, ix, bb, cpy, gb, hm9, ho9, hi9, hc9, hg1⟩, he1, Or.inl ⟨rfl, k, hkn, rfl, by unfold fitV; rw [if_neg (fun h => h.2.elim c3 (fun q => Int32.not_lt.mpr q.2 c5))]⟩⟩) d_D_fits_63
          · refine lv_iconst (v := 1) hx hb d_D_fits_58 (by decide) ?_
            refine lv_goto (tgt := 63) hx hb d_D_fits_59 (by decide) ?_
            exact pg_zret hC.1 hw (by decide) (⟨0, tg, ⟨mst, ow, ix, bb, cpy, gb, hm9, ho9, hi9, hc9, hg1⟩, he1, Or.inl ⟨rfl, k, hkn, rfl, by unfold fitV; rw [if_pos ⟨Int32.not_lt.mp c2, Or.inr ⟨c4, Int32.not_lt.mp c5⟩⟩]⟩⟩) d_D_fits_63
  · refine lv_if_eq (tgt := 13) hx hb d_D_fits_6 (by decide) (fun c0 => ?_) (fun c0 => (c0 rfl).elim)
    refine lv_iconst (v := 1) hx hb d_D_fits_13 (by decide) ?_
    refine put_D hC hw hdL hfd 0 (by decide) k_fl_D_28 rfl rfl rfl (Nat.le_of_ble_eq_true rfl) d_D_fits_14 (fun H locs hw => ?_)
    obtain ⟨f1, hf1⟩ : ∃ F, F = va_up f d (.inr (3, [.int 1, .int (nI nm), .ref mst, .int (nI al), .ref ow, .ref ix, .ref bb, .ref cpy])) := ⟨_, rfl⟩
    have hw := pw_as (f' := f1) hw rfl hf1.symm
    obtain ⟨hg1, he1⟩ := mod_th hg 1
    rw [← hf1] at hg1 he1
    obtain ⟨⟨hdL1, htd1, hfd1⟩, ⟨hmL1, htm1, hfm1⟩, ⟨hoL1, hto1, hfo1⟩, ⟨hiL1, hti1, hfi1⟩, ⟨hbL1, htb1, hfb1⟩, ⟨hcL1, htc1, hfc1⟩, hk11, hk21, hk31⟩ := id hg1
    refine lv_aload_n hx hb d_D_fits_17 rfl (lv_at hl 0 rfl) ?_
    refine get_D hC hw hdL1 hfd1 0 (by decide) k_fl_D_28 rfl d_D_fits_18 ?_
    refine lv_if_ne (tgt := 62) hx hb d_D_fits_21 (by decide) (fun c1 => ?_) (fun c1 => ((by decide : ¬ (1 : Int32) = 0) c1).elim)
    refine lv_iconst (v := 0) hx hb d_D_fits_62 (by decide) ?_
    exact pg_zret hC.1 hw (by decide) (⟨1, tg, ⟨mst, ow, ix, bb, cpy, gb, hm9, ho9, hi9, hc9, hg1⟩, he1, Or.inr ⟨rfl, hno⟩⟩) d_D_fits_63
end
section
/-! The reference: make, grow, its constructor -/
theorem appN_app (om : Nat → Nat) (al m i : Nat) : appN (appN om al m) (al + i) m = appN om al m := by
  funext k
  unfold appN
  by_cases h : k < al
  · rw [if_pos (by omega), if_pos h]
  · rw [if_neg h]
    by_cases h2 : k < al + i
    · rw [if_pos h2]
    · rw [if_neg h2]
theorem mod_om {kc : Nat → ClassId} {L : List Nat} {f : Nat → va_E} {tg : Nat → Nat × Nat} {d mst ow ix bb cpy : Nat} {gb : Nat → Option Nat} {hm ho hi hc : Nat → Int32} {th : Int32} {n : Nat} {mo : Nat → Int32} {om : Nat → Nat} {al : Nat} {bs : Nat → Nat → Nat} (h : modG kc L f tg d mst ow ix bb cpy gb hm ho hi hc th n mo om al bs) (m : Nat) : modG kc L f tg d mst ow ix bb cpy gb hm ho hi hc th n mo (appN om al m) al bs := by
  obtain ⟨⟨a1, a2, a3⟩, ⟨b1, b2, b3⟩, ⟨c1, c2, c3⟩, ⟨d1, d2, d3⟩, ⟨e1, e2, e3⟩, ⟨g1, g2, g3⟩, k1, k2, k3⟩ := id h
  have e : ∀ k, k < al → appN om al m k = om k := fun k hk => by unfold appN; rw [if_pos hk]
  have ec : ∀ k, k ≤ al → ∀ q, cnt (appN om al m) k q = cnt om k q := fun k hk q => cnt_congr q k (fun z hz => e z (by omega))
  refine (mod_upd (f' := f) h a3 b3 c3 d3 g3 (fun _ _ _ _ _ _ _ => rfl) k1 (fun k hk => by rw [e k hk, ec k (by omega)]; exact k2 k hk) (fun R hR j hj => ?_)).1
  unfold md
  by_cases q : R / 64 < al
  · rw [if_pos q, if_pos q, e _ q, ec _ (by omega)]
  · rw [if_neg q, if_neg q]
theorem u64_neg {x : Int32} (h : x < 0) : x.toInt64 + 4294967296 = lN (uI x) := by
  have hx : x.toInt < (0 : Int32).toInt := Int32.lt_iff_toInt_lt.mp h
  have h0 : (0 : Int32).toInt = 0 := by decide
  apply Int64.toBitVec_inj.1
  apply BitVec.eq_of_toInt_eq
  rw [Int64.toBitVec_add, BitVec.toInt_add]
  show (x.toInt64.toInt + (4294967296 : Int)).bmod (2 ^ 64) = (lN (uI x)).toInt
  rw [Int32.toInt_toInt64, pk_lT (Nat.lt_trans (uI_lt x) (by decide))]
  have h1 : x.toInt = (uI x : Int) - 4294967296 := by
    have h2 : x.toInt = x.toBitVec.toInt := rfl
    rw [h2, BitVec.toInt_eq_toNat_cond] at hx
    rw [h2, BitVec.toInt_eq_toNat_cond]
    by_cases q : 2 * x.toBitVec.toNat < 2 ^ 32
    · rw [if_pos q] at hx; omega
    · rw [if_neg q]; rfl
  have hu := uI_lt x
  rw [h1, show ((uI x : Int) - 4294967296 + 4294967296) = (uI x : Int) by omega]
  exact Int.bmod_eq_of_le (by omega) (by omega)
theorem u64_pos {x : Int32} (h : ¬ x < 0) : x.toInt64 = lN (uI x) := by
  obtain ⟨j, hj, rfl⟩ := nI_of h
  rw [nI_l hj, uI_nI (by omega)]
set_option maxHeartbeats 4000000 in
set_option maxRecDepth 100000 in
theorem lp_make {p : Program} {l : Launch} {e : Env} {R : Room} {s : State} {m : MethodId} {args : Array Value} {below : List Frame} {meth : Method} {c : Code} {Q : State → Prop} {A : Nat → Prop} {D : va_G} {kc : Nat → ClassId} {c0 : Cond} {ret : Option FieldType} {L : List Nat} {f : Nat → va_E} {d mst ow ix bb cpy : Nat} {gb : Nat → Option Nat} {hm9 hc9 : Nat → Int32} {tg : Nat → Nat × Nat} {th : Int32} {nm : Nat} {mo : Nat → Int32} {om : Nat → Nat} {al : Nat} {bs : Nat → Nat → Nat} {cells slots : Nat} (hcs : cells ≤ R.cells ∧ slots ≤ R.slots) (lz : Nat) (most : Int32) (hz0 : cnt om al nm = 0) (hbz : ∀ j, bs nm j = 0) (hlz : al + lz ≤ 16) (hC : Kx p m c b_D_make 5 s args c0 R_D meth ret D kc A) (hRf : 1 ≤ R.frames) (hRl : 22 ≤ R.locals)
    (kont : ∀ (f' : Nat → va_E) (ho' hi' : Nat → Int32) (H : Heap) (locs : List Loc) (ls : Array Slot), modG kc L f' tg d mst ow ix bb cpy gb hm9 ho' hi' hc9 th nm mo (appN om al nm) (al + lz) bs → Ext SD L f tg (L, f') tg → pw D Cls A s.heap H locs L f' → lv_has ls 5 [(0, .ref d), (2, .int most)] → W p l e R s m args below meth c H locs cells slots Q (F0 m 107 ls [])) :
    ∀ (n : Nat) (i : Nat) (f' : Nat → va_E) (ho' hi' : Nat → Int32) (H : Heap) (locs : List Loc) (ls : Array Slot), i ≤ lz → lz + 1 ≤ i + n → modG kc L f' tg d mst ow ix bb cpy gb hm9 ho' hi' hc9 th nm mo (appN om al nm) (al + i) bs → Ext SD L f tg (L, f') tg → pw D Cls A s.heap H locs L f' → lv_has ls 5 [(4, .int (nI i)), (0, .ref d), (1, .int (nI lz)), (2, .int most)] → W p l e R s m args below meth c H locs cells slots Q (F0 m 85 ls []) := by
  obtain ⟨⟨⟨hx, hb, hml, hown, hts⟩, hret9, hlocks⟩, hK, hE, hA⟩ := id hC
  intro n
  induction n with
  | zero => intro i f' ho' hi' H locs ls hi hin hm he hw hl; exact absurd hin (by omega)
  | succ n ih =>
    intro i f' ho' hi' H locs ls hi hin hm he hw hl
    obtain ⟨⟨hdL, htd, hfd⟩, -⟩ := id hm
    refine lv_iload hx hb d_D_make_85 (lv_at hl 0 rfl) ?_
    refine lv_iload_n hx hb d_D_make_87 rfl (lv_at hl 2 rfl) ?_
    refine lv_icmp_ge (tgt := 107) hx hb d_D_make_88 (by decide) (fun c1 => ?_) (fun c1 => ?_)
    · have e : i = lz := by
        rcases Nat.lt_or_ge i lz with q | q
        · exact absurd c1 (nI_ge q (by omega))
        · omega
      subst e
      exact kont f' ho' hi' H locs ls hm he hw (lv_sub hl [1, 3] rfl)
    · have hlt : i < lz := by
        rcases Nat.lt_or_ge i lz with q | q
        · exact q
        · exact absurd (nI_le q (by omega)) c1
      have hci : cnt (appN om al nm) (al + i) nm = i := by rw [cnt_app, if_pos rfl, hz0]; omega
      refine lv_aload_n hx hb d_D_make_91 rfl (lv_at hl 1 rfl) ?_
      refine lv_aload_n hx hb d_D_make_92 rfl (lv_at hl 1 rfl) ?_
      refine get_D hC hw hdL hfd 1 (by decide) k_fl_D_32 rfl d_D_make_93 ?_
      refine lv_iload hx hb d_D_make_96 (lv_at hl 0 rfl) ?_
      refine tp_i (v := nI (cnt (appN om al nm) (al + i) nm)) (by rw [hci]) ?_
      refine callVv (As := [.int (nI nm), .int (nI (cnt (appN om al nm) (al + i) nm))]) (n9 := 2) hC hw (c_D_add l D kc _ _ _ d mst ow ix bb cpy gb hm9 ho' hi' hc9 tg th nm mo (appN om al nm) (al + i) bs hm nm (by omega) (fun j _ => hbz j)) k_co_D_add k_ml_D_47 k_im_D_add k_se_D_add k_in_D rfl rfl (by decide +kernel) rfl ⟨Nat.le_trans (Nat.le_of_ble_eq_true rfl) hRf, Nat.le_trans (Nat.le_of_ble_eq_true rfl) hRl⟩ hdL hfd rfl hl.1 rfl (Nat.le_of_ble_eq_true rfl) d_D_make_98 ⟨hcs.1, hcs.2⟩ (fun u H locs hp hw => ?_)
      obtain ⟨ho2, hi2, hu2, hm2, he2⟩ := hp
      obtain ⟨f2, rfl⟩ := hu2
      dsimp only at hw hm2 he2
      rw [appN_app, Nat.add_assoc] at hm2
      refine lv_iinc (v := nI (i + 1)) (lv' := [(4, .int (nI (i + 1))), (0, .ref d), (1, .int (nI lz)), (2, .int most)]) hx hb d_D_make_101 hl (k := 0) rfl (nI_1 i) (by decide) rfl (fun ls hl => ?_)
      refine lv_goto (tgt := 85) hx hb d_D_make_104 (by decide) ?_
      exact ih (i + 1) f2 ho2 hi2 _ _ _ (by omega) (by omega) hm2 (he.tr he2) hw (lv_sub hl [0, 1, 2, 3] rfl)
set_option maxHeartbeats 4000000 in
set_option maxRecDepth 100000 in
theorem c_D_make (l : Launch) (D : va_G) (kc : Nat → ClassId) (L : List Nat) (f : Nat → va_E) (sz : Nat) (d mst ow ix bb cpy : Nat) (gb : Nat → Option Nat) (hm9 ho9 hi9 hc9 : Nat → Int32) (tg : Nat → Nat × Nat) (th : Int32) (nm : Nat) (mo : Nat → Int32) (om : Nat → Nat) (al : Nat) (bs : Nat → Nat → Nat) (hg : modG kc L f tg d mst ow ix bb cpy gb hm9 ho9 hi9 hc9 th nm mo om al bs) (hs : stOK nm mo om al bs) (least most : Int32) : Met l y_D_make w_D_make ({ frames := 1, cells := 0, slots := 0, locals := 22 }) (PP D kc L f sz [.ref d, .int least, .int most]) (Qi D L f sz (fun r u => ∃ t9 tg', Ext SD L f tg u tg' ∧ ((t9 = 1 ∧ ¬ okM least most ∧ modP kc u.1 u.2 tg' d t9 nm mo om al bs) ∨ (t9 = 2 ∧ okM least most ∧ nm = 24 ∧ modP kc u.1 u.2 tg' d t9 nm mo om al bs) ∨ (t9 = 3 ∧ okM least most ∧ nm < 24 ∧ ¬ (al + uI least ≤ 16) ∧ modP kc u.1 u.2 tg' d t9 nm mo om al bs) ∨ (t9 = 0 ∧ okM least most ∧ nm < 24 ∧ al + uI least ≤ 16 ∧ r = nI nm ∧ modP kc u.1 u.2 tg' d t9 (nm + 1) (va_up mo nm most) (appN om al nm) (al + uI least) bs)))) 0 0 (pA L f sz) := by
  refine kx_met (by decide) (Nat.le_of_ble_eq_true rfl) ?_
  intro p e s m below meth c hC hnm hw hsz ls hl
  subst hsz
  have hl : lv_has ls 5 [(0, .ref d), (1, .int least), (2, .int most)] := hl
  obtain ⟨⟨⟨hx, hb, hml, hown, hts⟩, hret9, hlocks⟩, hK, hE, hA⟩ := id hC
  obtain ⟨⟨hdL, htd, hfd⟩, ⟨hmL, htm, hfm⟩, ⟨hoL, hto, hfo⟩, ⟨hiL, hti, hfi⟩, ⟨hbL, htb, hfb⟩, ⟨hcL, htc, hfc⟩, hk1, hk2, hk3⟩ := id hg
  obtain ⟨hs1, hs2, hs3, hs4, hs5, hs6⟩ := id hs
  refine lv_iload_n hx hb d_D_make_0 rfl (lv_at hl 1 rfl) ?_
  refine lv_if_lt (tgt := 30) hx hb d_D_make_1 (by decide) (fun c1 => ?_) (fun c1 => ?_)
  · refine lv_iconst (v := 0) hx hb d_D_make_30 (by decide) ?_
    refine lv_istore_n (lv' := [(3, .int 0), (0, .ref d), (1, .int least), (2, .int most)]) hx hb d_D_make_31 rfl hl (by decide) rfl (fun ls hl => ?_)
    refine lv_aload_n hx hb d_D_make_32 rfl (lv_at hl 1 rfl) ?_
    refine lv_iload_n hx hb d_D_make_33 rfl (lv_at hl 0 rfl) ?_
    refine lv_if_ne (tgt := 41) hx hb d_D_make_34 (by decide) (fun c9 => (c9 rfl).elim) (fun c9 => ?_)
    refine lv_iconst (v := 1) hx hb d_D_make_37 (by decide) ?_
    refine lv_goto (tgt := 70) hx hb d_D_make_38 (by decide) ?_
    refine put_D hC hw hdL hfd 0 (by decide) k_fl_D_28 rfl rfl rfl (Nat.le_of_ble_eq_true rfl) d_D_make_70 (fun H locs hw => ?_)
    obtain ⟨f1, hf1⟩ : ∃ F, F = va_up f d (.inr (3, [.int 1, .int (nI nm), .ref mst, .int (nI al), .ref ow, .ref ix, .ref bb, .ref cpy])) := ⟨_, rfl⟩
    have hw := pw_as (f' := f1) hw rfl hf1.symm
    obtain ⟨hg1, he1⟩ := mod_th hg 1
    rw [← hf1] at hg1 he1
    obtain ⟨⟨hdL1, htd1, hfd1⟩, ⟨hmL1, htm1, hfm1⟩, ⟨hoL1, hto1, hfo1⟩, ⟨hiL1, hti1, hfi1⟩, ⟨hbL1, htb1, hfb1⟩, ⟨hcL1, htc1, hfc1⟩, hk11, hk21, hk31⟩ := id hg1
    refine lv_aload_n hx hb d_D_make_73 rfl (lv_at hl 1 rfl) ?_
    refine get_D hC hw hdL1 hfd1 0 (by decide) k_fl_D_28 rfl d_D_make_74 ?_
    refine lv_if_le (tgt := 82) hx hb d_D_make_77 (by decide) (fun c8 => ((by decide : ¬ (1 : Int32) ≤ 0) c8).elim) (fun c8 => ?_)
    refine lv_iconst (v := 0) hx hb d_D_make_80 (by decide) ?_
    exact pg_iret hC.1 hw (⟨1, tg, he1, Or.inl ⟨rfl, fun h => h.1.1 c1, ⟨mst, ow, ix, bb, cpy, gb, hm9, ho9, hi9, hc9, hg1⟩⟩⟩) d_D_make_81
  · refine lv_iload_n hx hb d_D_make_4 rfl (lv_at hl 1 rfl) ?_
    refine lv_ldc (v := 65536) hx hb hown (hts _ (gg_mem k_cn_D_46)) d_D_make_5 ?_
    refine lv_icmp_gt (tgt := 30) hx hb d_D_make_7 (by decide) (fun c2 => ?_) (fun c2 => ?_)
    · refine lv_iconst (v := 0) hx hb d_D_make_30 (by decide) ?_
      refine lv_istore_n (lv' := [(3, .int 0), (0, .ref d), (1, .int least), (2, .int most)]) hx hb d_D_make_31 rfl hl (by decide) rfl (fun ls hl => ?_)
      refine lv_aload_n hx hb d_D_make_32 rfl (lv_at hl 1 rfl) ?_
      refine lv_iload_n hx hb d_D_make_33 rfl (lv_at hl 0 rfl) ?_
      refine lv_if_ne (tgt := 41) hx hb d_D_make_34 (by decide) (fun c9 => (c9 rfl).elim) (fun c9 => ?_)
      refine lv_iconst (v := 1) hx hb d_D_make_37 (by decide) ?_
      refine lv_goto (tgt := 70) hx hb d_D_make_38 (by decide) ?_
      refine put_D hC hw hdL hfd 0 (by decide) k_fl_D_28 rfl rfl rfl (Nat.le_of_ble_eq_true rfl) d_D_make_70 (fun H locs hw => ?_)
      obtain ⟨f1, hf1⟩ : ∃ F, F = va_up f d (.inr (3, [.int 1, .int (nI nm), .ref mst, .int (nI al), .ref ow, .ref ix, .ref bb, .ref cpy])) := ⟨_, rfl⟩
      have hw := pw_as (f' := f1) hw rfl hf1.symm
      obtain ⟨hg1, he1⟩ := mod_th hg 1
      rw [← hf1] at hg1 he1
      obtain ⟨⟨hdL1, htd1, hfd1⟩, ⟨hmL1, htm1, hfm1⟩, ⟨hoL1, hto1, hfo1⟩, ⟨hiL1, hti1, hfi1⟩, ⟨hbL1, htb1, hfb1⟩, ⟨hcL1, htc1, hfc1⟩, hk11, hk21, hk31⟩ := id hg1
      refine lv_aload_n hx hb d_D_make_73 rfl (lv_at hl 1 rfl) ?_
      refine get_D hC hw hdL1 hfd1 0 (by decide) k_fl_D_28 rfl d_D_make_74 ?_
      refine lv_if_le (tgt := 82) hx hb d_D_make_77 (by decide) (fun c8 => ((by decide : ¬ (1 : Int32) ≤ 0) c8).elim) (fun c8 => ?_)
      refine lv_iconst (v := 0) hx hb d_D_make_80 (by decide) ?_
      exact pg_iret hC.1 hw (⟨1, tg, he1, Or.inl ⟨rfl, fun h => Int32.not_lt.mpr h.1.2 c2, ⟨mst, ow, ix, bb, cpy, gb, hm9, ho9, hi9, hc9, hg1⟩⟩⟩) d_D_make_81
    · refine lv_iload_n hx hb d_D_make_10 rfl (lv_at hl 2 rfl) ?_
      refine lv_iconst (v := (-1)) hx hb d_D_make_11 (by decide) ?_
      refine lv_icmp_eq (tgt := 26) hx hb d_D_make_12 (by decide) (fun c3 => ?_) (fun c3 => ?_)
      · have hok : okM least most := ⟨⟨c1, Int32.not_lt.mp c2⟩, Or.inl c3⟩
        obtain ⟨lz, hlz, rfl⟩ : ∃ j, j ≤ 65536 ∧ least = nI j := nI_of2 (M := 65536) (n := 65536) (by decide) c1 (Int32.not_lt.mp c2)
        refine lv_iconst (v := 1) hx hb d_D_make_26 (by decide) ?_
        refine lv_goto (tgt := 31) hx hb d_D_make_27 (by decide) ?_
        refine lv_istore_n (lv' := [(3, .int 1), (0, .ref d), (1, .int (nI lz)), (2, .int most)]) hx hb d_D_make_31 rfl hl (by decide) rfl (fun ls hl => ?_)
        refine lv_aload_n hx hb d_D_make_32 rfl (lv_at hl 1 rfl) ?_
        refine lv_iload_n hx hb d_D_make_33 rfl (lv_at hl 0 rfl) ?_
        refine lv_if_ne (tgt := 41) hx hb d_D_make_34 (by decide) (fun c9 => ?_) (fun c9 => ((by decide : ¬ (1 : Int32) = 0) c9).elim)
        refine lv_aload_n hx hb d_D_make_41 rfl (lv_at hl 1 rfl) ?_
        refine get_D hC hw hdL hfd 1 (by decide) k_fl_D_32 rfl d_D_make_42 ?_
        refine lv_bipush (v := 24) hx hb d_D_make_45 (by decide) ?_
        refine lv_icmp_ne (tgt := 54) hx hb d_D_make_47 (by decide) (fun c6 => ?_) (fun c6 => ?_)
        · have hnm : nm < 24 := by
            rcases Nat.lt_or_ge nm 24 with z | z
            · exact z
            · exact absurd (by rw [show nm = 24 by omega]; rfl) c6
          refine lv_aload_n hx hb d_D_make_54 rfl (lv_at hl 1 rfl) ?_
          refine get_D hC hw hdL hfd 3 (by decide) k_fl_D_35 rfl d_D_make_55 ?_
          refine lv_iload_n hx hb d_D_make_58 rfl (lv_at hl 2 rfl) ?_
          refine lv_iadd hx hb d_D_make_59 ?_
          refine tp_i (v := nI (al + lz)) (nI_add _ _) ?_
          refine lv_bipush (v := 16) hx hb d_D_make_60 (by decide) ?_
          refine lv_icmp_le (tgt := 69) hx hb d_D_make_62 (by decide) (fun c7 => ?_) (fun c7 => ?_)
          · have hsm : al + lz ≤ 16 := (nI_leI (b := 16) (by omega) (by decide)).mp c7
            have hz0 : cnt om al nm = 0 := cnt_zero al (fun j hj => Nat.ne_of_lt (hs3 j hj))
            refine lv_iconst (v := 0) hx hb d_D_make_69 (by decide) ?_
            refine put_D hC hw hdL hfd 0 (by decide) k_fl_D_28 rfl rfl rfl (Nat.le_of_ble_eq_true rfl) d_D_make_70 (fun H locs hw => ?_)
            obtain ⟨f1, hf1⟩ : ∃ F, F = va_up f d (.inr (3, [.int 0, .int (nI nm), .ref mst, .int (nI al), .ref ow, .ref ix, .ref bb, .ref cpy])) := ⟨_, rfl⟩
            have hw := pw_as (f' := f1) hw rfl hf1.symm
            obtain ⟨hg1, he1⟩ := mod_th hg 0
            rw [← hf1] at hg1 he1
            obtain ⟨⟨hdL1, htd1, hfd1⟩, ⟨hmL1, htm1, hfm1⟩, ⟨hoL1, hto1, hfo1⟩, ⟨hiL1, hti1, hfi1⟩, ⟨hbL1, htb1, hfb1⟩, ⟨hcL1, htc1, hfc1⟩, hk11, hk21, hk31⟩ := id hg1
            refine lv_aload_n hx hb d_D_make_73 rfl (lv_at hl 1 rfl) ?_
            refine get_D hC hw hdL1 hfd1 0 (by decide) k_fl_D_28 rfl d_D_make_74 ?_
            refine lv_if_le (tgt := 82) hx hb d_D_make_77 (by decide) (fun c8 => ?_) (fun c8 => (c8 (by decide)).elim)
            refine lv_iconst (v := 0) hx hb d_D_make_82 (by decide) ?_
            refine lv_istore (lv' := [(4, .int 0), (3, .int 1), (0, .ref d), (1, .int (nI lz)), (2, .int most)]) hx hb d_D_make_83 hl (by decide) rfl (fun ls hl => ?_)
            refine lp_make ⟨Nat.zero_le _, Nat.zero_le _⟩ lz most hz0 (fun j => hs5 nm j (by rw [hz0]; omega)) hsm hC (Nat.le_of_ble_eq_true rfl) (Nat.le_of_ble_eq_true rfl) (fun f2 ho2 hi2 H locs ls hg2 he2 hw hl => ?_) (lz + 1) 0 f1 ho9 hi9 _ _ _ (Nat.zero_le _) (by omega) (mod_om hg1 nm) Ext.rf hw (lv_sub hl [0, 2, 3, 4] rfl)
            obtain ⟨⟨hdL2, htd2, hfd2⟩, ⟨hmL2, htm2, hfm2⟩, ⟨hoL2, hto2, hfo2⟩, ⟨hiL2, hti2, hfi2⟩, ⟨hbL2, htb2, hfb2⟩, ⟨hcL2, htc2, hfc2⟩, hk12, hk22, hk32⟩ := id hg2
            refine lv_aload_n hx hb d_D_make_107 rfl (lv_at hl 0 rfl) ?_
            refine get_D hC hw hdL2 hfd2 2 (by decide) k_fl_D_9 rfl d_D_make_108 ?_
            refine lv_aload_n hx hb d_D_make_111 rfl (lv_at hl 0 rfl) ?_
            refine get_D hC hw hdL2 hfd2 1 (by decide) k_fl_D_32 rfl d_D_make_112 ?_
            refine lv_iload_n hx hb d_D_make_115 rfl (lv_at hl 1 rfl) ?_
            refine ast_I hC hw hmL2 hfm2 hnm (by decide) d_D_make_116 (fun H locs hw => ?_)
            have n1 : d ≠ mst := fun e => by rw [e, htm2] at htd2; cases htd2
            obtain ⟨f3, hf3⟩ : ∃ F, F = va_up f2 mst (.inl (kc 3, 24, .inl (upd hm9 nm most))) := ⟨_, rfl⟩
            have hw := pw_as (f' := f3) hw rfl hf3.symm
            have k3 : ∀ a, a ≠ mst → f3 a = f2 a := fun a h => by rw [hf3, va_up_ne _ _ h]
            refine lv_aload_n hx hb d_D_make_117 rfl (lv_at hl 0 rfl) ?_
            refine lv_dup hx hb d_D_make_118 rfl ?_
            refine get_D hC hw hdL2 ((k3 d n1).trans hfd2) 1 (by decide) k_fl_D_32 rfl d_D_make_119 ?_
            refine lv_iconst (v := 1) hx hb d_D_make_122 (by decide) ?_
            refine lv_iadd hx hb d_D_make_123 ?_
            refine tp_i (v := nI (nm + 1)) (nI_1 nm) ?_
            refine put_D hC hw hdL2 ((k3 d n1).trans hfd2) 1 (by decide) k_fl_D_32 rfl rfl rfl (Nat.le_of_ble_eq_true rfl) d_D_make_124 (fun H locs hw => ?_)
            obtain ⟨f4, hf4⟩ : ∃ F, F = va_up f3 d (.inr (3, [.int 0, .int (nI (nm + 1)), .ref mst, .int (nI (al + lz)), .ref ow, .ref ix, .ref bb, .ref cpy])) := ⟨_, rfl⟩
            have hw := pw_as (f' := f4) hw rfl hf4.symm
            have k4 : ∀ a, a ≠ d → f4 a = f3 a := fun a h => by rw [hf4, va_up_ne _ _ h]
            have d4 : f4 d = .inr (3, [.int 0, .int (nI (nm + 1)), .ref mst, .int (nI (al + lz)), .ref ow, .ref ix, .ref bb, .ref cpy]) := by rw [hf4]; exact va_up_self _ _ _
            have ao : ow ≠ d := fun e => by rw [e, htd2] at hto2; cases hto2
            have bo : ow ≠ mst := fun e => by rw [e, htm2] at hto2; cases hto2
            have ai : ix ≠ d := fun e => by rw [e, htd2] at hti2; cases hti2
            have bi : ix ≠ mst := fun e => by rw [e, htm2] at hti2; cases hti2
            have ac : cpy ≠ d := fun e => by rw [e, htd2] at htc2; cases htc2
            have bc : cpy ≠ mst := fun e => by rw [e, htm2] at htc2; cases htc2
            obtain ⟨hg4, he4⟩ := mod_upd (f' := f4) (hm' := upd hm9 nm most) (ho' := ho2) (hi' := hi2) (hc' := hc9) (th' := 0) (n' := nm + 1) (mo' := va_up mo nm most) (om' := appN om al nm) (al' := al + lz) (bs' := bs) hg2 d4 (by rw [k4 _ (Ne.symm n1), hf3, va_up_self]) (by rw [k4 _ ao, k3 _ bo]; exact hfo2) (by rw [k4 _ ai, k3 _ bi]; exact hfi2) (by rw [k4 _ ac, k3 _ bc]; exact hfc2) (fun a _ h0 h1 _ _ _ => by rw [k4 _ h0, k3 _ h1]) (by
              intro k hk
              by_cases q : k = nm
              · rw [q, pk_us, va_up_self]
              · rw [pk_un q, va_up_ne _ _ q]; exact hk12 k (by omega)) hk22 (fun _ _ _ _ => rfl)
            refine lv_aload_n hx hb d_D_make_127 rfl (lv_at hl 0 rfl) ?_
            refine get_D hC hw hdL2 d4 1 (by decide) k_fl_D_32 rfl d_D_make_128 ?_
            refine lv_iconst (v := 1) hx hb d_D_make_131 (by decide) ?_
            refine lv_isub hx hb d_D_make_132 ?_
            refine tp_i (v := nI nm) (pk_sub (a := nm + 1) (b := 1) (by omega)) ?_
            exact pg_iret hC.1 hw (⟨0, tg, (he1.tr he2).tr he4, Or.inr (Or.inr (Or.inr ⟨rfl, hok, hnm, by rw [uI_nI (by omega)]; exact hsm, rfl, by rw [uI_nI (by omega)]; exact ⟨mst, ow, ix, bb, cpy, gb, _, ho2, hi2, hc9, hg4⟩⟩))⟩) d_D_make_133
          · have hbig : ¬ (al + lz ≤ 16) := fun q => c7 (nI_le (b := 16) q (by decide))
            refine lv_iconst (v := 3) hx hb d_D_make_65 (by decide) ?_
            refine lv_goto (tgt := 70) hx hb d_D_make_66 (by decide) ?_
            refine put_D hC hw hdL hfd 0 (by decide) k_fl_D_28 rfl rfl rfl (Nat.le_of_ble_eq_true rfl) d_D_make_70 (fun H locs hw => ?_)
            obtain ⟨f1, hf1⟩ : ∃ F, F = va_up f d (.inr (3, [.int 3, .int (nI nm), .ref mst, .int (nI al), .ref ow, .ref ix, .ref bb, .ref cpy])) := ⟨_, rfl⟩
            have hw := pw_as (f' := f1) hw rfl hf1.symm
            obtain ⟨hg1, he1⟩ := mod_th hg 3
            rw [← hf1] at hg1 he1
            obtain ⟨⟨hdL1, htd1, hfd1⟩, ⟨hmL1, htm1, hfm1⟩, ⟨hoL1, hto1, hfo1⟩, ⟨hiL1, hti1, hfi1⟩, ⟨hbL1, htb1, hfb1⟩, ⟨hcL1, htc1, hfc1⟩, hk11, hk21, hk31⟩ := id hg1
            refine lv_aload_n hx hb d_D_make_73 rfl (lv_at hl 1 rfl) ?_
            refine get_D hC hw hdL1 hfd1 0 (by decide) k_fl_D_28 rfl d_D_make_74 ?_
            refine lv_if_le (tgt := 82) hx hb d_D_make_77 (by decide) (fun c8 => ((by decide : ¬ (3 : Int32) ≤ 0) c8).elim) (fun c8 => ?_)
            refine lv_iconst (v := 0) hx hb d_D_make_80 (by decide) ?_
            exact pg_iret hC.1 hw (⟨3, tg, he1, Or.inr (Or.inr (Or.inl ⟨rfl, hok, hnm, by rw [uI_nI (by omega)]; exact hbig, ⟨mst, ow, ix, bb, cpy, gb, hm9, ho9, hi9, hc9, hg1⟩⟩))⟩) d_D_make_81
        · refine lv_iconst (v := 2) hx hb d_D_make_50 (by decide) ?_
          refine lv_goto (tgt := 70) hx hb d_D_make_51 (by decide) ?_
          refine put_D hC hw hdL hfd 0 (by decide) k_fl_D_28 rfl rfl rfl (Nat.le_of_ble_eq_true rfl) d_D_make_70 (fun H locs hw => ?_)
          obtain ⟨f1, hf1⟩ : ∃ F, F = va_up f d (.inr (3, [.int 2, .int (nI nm), .ref mst, .int (nI al), .ref ow, .ref ix, .ref bb, .ref cpy])) := ⟨_, rfl⟩
          have hw := pw_as (f' := f1) hw rfl hf1.symm
          obtain ⟨hg1, he1⟩ := mod_th hg 2
          rw [← hf1] at hg1 he1
          obtain ⟨⟨hdL1, htd1, hfd1⟩, ⟨hmL1, htm1, hfm1⟩, ⟨hoL1, hto1, hfo1⟩, ⟨hiL1, hti1, hfi1⟩, ⟨hbL1, htb1, hfb1⟩, ⟨hcL1, htc1, hfc1⟩, hk11, hk21, hk31⟩ := id hg1
          refine lv_aload_n hx hb d_D_make_73 rfl (lv_at hl 1 rfl) ?_
          refine get_D hC hw hdL1 hfd1 0 (by decide) k_fl_D_28 rfl d_D_make_74 ?_
          refine lv_if_le (tgt := 82) hx hb d_D_make_77 (by decide) (fun c8 => ((by decide : ¬ (2 : Int32) ≤ 0) c8).elim) (fun c8 => ?_)
          refine lv_iconst (v := 0) hx hb d_D_make_80 (by decide) ?_
          exact pg_iret hC.1 hw (⟨2, tg, he1, Or.inr (Or.inl ⟨rfl, hok, nI_inj (by omega) (by decide) c6, ⟨mst, ow, ix, bb, cpy, gb, hm9, ho9, hi9, hc9, hg1⟩⟩)⟩) d_D_make_81
      · refine lv_iload_n hx hb d_D_make_15 rfl (lv_at hl 2 rfl) ?_
        refine lv_iload_n hx hb d_D_make_16 rfl (lv_at hl 1 rfl) ?_
        refine lv_icmp_lt (tgt := 30) hx hb d_D_make_17 (by decide) (fun c4 => ?_) (fun c4 => ?_)
        · refine lv_iconst (v := 0) hx hb d_D_make_30 (by decide) ?_
          refine lv_istore_n (lv' := [(3, .int 0), (0, .ref d), (1, .int least), (2, .int most)]) hx hb d_D_make_31 rfl hl (by decide) rfl (fun ls hl => ?_)
          refine lv_aload_n hx hb d_D_make_32 rfl (lv_at hl 1 rfl) ?_
          refine lv_iload_n hx hb d_D_make_33 rfl (lv_at hl 0 rfl) ?_
          refine lv_if_ne (tgt := 41) hx hb d_D_make_34 (by decide) (fun c9 => (c9 rfl).elim) (fun c9 => ?_)
          refine lv_iconst (v := 1) hx hb d_D_make_37 (by decide) ?_
          refine lv_goto (tgt := 70) hx hb d_D_make_38 (by decide) ?_
          refine put_D hC hw hdL hfd 0 (by decide) k_fl_D_28 rfl rfl rfl (Nat.le_of_ble_eq_true rfl) d_D_make_70 (fun H locs hw => ?_)
          obtain ⟨f1, hf1⟩ : ∃ F, F = va_up f d (.inr (3, [.int 1, .int (nI nm), .ref mst, .int (nI al), .ref ow, .ref ix, .ref bb, .ref cpy])) := ⟨_, rfl⟩
          have hw := pw_as (f' := f1) hw rfl hf1.symm
          obtain ⟨hg1, he1⟩ := mod_th hg 1
          rw [← hf1] at hg1 he1
          obtain ⟨⟨hdL1, htd1, hfd1⟩, ⟨hmL1, htm1, hfm1⟩, ⟨hoL1, hto1, hfo1⟩, ⟨hiL1, hti1, hfi1⟩, ⟨hbL1, htb1, hfb1⟩, ⟨hcL1, htc1, hfc1⟩, hk11, hk21, hk31⟩ := id hg1
          refine lv_aload_n hx hb d_D_make_73 rfl (lv_at hl 1 rfl) ?_
          refine get_D hC hw hdL1 hfd1 0 (by decide) k_fl_D_28 rfl d_D_make_74 ?_
          refine lv_if_le (tgt := 82) hx hb d_D_make_77 (by decide) (fun c8 => ((by decide : ¬ (1 : Int32) ≤ 0) c8).elim) (fun c8 => ?_)
          refine lv_iconst (v := 0) hx hb d_D_make_80 (by decide) ?_
          exact pg_iret hC.1 hw (⟨1, tg, he1, Or.inl ⟨rfl, fun h => h.2.elim c3 (fun q => q.1 c4), ⟨mst, ow, ix, bb, cpy, gb, hm9, ho9, hi9, hc9, hg1⟩⟩⟩) d_D_make_81
        · refine lv_iload_n hx hb d_D_make_20 rfl (lv_at hl 2 rfl) ?_
          refine lv_ldc (v := 65536) hx hb hown (hts _ (gg_mem k_cn_D_46)) d_D_make_21 ?_
          refine lv_icmp_gt (tgt := 30) hx hb d_D_make_23 (by decide) (fun c5 => ?_) (fun c5 => ?_)
          · refine lv_iconst (v := 0) hx hb d_D_make_30 (by decide) ?_
            refine lv_istore_n (lv' := [(3, .int 0), (0, .ref d), (1, .int least), (2, .int most)]) hx hb d_D_make_31 rfl hl (by decide) rfl (fun ls hl => ?_)
            refine lv_aload_n hx hb d_D_make_32 rfl (lv_at hl 1 rfl) ?_
            refine lv_iload_n hx hb d_D_make_33 rfl (lv_at hl 0 rfl) ?_
            refine lv_if_ne (tgt := 41) hx hb d_D_make_34 (by decide) (fun c9 => (c9 rfl).elim) (fun c9 => ?_)
            refine lv_iconst (v := 1) hx hb d_D_make_37 (by decide) ?_
            refine lv_goto (tgt := 70) hx hb d_D_make_38 (by decide) ?_
            refine put_D hC hw hdL hfd 0 (by decide) k_fl_D_28 rfl rfl rfl (Nat.le_of_ble_eq_true rfl) d_D_make_70 (fun H locs hw => ?_)
            obtain ⟨f1, hf1⟩ : ∃ F, F = va_up f d (.inr (3, [.int 1, .int (nI nm), .ref mst, .int (nI al), .ref ow, .ref ix, .ref bb, .ref cpy])) := ⟨_, rfl⟩
            have hw := pw_as (f' := f1) hw rfl hf1.symm
            obtain ⟨hg1, he1⟩ := mod_th hg 1
            rw [← hf1] at hg1 he1
            obtain ⟨⟨hdL1, htd1, hfd1⟩, ⟨hmL1, htm1, hfm1⟩, ⟨hoL1, hto1, hfo1⟩, ⟨hiL1, hti1, hfi1⟩, ⟨hbL1, htb1, hfb1⟩, ⟨hcL1, htc1, hfc1⟩, hk11, hk21, hk31⟩ := id hg1
            refine lv_aload_n hx hb d_D_make_73 rfl (lv_at hl 1 rfl) ?_
            refine get_D hC hw hdL1 hfd1 0 (by decide) k_fl_D_28 rfl d_D_make_74 ?_
            refine lv_if_le (tgt := 82) hx hb d_D_make_77 (by decide) (fun c8 => ((by decide : ¬ (1 : Int32) ≤ 0) c8).elim) (fun c8 => ?_)
            refine lv_iconst (v := 0) hx hb d_D_make_80 (by decide) ?_
            exact pg_iret hC.1 hw (⟨1, tg, he1, Or.inl ⟨rfl, fun h => h.2.elim c3 (fun q => Int32.not_lt.mpr q.2 c5), ⟨mst, ow, ix, bb, cpy, gb, hm9, ho9, hi9, hc9, hg1⟩⟩⟩) d_D_make_81
          · have hok : okM least most := ⟨⟨c1, Int32.not_lt.mp c2⟩, Or.inr ⟨c4, Int32.not_lt.mp c5⟩⟩
            obtain ⟨lz, hlz, rfl⟩ : ∃ j, j ≤ 65536 ∧ least = nI j := nI_of2 (M := 65536) (n := 65536) (by decide) c1 (Int32.not_lt.mp c2)
            refine lv_iconst (v := 1) hx hb d_D_make_26 (by decide) ?_
            refine lv_goto (tgt := 31) hx hb d_D_make_27 (by decide) ?_
            refine lv_istore_n (lv' := [(3, .int 1), (0, .ref d), (1, .int (nI lz)), (2, .int most)]) hx hb d_D_make_31 rfl hl (by decide) rfl (fun ls hl => ?_)
            refine lv_aload_n hx hb d_D_make_32 rfl (lv_at hl 1 rfl) ?_
            refine lv_iload_n hx hb d_D_make_33 rfl (lv_at hl 0 rfl) ?_
            refine lv_if_ne (tgt := 41) hx hb d_D_make_34 (by decide) (fun c9 => ?_) (fun c9 => ((by decide : ¬ (1 : Int32) = 0) c9).elim)
            refine lv_aload_n hx hb d_D_make_41 rfl (lv_at hl 1 rfl) ?_
            refine get_D hC hw hdL hfd 1 (by decide) k_fl_D_32 rfl d_D_make_42 ?_
            refine lv_bipush (v := 24) hx hb d_D_make_45 (by decide) ?_
            refine lv_icmp_ne (tgt := 54) hx hb d_D_make_47 (by decide) (fun c6 => ?_) (fun c6 => ?_)
            · have hnm : nm < 24 := by
                rcases Nat.lt_or_ge nm 24 with z | z
                · exact z
                · exact absurd (by rw [show nm = 24 by omega]; rfl) c6
              refine lv_aload_n hx hb d_D_make_54 rfl (lv_at hl 1 rfl) ?_
              refine get_D hC hw hdL hfd 3 (by decide) k_fl_D_35 rfl d_D_make_55 ?_
              refine lv_iload_n hx hb d_D_make_58 rfl (lv_at hl 2 rfl) ?_
              refine lv_iadd hx hb d_D_make_59 ?_
              refine tp_i (v := nI (al + lz)) (nI_add _ _) ?_
              refine lv_bipush (v := 16) hx hb d_D_make_60 (by decide) ?_
              refine lv_icmp_le (tgt := 69) hx hb d_D_make_62 (by decide) (fun c7 => ?_) (fun c7 => ?_)
              · have hsm : al + lz ≤ 16 := (nI_leI (b := 16) (by omega) (by decide)).mp c7
                have hz0 : cnt om al nm = 0 := cnt_zero al (fun j hj => Nat.ne_of_lt (hs3 j hj))
                refine lv_iconst (v := 0) hx hb d_D_make_69 (by decide) ?_
                refine put_D hC hw hdL hfd 0 (by decide) k_fl_D_28 rfl rfl rfl (Nat.le_of_ble_eq_true rfl) d_D_make_70 (fun H locs hw => ?_)
                obtain ⟨f1, hf1⟩ : ∃ F, F = va_up f d (.inr (3, [.int 0, .int (nI nm), .ref mst, .int (nI al), .ref ow, .ref ix, .ref bb, .ref cpy])) := ⟨_, rfl⟩
                have hw := pw_as (f' := f1) hw rfl hf1.symm
                obtain ⟨hg1, he1⟩ := mod_th hg 0
                rw [← hf1] at hg1 he1
                obtain ⟨⟨hdL1, htd1, hfd1⟩, ⟨hmL1, htm1, hfm1⟩, ⟨hoL1, hto1, hfo1⟩, ⟨hiL1, hti1, hfi1⟩, ⟨hbL1, htb1, hfb1⟩, ⟨hcL1, htc1, hfc1⟩, hk11, hk21, hk31⟩ := id hg1
                refine lv_aload_n hx hb d_D_make_73 rfl (lv_at hl 1 rfl) ?_
                refine get_D hC hw hdL1 hfd1 0 (by decide) k_fl_D_28 rfl d_D_make_74 ?_
                refine lv_if_le (tgt := 82) hx hb d_D_make_77 (by decide) (fun c8 => ?_) (fun c8 => (c8 (by decide)).elim)
                refine lv_iconst (v := 0) hx hb d_D_make_82 (by decide) ?_
                refine lv_istore (lv' := [(4, .int 0), (3, .int 1), (0, .ref d), (1, .int (nI lz)), (2, .int most)]) hx hb d_D_make_83 hl (by decide) rfl (fun ls hl => ?_)
                refine lp_make ⟨Nat.zero_le _, Nat.zero_le _⟩ lz most hz0 (fun j => hs5 nm j (by rw [hz0]; omega)) hsm hC (Nat.le_of_ble_eq_true rfl) (Nat.le_of_ble_eq_true rfl) (fun f2 ho2 hi2 H locs ls hg2 he2 hw hl => ?_) (lz + 1) 0 f1 ho9 hi9 _ _ _ (Nat.zero_le _) (by omega) (mod_om hg1 nm) Ext.rf hw (lv_sub hl [0, 2, 3, 4] rfl)
                obtain ⟨⟨hdL2, htd2, hfd2⟩, ⟨hmL2, htm2, hfm2⟩, ⟨hoL2, hto2, hfo2⟩, ⟨hiL2, hti2, hfi2⟩, ⟨hbL2, htb2, hfb2⟩, ⟨hcL2, htc2, hfc2⟩, hk12, hk22, hk32⟩ := id hg2
                refine lv_aload_n hx hb d_D_make_107 rfl (lv_at hl 0 rfl) ?_
                refine get_D hC hw hdL2 hfd2 2 (by decide) k_fl_D_9 rfl d_D_make_108 ?_
                refine lv_aload_n hx hb d_D_make_111 rfl (lv_at hl 0 rfl) ?_
                refine get_D hC hw hdL2 hfd2 1 (by decide) k_fl_D_32 rfl d_D_make_112 ?_
                refine lv_iload_n hx hb d_D_make_115 rfl (lv_at hl 1 rfl) ?_
                refine ast_I hC hw hmL2 hfm2 hnm (by decide) d_D_make_116 (fun H locs hw => ?_)
                have n1 : d ≠ mst := fun e => by rw [e, htm2] at htd2; cases htd2
                obtain ⟨f3, hf3⟩ : ∃ F, F = va_up f2 mst (.inl (kc 3, 24, .inl (upd hm9 nm most))) := ⟨_, rfl⟩
                have hw := pw_as (f' := f3) hw rfl hf3.symm
                have k3 : ∀ a, a ≠ mst → f3 a = f2 a := fun a h => by rw [hf3, va_up_ne _ _ h]
                refine lv_aload_n hx hb d_D_make_117 rfl (lv_at hl 0 rfl) ?_
                refine lv_dup hx hb d_D_make_118 rfl ?_
                refine get_D hC hw hdL2 ((k3 d n1).trans hfd2) 1 (by decide) k_fl_D_32 rfl d_D_make_119 ?_
                refine lv_iconst (v := 1) hx hb d_D_make_122 (by decide) ?_
                refine lv_iadd hx hb d_D_make_123 ?_
                refine tp_i (v := nI (nm + 1)) (nI_1 nm) ?_
                refine put_D hC hw hdL2 ((k3 d n1).trans hfd2) 1 (by decide) k_fl_D_32 rfl rfl rfl (Nat.le_of_ble_eq_true rfl) d_D_make_124 (fun H locs hw => ?_)
                obtain ⟨f4, hf4⟩ : ∃ F, F = va_up f3 d (.inr (3, [.int 0, .int (nI (nm + 1)), .ref mst, .int (nI (al + lz)), .ref ow, .ref ix, .ref bb, .ref cpy])) := ⟨_, rfl⟩
                have hw := pw_as (f' := f4) hw rfl hf4.symm
                have k4 : ∀ a, a ≠ d → f4 a = f3 a := fun a h => by rw [hf4, va_up_ne _ _ h]
                have d4 : f4 d = .inr (3, [.int 0, .int (nI (nm + 1)), .ref mst, .int (nI (al + lz)), .ref ow, .ref ix, .ref bb, .ref cpy]) := by rw [hf4]; exact va_up_self _ _ _
                have ao : ow ≠ d := fun e => by rw [e, htd2] at hto2; cases hto2
                have bo : ow ≠ mst := fun e => by rw [e, htm2] at hto2; cases hto2
                have ai : ix ≠ d := fun e => by rw [e, htd2] at hti2; cases hti2
                have bi : ix ≠ mst := fun e => by rw [e, htm2] at hti2; cases hti2
                have ac : cpy ≠ d := fun e => by rw [e, htd2] at htc2; cases htc2
                have bc : cpy ≠ mst := fun e => by rw [e, htm2] at htc2; cases htc2
                obtain ⟨hg4, he4⟩ := mod_upd (f' := f4) (hm' := upd hm9 nm most) (ho' := ho2) (hi' := hi2) (hc' := hc9) (th' := 0) (n' := nm + 1) (mo' := va_up mo nm most) (om' := appN om al nm) (al' := al + lz) (bs' := bs) hg2 d4 (by rw [k4 _ (Ne.symm n1), hf3, va_up_self]) (by rw [k4 _ ao, k3 _ bo]; exact hfo2) (by rw [k4 _ ai, k3 _ bi]; exact hfi2) (by rw [k4 _ ac, k3 _ bc]; exact hfc2) (fun a _ h0 h1 _ _ _ => by rw [k4 _ h0, k3 _ h1]) (by
                  intro k hk
                  by_cases q : k = nm
                  · rw [q, pk_us, va_up_self]
                  · rw [pk_un q, va_up_ne _ _ q]; exact hk12 k (by omega)) hk22 (fun _ _ _ _ => rfl)
                refine lv_aload_n hx hb d_D_make_127 rfl (lv_at hl 0 rfl) ?_
                refine get_D hC hw hdL2 d4 1 (by decide) k_fl_D_32 rfl d_D_make_128 ?_
                refine lv_iconst (v := 1) hx hb d_D_make_131 (by decide) ?_
                refine lv_isub hx hb d_D_make_132 ?_
                refine tp_i (v := nI nm) (pk_sub (a := nm + 1) (b := 1) (by omega)) ?_
                exact pg_iret hC.1 hw (⟨0, tg, (he1.tr he2).tr he4, Or.inr (Or.inr (Or.inr ⟨rfl, hok, hnm, by rw [uI_nI (by omega)]; exact hsm, rfl, by rw [uI_nI (by omega)]; exact ⟨mst, ow, ix, bb, cpy, gb, _, ho2, hi2, hc9, hg4⟩⟩))⟩) d_D_make_133
              · have hbig : ¬ (al + lz ≤ 16) := fun q => c7 (nI_le (b := 16) q (by decide))
                refine lv_iconst (v := 3) hx hb d_D_make_65 (by decide) ?_
                refine lv_goto (tgt := 70) hx hb d_D_make_66 (by decide) ?_
                refine put_D hC hw hdL hfd 0 (by decide) k_fl_D_28 rfl rfl rfl (Nat.le_of_ble_eq_true rfl) d_D_make_70 (fun H locs hw => ?_)
                obtain ⟨f1, hf1⟩ : ∃ F, F = va_up f d (.inr (3, [.int 3, .int (nI nm), .ref mst, .int (nI al), .ref ow, .ref ix, .ref bb, .ref cpy])) := ⟨_, rfl⟩
                have hw := pw_as (f' := f1) hw rfl hf1.symm
                obtain ⟨hg1, he1⟩ := mod_th hg 3
                rw [← hf1] at hg1 he1
                obtain ⟨⟨hdL1, htd1, hfd1⟩, ⟨hmL1, htm1, hfm1⟩, ⟨hoL1, hto1, hfo1⟩, ⟨hiL1, hti1, hfi1⟩, ⟨hbL1, htb1, hfb1⟩, ⟨hcL1, htc1, hfc1⟩, hk11, hk21, hk31⟩ := id hg1
                refine lv_aload_n hx hb d_D_make_73 rfl (lv_at hl 1 rfl) ?_
                refine get_D hC hw hdL1 hfd1 0 (by decide) k_fl_D_28 rfl d_D_make_74 ?_
                refine lv_if_le (tgt := 82) hx hb d_D_make_77 (by decide) (fun c8 => ((by decide : ¬ (3 : Int32) ≤ 0) c8).elim) (fun c8 => ?_)
                refine lv_iconst (v := 0) hx hb d_D_make_80 (by decide) ?_
                exact pg_iret hC.1 hw (⟨3, tg, he1, Or.inr (Or.inr (Or.inl ⟨rfl, hok, hnm, by rw [uI_nI (by omega)]; exact hbig, ⟨mst, ow, ix, bb, cpy, gb, hm9, ho9, hi9, hc9, hg1⟩⟩))⟩) d_D_make_81
            · refine lv_iconst (v := 2) hx hb d_D_make_50 (by decide) ?_
              refine lv_goto (tgt := 70) hx hb d_D_make_51 (by decide) ?_
              refine put_D hC hw hdL hfd 0 (by decide) k_fl_D_28 rfl rfl rfl (Nat.le_of_ble_eq_true rfl) d_D_make_70 (fun H locs hw => ?_)
              obtain ⟨f1, hf1⟩ : ∃ F, F = va_up f d (.inr (3, [.int 2, .int (nI nm), .ref mst, .int (nI al), .ref ow, .ref ix, .ref bb, .ref cpy])) := ⟨_, rfl⟩
              have hw := pw_as (f' := f1) hw rfl hf1.symm
              obtain ⟨hg1, he1⟩ := mod_th hg 2
              rw [← hf1] at hg1 he1
              obtain ⟨⟨hdL1, htd1, hfd1⟩, ⟨hmL1, htm1, hfm1⟩, ⟨hoL1, hto1, hfo1⟩, ⟨hiL1, hti1, hfi1⟩, ⟨hbL1, htb1, hfb1⟩, ⟨hcL1, htc1, hfc1⟩, hk11, hk21, hk31⟩ := id hg1
              refine lv_aload_n hx hb d_D_make_73 rfl (lv_at hl 1 rfl) ?_
              refine get_D hC hw hdL1 hfd1 0 (by decide) k_fl_D_28 rfl d_D_make_74 ?_
              refine lv_if_le (tgt := 82) hx hb d_D_make_77 (by decide) (fun c8 => ((by decide : ¬ (2 : Int32) ≤ 0) c8).elim) (fun c8 => ?_)
              refine lv_iconst (v := 0) hx hb d_D_make_80 (by decide) ?_
              exact pg_iret hC.1 hw (⟨2, tg, he1, Or.inr (Or.inl ⟨rfl, hok, nI_inj (by omega) (by decide) c6, ⟨mst, ow, ix, bb, cpy, gb, hm9, ho9, hi9, hc9, hg1⟩⟩)⟩) d_D_make_81
end
section
/-! The reference: grow, its constructor -/
set_option maxHeartbeats 4000000 in
set_option maxRecDepth 100000 in
theorem lp_grow {p : Program} {l : Launch} {e : Env} {R : Room} {s : State} {m : MethodId} {args : Array Value} {below : List Frame} {meth : Method} {c : Code} {Q : State → Prop} {A : Nat → Prop} {D : va_G} {kc : Nat → ClassId} {c0 : Cond} {ret : Option FieldType} {L : List Nat} {f : Nat → va_E} {d mst ow ix bb cpy : Nat} {gb : Nat → Option Nat} {hm9 hc9 : Nat → Int32} {tg : Nat → Nat × Nat} {th : Int32} {nm : Nat} {mo : Nat → Int32} {om : Nat → Nat} {al : Nat} {bs : Nat → Nat → Nat} {cells slots : Nat} (hcs : cells ≤ R.cells ∧ slots ≤ R.slots) (k lz : Nat) (hbz : ∀ j, 65536 * cnt om al k ≤ j → bs k j = 0) (hlz : al + lz ≤ 16) (hC : Kx p m c b_D_grow 7 s args c0 R_D meth ret D kc A) (hRf : 1 ≤ R.frames) (hRl : 22 ≤ R.locals)
    (kont : ∀ (f' : Nat → va_E) (ho' hi' : Nat → Int32) (H : Heap) (locs : List Loc) (ls : Array Slot), modG kc L f' tg d mst ow ix bb cpy gb hm9 ho' hi' hc9 th nm mo (appN om al k) (al + lz) bs → Ext SD L f tg (L, f') tg → pw D Cls A s.heap H locs L f' → lv_has ls 7 [(3, .int (nI (cnt om al k)))] → W p l e R s m args below meth c H locs cells slots Q (F0 m 121 ls [])) :
    ∀ (n : Nat) (i : Nat) (f' : Nat → va_E) (ho' hi' : Nat → Int32) (H : Heap) (locs : List Loc) (ls : Array Slot), i ≤ lz → lz + 1 ≤ i + n → modG kc L f' tg d mst ow ix bb cpy gb hm9 ho' hi' hc9 th nm mo (appN om al k) (al + i) bs → Ext SD L f tg (L, f') tg → pw D Cls A s.heap H locs L f' → lv_has ls 7 [(6, .int (nI i)), (0, .ref d), (1, .int (nI k)), (2, .int (nI lz)), (3, .int (nI (cnt om al k)))] → W p l e R s m args below meth c H locs cells slots Q (F0 m 100 ls []) := by
  obtain ⟨⟨⟨hx, hb, hml, hown, hts⟩, hret9, hlocks⟩, hK, hE, hA⟩ := id hC
  intro n
  induction n with
  | zero => intro i f' ho' hi' H locs ls hi hin hm he hw hl; exact absurd hin (by omega)
  | succ n ih =>
    intro i f' ho' hi' H locs ls hi hin hm he hw hl
    obtain ⟨⟨hdL, htd, hfd⟩, -⟩ := id hm
    refine lv_iload hx hb d_D_grow_100 (lv_at hl 0 rfl) ?_
    refine lv_iload_n hx hb d_D_grow_102 rfl (lv_at hl 3 rfl) ?_
    refine lv_icmp_ge (tgt := 121) hx hb d_D_grow_103 (by decide) (fun c1 => ?_) (fun c1 => ?_)
    · have e : i = lz := by
        rcases Nat.lt_or_ge i lz with q | q
        · exact absurd c1 (nI_ge q (by omega))
        · omega
      subst e
      exact kont f' ho' hi' H locs ls hm he hw (lv_sub hl [4] rfl)
    · have hlt : i < lz := by
        rcases Nat.lt_or_ge i lz with q | q
        · exact q
        · exact absurd (nI_le q (by omega)) c1
      have hci : cnt (appN om al k) (al + i) k = cnt om al k + i := by rw [cnt_app, if_pos rfl]
      refine lv_aload_n hx hb d_D_grow_106 rfl (lv_at hl 1 rfl) ?_
      refine lv_iload_n hx hb d_D_grow_107 rfl (lv_at hl 2 rfl) ?_
      refine lv_iload_n hx hb d_D_grow_108 rfl (lv_at hl 4 rfl) ?_
      refine lv_iload hx hb d_D_grow_109 (lv_at hl 0 rfl) ?_
      refine lv_iadd hx hb d_D_grow_111 ?_
      refine tp_i (v := nI (cnt (appN om al k) (al + i) k)) (by rw [hci, nI_add]) ?_
      refine callVv (As := [.int (nI k), .int (nI (cnt (appN om al k) (al + i) k))]) (n9 := 2) hC hw (c_D_add l D kc _ _ _ d mst ow ix bb cpy gb hm9 ho' hi' hc9 tg th nm mo (appN om al k) (al + i) bs hm k (by omega) (fun j hj => hbz j (by omega))) k_co_D_add k_ml_D_47 k_im_D_add k_se_D_add k_in_D rfl rfl (by decide +kernel) rfl ⟨Nat.le_trans (Nat.le_of_ble_eq_true rfl) hRf, Nat.le_trans (Nat.le_of_ble_eq_true rfl) hRl⟩ hdL hfd rfl hl.1 rfl (Nat.le_of_ble_eq_true rfl) d_D_grow_112 ⟨hcs.1, hcs.2⟩ (fun u H locs hp hw => ?_)
      obtain ⟨ho2, hi2, hu2, hm2, he2⟩ := hp
      obtain ⟨f2, rfl⟩ := hu2
      dsimp only at hw hm2 he2
      rw [appN_app, Nat.add_assoc] at hm2
      refine lv_iinc (v := nI (i + 1)) (lv' := [(6, .int (nI (i + 1))), (0, .ref d), (1, .int (nI k)), (2, .int (nI lz)), (3, .int (nI (cnt om al k)))]) hx hb d_D_grow_115 hl (k := 0) rfl (nI_1 i) (by decide) rfl (fun ls hl => ?_)
      refine lv_goto (tgt := 100) hx hb d_D_grow_118 (by decide) ?_
      exact ih (i + 1) f2 ho2 hi2 _ _ _ (by omega) (by omega) hm2 (he.tr he2) hw (lv_sub hl [0, 1, 2, 3, 4] rfl)
set_option maxHeartbeats 4000000 in
set_option maxRecDepth 100000 in
theorem c_D_grow (l : Launch) (D : va_G) (kc : Nat → ClassId) (L : List Nat) (f : Nat → va_E) (sz : Nat) (d mst ow ix bb cpy : Nat) (gb : Nat → Option Nat) (hm9 ho9 hi9 hc9 : Nat → Int32) (tg : Nat → Nat × Nat) (th : Int32) (nm : Nat) (mo : Nat → Int32) (om : Nat → Nat) (al : Nat) (bs : Nat → Nat → Nat) (hg : modG kc L f tg d mst ow ix bb cpy gb hm9 ho9 hi9 hc9 th nm mo om al bs) (hs : stOK nm mo om al bs) (mm gn : Int32) : Met l y_D_grow w_D_grow ({ frames := 1, cells := 0, slots := 0, locals := 23 }) (PP D kc L f sz [.ref d, .int mm, .int gn]) (Qi D L f sz (fun r u => ∃ t9 tg', Ext SD L f tg u tg' ∧ ((t9 = 1 ∧ ¬ (∃ k, k < nm ∧ mm = nI k) ∧ modP kc u.1 u.2 tg' d t9 nm mo om al bs) ∨ (t9 = 0 ∧ ∃ k, k < nm ∧ mm = nI k ∧ ∃ lim, limP (mo k) lim ∧ ((¬ (cnt om al k + uI gn ≤ lim ∧ al + uI gn ≤ 16) ∧ r = -1 ∧ modP kc u.1 u.2 tg' d t9 nm mo om al bs) ∨ (cnt om al k + uI gn ≤ lim ∧ al + uI gn ≤ 16 ∧ r = nI (cnt om al k) ∧ modP kc u.1 u.2 tg' d t9 nm mo (appN om al k) (al + uI gn) bs)))))) 0 0 (pA L f sz) := by
  refine kx_met (by decide) (Nat.le_of_ble_eq_true rfl) ?_
  intro p e s m below meth c hC hnm hw hsz ls hl
  subst hsz
  have hl : lv_has ls 7 [(0, .ref d), (1, .int mm), (2, .int gn)] := hl
  obtain ⟨⟨⟨hx, hb, hml, hown, hts⟩, hret9, hlocks⟩, hK, hE, hA⟩ := id hC
  obtain ⟨⟨hdL, htd, hfd⟩, ⟨hmL, htm, hfm⟩, ⟨hoL, hto, hfo⟩, ⟨hiL, hti, hfi⟩, ⟨hbL, htb, hfb⟩, ⟨hcL, htc, hfc⟩, hk1, hk2, hk3⟩ := id hg
  obtain ⟨hs1, hs2, hs3, hs4, hs5, hs6⟩ := id hs
  refine lv_aload_n hx hb d_D_grow_0 rfl (lv_at hl 0 rfl) ?_
  refine lv_aload_n hx hb d_D_grow_1 rfl (lv_at hl 0 rfl) ?_
  refine lv_iload_n hx hb d_D_grow_2 rfl (lv_at hl 1 rfl) ?_
  refine callVi (As := [.int mm]) (n9 := 1) hC hw (c_D_isMemory l D kc _ _ _ d mst ow ix bb cpy gb hm9 ho9 hi9 hc9 tg th nm mo om al bs hg hs mm) k_co_D_isMemory k_ml_D_51 k_im_D_isMemory k_se_D_isMemory k_in_D rfl rfl (by decide +kernel) rfl ⟨Nat.le_of_ble_eq_true rfl, Nat.le_of_ble_eq_true rfl⟩ hdL hfd rfl hl.1 rfl (Nat.le_of_ble_eq_true rfl) d_D_grow_3 ⟨Nat.le_of_ble_eq_true rfl, Nat.le_of_ble_eq_true rfl⟩ (fun r9 u H locs hp hw => ?_)
  obtain ⟨hp, rfl⟩ := hp
  rcases hp with ⟨rfl, k, hkn, rfl⟩ | ⟨rfl, hno⟩
  · refine lv_if_eq (tgt := 13) hx hb d_D_grow_6 (by decide) (fun c0 => ((by decide : ¬ (1 : Int32) = 0) c0).elim) (fun c0 => ?_)
    refine lv_iconst (v := 0) hx hb d_D_grow_9 (by decide) ?_
    refine lv_goto (tgt := 14) hx hb d_D_grow_10 (by decide) ?_
    refine put_D hC hw hdL hfd 0 (by decide) k_fl_D_28 rfl rfl rfl (Nat.le_of_ble_eq_true rfl) d_D_grow_14 (fun H locs hw => ?_)
    obtain ⟨f1, hf1⟩ : ∃ F, F = va_up f d (.inr (3, [.int 0, .int (nI nm), .ref mst, .int (nI al), .ref ow, .ref ix, .ref bb, .ref cpy])) := ⟨_, rfl⟩
    have hw := pw_as (f' := f1) hw rfl hf1.symm
    obtain ⟨hg1, he1⟩ := mod_th hg 0
    rw [← hf1] at hg1 he1
    obtain ⟨⟨hdL1, htd1, hfd1⟩, ⟨hmL1, htm1, hfm1⟩, ⟨hoL1, hto1, hfo1⟩, ⟨hiL1, hti1, hfi1⟩, ⟨hbL1, htb1, hfb1⟩, ⟨hcL1, htc1, hfc1⟩, hk11, hk21, hk31⟩ := id hg1
    refine lv_aload_n hx hb d_D_grow_17 rfl (lv_at hl 0 rfl) ?_
    refine get_D hC hw hdL1 hfd1 0 (by decide) k_fl_D_28 rfl d_D_grow_18 ?_
    refine lv_if_le (tgt := 26) hx hb d_D_grow_21 (by decide) (fun c1 => ?_) (fun c1 => (c1 (by decide)).elim)
    refine lv_aload_n hx hb d_D_grow_26 rfl (lv_at hl 0 rfl) ?_
    refine lv_iload_n hx hb d_D_grow_27 rfl (lv_at hl 1 rfl) ?_
    refine callVi (As := [.int (nI k)]) (n9 := 1) hC hw (c_D_count l D kc _ _ _ d mst ow ix bb cpy gb hm9 ho9 hi9 hc9 tg 0 nm mo om al bs hg1 hs k hkn) k_co_D_count k_ml_D_55 k_im_D_count k_se_D_count k_in_D rfl rfl (by decide +kernel) rfl ⟨Nat.le_of_ble_eq_true rfl, Nat.le_of_ble_eq_true rfl⟩ hdL1 hfd1 rfl hl.1 rfl (Nat.le_of_ble_eq_true rfl) d_D_grow_28 ⟨Nat.le_of_ble_eq_true rfl, Nat.le_of_ble_eq_true rfl⟩ (fun r9 u H locs hp hw => ?_)
    obtain ⟨rfl, rfl⟩ := hp
    obtain ⟨lim, hlim, hlim9, hlimv⟩ := limP_of hs hkn
    have hu := uI_lt gn
    have hcl := cnt_le om k al
    refine lv_istore_n (lv' := [(3, .int (nI (cnt om al k))), (0, .ref d), (1, .int (nI k)), (2, .int gn)]) hx hb d_D_grow_31 rfl hl (by decide) rfl (fun ls hl => ?_)
    refine lv_iload_n hx hb d_D_grow_32 rfl (lv_at hl 3 rfl) ?_
    refine lv_if_ge (tgt := 45) hx hb d_D_grow_33 (by decide) (fun c2 => ?_) (fun c2 => ?_)
    · refine lv_iload_n hx hb d_D_grow_45 rfl (lv_at hl 3 rfl) ?_
      refine lv_i2l hx hb d_D_grow_46 rfl ?_
      refine tp_l (v := lN (uI gn)) (u64_pos (Int32.not_lt.mpr c2)) ?_
      refine lv_lstore (lv' := [(4, .long (lN (uI gn))), (3, .int (nI (cnt om al k))), (0, .ref d), (1, .int (nI k)), (2, .int gn)]) hx hb d_D_grow_47 hl (by decide) rfl (fun ls hl => ?_)
      refine lv_iload_n hx hb d_D_grow_49 rfl (lv_at hl 1 rfl) ?_
      refine lv_i2l hx hb d_D_grow_50 rfl ?_
      refine lv_lload hx hb d_D_grow_51 (lv_at hl 0 rfl) ?_
      refine lv_ladd hx hb d_D_grow_53 ?_
      refine tp_l (v := lN (cnt om al k + uI gn)) (by rw [nI_toI64 _ (by omega), lN_add]) ?_
      refine lv_aload_n hx hb d_D_grow_54 rfl (lv_at hl 2 rfl) ?_
      refine get_D hC hw hdL1 hfd1 2 (by decide) k_fl_D_9 rfl d_D_grow_55 ?_
      refine lv_iload_n hx hb d_D_grow_58 rfl (lv_at hl 3 rfl) ?_
      refine ald_I hC hw hmL1 hfm1 (by omega) (by decide) d_D_grow_59 ?_
      refine tp_i (v := mo k) (hk1 k hkn) ?_
      refine lv_iconst (v := (-1)) hx hb d_D_grow_60 (by decide) ?_
      refine lv_icmp_ne (tgt := 69) hx hb d_D_grow_61 (by decide) (fun c3 => ?_) (fun c3 => ?_)
      · refine lv_aload_n hx hb d_D_grow_69 rfl (lv_at hl 2 rfl) ?_
        refine get_D hC hw hdL1 hfd1 2 (by decide) k_fl_D_9 rfl d_D_grow_70 ?_
        refine lv_iload_n hx hb d_D_grow_73 rfl (lv_at hl 3 rfl) ?_
        refine ald_I hC hw hmL1 hfm1 (by omega) (by decide) d_D_grow_74 ?_
        refine tp_i (v := nI lim) (by rw [hk1 k hkn, ← hlimv, if_neg c3]) ?_
        refine lv_i2l hx hb d_D_grow_75 rfl ?_
        refine tp_l (v := lN lim) (nI_toI64 _ (by omega)) ?_
        refine W.lcmp hx hb d_D_grow_76 ?_
        refine lv_if_gt (tgt := 95) hx hb d_D_grow_77 (by decide) (fun c4 => ?_) (fun c4 => ?_)
        · refine lv_iconst (v := (-1)) hx hb d_D_grow_95 (by decide) ?_
          exact pg_iret hC.1 hw (⟨0, tg, he1, Or.inr ⟨rfl, k, hkn, rfl, lim, hlim, Or.inl ⟨fun h => by rw [lg_cmp_gt, pk_lLT (by omega) (by omega)] at c4; omega, rfl, ⟨mst, ow, ix, bb, cpy, gb, hm9, ho9, hi9, hc9, hg1⟩⟩⟩⟩) d_D_grow_96
        · refine lv_aload_n hx hb d_D_grow_80 rfl (lv_at hl 2 rfl) ?_
          refine get_D hC hw hdL1 hfd1 3 (by decide) k_fl_D_35 rfl d_D_grow_81 ?_
          refine lv_i2l hx hb d_D_grow_84 rfl ?_
          refine tp_l (v := lN al) (nI_toI64 _ (by omega)) ?_
          refine lv_lload hx hb d_D_grow_85 (lv_at hl 0 rfl) ?_
          refine lv_ladd hx hb d_D_grow_87 ?_
          refine tp_l (v := lN (al + uI gn)) (lN_add _ _) ?_
          refine lv_ldc2 (v := 16) hx hb hown (hts _ (gg_mem k_cn_D_61)) d_D_grow_88 ?_
          refine W.lcmp hx hb d_D_grow_91 ?_
          refine lv_if_le (tgt := 97) hx hb d_D_grow_92 (by decide) (fun c5 => ?_) (fun c5 => ?_)
          · have hle1 : cnt om al k + uI gn ≤ lim := by rw [lg_cmp_gt, pk_lLT (by omega) (by omega)] at c4; omega
            have hle2 : al + uI gn ≤ 16 := by rw [lg_cmp_le] at c5; exact (pk_lLE (b := 16) (by omega) (by omega)).mp c5
            have hl : lv_has ls 7 [(4, .long (lN (uI gn))), (3, .int (nI (cnt om al k))), (0, .ref d), (1, .int (nI k)), (2, .int (nI (uI gn)))] := by rw [nI_uI]; exact hl
            refine lv_iconst (v := 0) hx hb d_D_grow_97 (by decide) ?_
            refine lv_istore (lv' := [(6, .int 0), (4, .long (lN (uI gn))), (3, .int (nI (cnt om al k))), (0, .ref d), (1, .int (nI k)), (2, .int (nI (uI gn)))]) hx hb d_D_grow_98 hl (by decide) rfl (fun ls hl => ?_)
            refine lp_grow ⟨Nat.zero_le _, Nat.zero_le _⟩ k (uI gn) (hs5 k) hle2 hC (Nat.le_of_ble_eq_true rfl) (Nat.le_of_ble_eq_true rfl) (fun f2 ho2 hi2 H locs ls hg2 he2 hw hl => ?_) (uI gn + 1) 0 f1 ho9 hi9 _ _ _ (Nat.zero_le _) (by omega) (mod_om hg1 k) Ext.rf hw (lv_sub hl [0, 3, 4, 5, 2] rfl)
            refine lv_iload_n hx hb d_D_grow_121 rfl (lv_at hl 0 rfl) ?_
            exact pg_iret hC.1 hw (⟨0, tg, he1.tr he2, Or.inr ⟨rfl, k, hkn, rfl, lim, hlim, Or.inr ⟨hle1, hle2, rfl, mst, ow, ix, bb, cpy, gb, hm9, ho2, hi2, hc9, hg2⟩⟩⟩) d_D_grow_122
          · refine lv_iconst (v := (-1)) hx hb d_D_grow_95 (by decide) ?_
            exact pg_iret hC.1 hw (⟨0, tg, he1, Or.inr ⟨rfl, k, hkn, rfl, lim, hlim, Or.inl ⟨fun h => c5 (by rw [lg_cmp_le]; exact (pk_lLE (b := 16) (by omega) (by omega)).mpr h.2), rfl, ⟨mst, ow, ix, bb, cpy, gb, hm9, ho9, hi9, hc9, hg1⟩⟩⟩⟩) d_D_grow_96
      · refine lv_ldc (v := 65536) hx hb hown (hts _ (gg_mem k_cn_D_46)) d_D_grow_64 ?_
        refine lv_goto (tgt := 75) hx hb d_D_grow_66 (by decide) ?_
        refine tp_i (v := nI lim) (by rw [← hlimv, if_pos c3]) ?_
        refine lv_i2l hx hb d_D_grow_75 rfl ?_
        refine tp_l (v := lN lim) (nI_toI64 _ (by omega)) ?_
        refine W.lcmp hx hb d_D_grow_76 ?_
        refine lv_if_gt (tgt := 95) hx hb d_D_grow_77 (by decide) (fun c4 => ?_) (fun c4 => ?_)
        · refine lv_iconst (v := (-1)) hx hb d_D_grow_95 (by decide) ?_
          exact pg_iret hC.1 hw (⟨0, tg, he1, Or.inr ⟨rfl, k, hkn, rfl, lim, hlim, Or.inl ⟨fun h => by rw [lg_cmp_gt, pk_lLT (by omega) (by omega)] at c4; omega, rfl, ⟨mst, ow, ix, bb, cpy, gb, hm9, ho9, hi9, hc9, hg1⟩⟩⟩⟩) d_D_grow_96
        · refine lv_aload_n hx hb d_D_grow_80 rfl (lv_at hl 2 rfl) ?_
          refine get_D hC hw hdL1 hfd1 3 (by decide) k_fl_D_35 rfl d_D_grow_81 ?_
          refine lv_i2l hx hb d_D_grow_84 rfl ?_
          refine tp_l (v := lN al) (nI_toI64 _ (by omega)) ?_
          refine lv_lload hx hb d_D_grow_85 (lv_at hl 0 rfl) ?_
          refine lv_ladd hx hb d_D_grow_87 ?_
          refine tp_l (v := lN (al + uI gn)) (lN_add _ _) ?_
          refine lv_ldc2 (v := 16) hx hb hown (hts _ (gg_mem k_cn_D_61)) d_D_grow_88 ?_
          refine W.lcmp hx hb d_D_grow_91 ?_
          refine lv_if_le (tgt := 97) hx hb d_D_grow_92 (by decide) (fun c5 => ?_) (fun c5 => ?_)
          · have hle1 : cnt om al k + uI gn ≤ lim := by rw [lg_cmp_gt, pk_lLT (by omega) (by omega)] at c4; omega
            have hle2 : al + uI gn ≤ 16 := by rw [lg_cmp_le] at c5; exact (pk_lLE (b := 16) (by omega) (by omega)).mp c5
            have hl : lv_has ls 7 [(4, .long (lN (uI gn))), (3, .int (nI (cnt om al k))), (0, .ref d), (1, .int (nI k)), (2, .int (nI (uI gn)))] := by rw [nI_uI]; exact hl
            refine lv_iconst (v := 0) hx hb d_D_grow_97 (by decide) ?_
            refine lv_istore (lv' := [(6, .int 0), (4, .long (lN (uI gn))), (3, .int (nI (cnt om al k))), (0, .ref d), (1, .int (nI k)), (2, .int (nI (uI gn)))]) hx hb d_D_grow_98 hl (by decide) rfl (fun ls hl => ?_)
            refine lp_grow ⟨Nat.zero_le _, Nat.zero_le _⟩ k (uI gn) (hs5 k) hle2 hC (Nat.le_of_ble_eq_true rfl) (Nat.le_of_ble_eq_true rfl) (fun f2 ho2 hi2 H locs ls hg2 he2 hw hl => ?_) (uI gn + 1) 0 f1 ho9 hi9 _ _ _ (Nat.zero_le _) (by omega) (mod_om hg1 k) Ext.rf hw (lv_sub hl [0, 3, 4, 5, 2] rfl)
            refine lv_iload_n hx hb d_D_grow_121 rfl (lv_at hl 0 rfl) ?_
            exact pg_iret hC.1 hw (⟨0, tg, he1.tr he2, Or.inr ⟨rfl, k, hkn, rfl, lim, hlim, Or.inr ⟨hle1, hle2, rfl, mst, ow, ix, bb, cpy, gb, hm9, ho2, hi2, hc9, hg2⟩⟩⟩) d_D_grow_122
          · refine lv_iconst (v := (-1)) hx hb d_D_grow_95 (by decide) ?_
            exact pg_iret hC.1 hw (⟨0, tg, he1, Or.inr ⟨rfl, k, hkn, rfl, lim, hlim, Or.inl ⟨fun h => c5 (by rw [lg_cmp_le]; exact (pk_lLE (b := 16) (by omega) (by omega)).mpr h.2), rfl, ⟨mst, ow, ix, bb, cpy, gb, hm9, ho9, hi9, hc9, hg1⟩⟩⟩⟩) d_D_grow_96
    · refine lv_iload_n hx hb d_D_grow_36 rfl (lv_at hl 3 rfl) ?_
      refine lv_i2l hx hb d_D_grow_37 rfl ?_
      refine lv_ldc2 (v := 4294967296) hx hb hown (hts _ (gg_mem k_cn_D_59)) d_D_grow_38 ?_
      refine lv_ladd hx hb d_D_grow_41 ?_
      refine tp_l (v := lN (uI gn)) (u64_neg (Int32.not_le.mp c2)) ?_
      refine lv_goto (tgt := 47) hx hb d_D_grow_42 (by decide) ?_
      refine lv_lstore (lv' := [(4, .long (lN (uI gn))), (3, .int (nI (cnt om al k))), (0, .ref d), (1, .int (nI k)), (2, .int gn)]) hx hb d_D_grow_47 hl (by decide) rfl (fun ls hl => ?_)
      refine lv_iload_n hx hb d_D_grow_49 rfl (lv_at hl 1 rfl) ?_
      refine lv_i2l hx hb d_D_grow_50 rfl ?_
      refine lv_lload hx hb d_D_grow_51 (lv_at hl 0 rfl) ?_
      refine lv_ladd hx hb d_D_grow_53 ?_
      refine tp_l (v := lN (cnt om al k + uI gn)) (by rw [nI_toI64 _ (by omega), lN_add]) ?_
      refine lv_aload_n hx hb d_D_grow_54 rfl (lv_at hl 2 rfl) ?_
      refine get_D hC hw hdL1 hfd1 2 (by decide) k_fl_D_9 rfl d_D_grow_55 ?_
      refine lv_iload_n hx hb d_D_grow_58 rfl (lv_at hl 3 rfl) ?_
      refine ald_I hC hw hmL1 hfm1 (by omega) (by decide) d_D_grow_59 ?_
      refine tp_i (v := mo k) (hk1 k hkn) ?_
      refine lv_iconst (v := (-1)) hx hb d_D_grow_60 (by decide) ?_
      refine lv_icmp_ne (tgt := 69) hx hb d_D_grow_61 (by decide) (fun c3 => ?_) (fun c3 => ?_)
      · refine lv_aload_n hx hb d_D_grow_69 rfl (lv_at hl 2 rfl) ?_
        refine get_D hC hw hdL1 hfd1 2 (by decide) k_fl_D_9 rfl d_D_grow_70 ?_
        refine lv_iload_n hx hb d_D_grow_73 rfl (lv_at hl 3 rfl) ?_
        refine ald_I hC hw hmL1 hfm1 (by omega) (by decide) d_D_grow_74 ?_
        refine tp_i (v := nI lim) (by rw [hk1 k hkn, ← hlimv, if_neg c3]) ?_
        refine lv_i2l hx hb d_D_grow_75 rfl ?_
        refine tp_l (v := lN lim) (nI_toI64 _ (by omega)) ?_
        refine W.lcmp hx hb d_D_grow_76 ?_
        refine lv_if_gt (tgt := 95) hx hb d_D_grow_77 (by decide) (fun c4 => ?_) (fun c4 => ?_)
        · refine lv_iconst (v := (-1)) hx hb d_D_grow_95 (by decide) ?_
          exact pg_iret hC.1 hw (⟨0, tg, he1, Or.inr ⟨rfl, k, hkn, rfl, lim, hlim, Or.inl ⟨fun h => by rw [lg_cmp_gt, pk_lLT (by omega) (by omega)] at c4; omega, rfl, ⟨mst, ow, ix, bb, cpy, gb, hm9, ho9, hi9, hc9, hg1⟩⟩⟩⟩) d_D_grow_96
        · refine lv_aload_n hx hb d_D_grow_80 rfl (lv_at hl 2 rfl) ?_
          refine get_D hC hw hdL1 hfd1 3 (by decide) k_fl_D_35 rfl d_D_grow_81 ?_
          refine lv_i2l hx hb d_D_grow_84 rfl ?_
          refine tp_l (v := lN al) (nI_toI64 _ (by omega)) ?_
          refine lv_lload hx hb d_D_grow_85 (lv_at hl 0 rfl) ?_
          refine lv_ladd hx hb d_D_grow_87 ?_
          refine tp_l (v := lN (al + uI gn)) (lN_add _ _) ?_
          refine lv_ldc2 (v := 16) hx hb hown (hts _ (gg_mem k_cn_D_61)) d_D_grow_88 ?_
          refine W.lcmp hx hb d_D_grow_91 ?_
          refine lv_if_le (tgt := 97) hx hb d_D_grow_92 (by decide) (fun c5 => ?_) (fun c5 => ?_)
          · have hle1 : cnt om al k + uI gn ≤ lim := by rw [lg_cmp_gt, pk_lLT (by omega) (by omega)] at c4; omega
            have hle2 : al + uI gn ≤ 16 := by rw [lg_cmp_le] at c5; exact (pk_lLE (b := 16) (by omega) (by omega)).mp c5
            have hl : lv_has ls 7 [(4, .long (lN (uI gn))), (3, .int (nI (cnt om al k))), (0, .ref d), (1, .int (nI k)), (2, .int (nI (uI gn)))] := by rw [nI_uI]; exact hl
            refine lv_iconst (v := 0) hx hb d_D_grow_97 (by decide) ?_
            refine lv_istore (lv' := [(6, .int 0), (4, .long (lN (uI gn))), (3, .int (nI (cnt om al k))), (0, .ref d), (1, .int (nI k)), (2, .int (nI (uI gn)))]) hx hb d_D_grow_98 hl (by decide) rfl (fun ls hl => ?_)
            refine lp_grow ⟨Nat.zero_le _, Nat.zero_le _⟩ k (uI gn) (hs5 k) hle2 hC (Nat.le_of_ble_eq_true rfl) (Nat.le_of_ble_eq_true rfl) (fun f2 ho2 hi2 H locs ls hg2 he2 hw hl => ?_) (uI gn + 1) 0 f1 ho9 hi9 _ _ _ (Nat.zero_le _) (by omega) (mod_om hg1 k) Ext.rf hw (lv_sub hl [0, 3, 4, 5, 2] rfl)
            refine lv_iload_n hx hb d_D_grow_121 rfl (lv_at hl 0 rfl) ?_
            exact pg_iret hC.1 hw (⟨0, tg, he1.tr he2, Or.inr ⟨rfl, k, hkn, rfl, lim, hlim, Or.inr ⟨hle1, hle2, rfl, mst, ow, ix, bb, cpy, gb, hm9, ho2, hi2, hc9, hg2⟩⟩⟩) d_D_grow_122
          · refine lv_iconst (v := (-1)) hx hb d_D_grow_95 (by decide) ?_
            exact pg_iret hC.1 hw (⟨0, tg, he1, Or.inr ⟨rfl, k, hkn, rfl, lim, hlim, Or.inl ⟨fun h => c5 (by rw [lg_cmp_le]; exact (pk_lLE (b := 16) (by omega) (by omega)).mpr h.2), rfl, ⟨mst, ow, ix, bb, cpy, gb, hm9, ho9, hi9, hc9, hg1⟩⟩⟩⟩) d_D_grow_96
      · refine lv_ldc (v := 65536) hx hb hown (hts _ (gg_mem k_cn_D_46)) d_D_grow_64 ?_
        refine lv_goto (tgt := 75) hx hb d_D_grow_66 (by decide) ?_
        refine tp_i (v := nI lim) (by rw [← hlimv, if_pos c3]) ?_
        refine lv_i2l hx hb d_D_grow_75 rfl ?_
        refine tp_l (v := lN lim) (nI_toI64 _ (by omega)) ?_
        refine W.lcmp hx hb d_D_grow_76 ?_
        refine lv_if_gt (tgt := 95) hx hb d_D_grow_77 (by decide) (fun c4 => ?_) (fun c4 => ?_)
        · refine lv_iconst (v := (-1)) hx hb d_D_grow_95 (by decide) ?_
          exact pg_iret hC.1 hw (⟨0, tg, he1, Or.inr ⟨rfl, k, hkn, rfl, lim, hlim, Or.inl ⟨fun h => by rw [lg_cmp_gt, pk_lLT (by omega) (by omega)] at c4; omega, rfl, ⟨mst, ow, ix, bb, cpy, gb, hm9, ho9, hi9, hc9, hg1⟩⟩⟩⟩) d_D_grow_96
        · refine lv_aload_n hx hb d_D_grow_80 rfl (lv_at hl 2 rfl) ?_
          refine get_D hC hw hdL1 hfd1 3 (by decide) k_fl_D_35 rfl d_D_grow_81 ?_
          refine lv_i2l hx hb d_D_grow_84 rfl ?_
          refine tp_l (v := lN al) (nI_toI64 _ (by omega)) ?_
          refine lv_lload hx hb d_D_grow_85 (lv_at hl 0 rfl) ?_
          refine lv_ladd hx hb d_D_grow_87 ?_
          refine tp_l (v := lN (al + uI gn)) (lN_add _ _) ?_
          refine lv_ldc2 (v := 16) hx hb hown (hts _ (gg_mem k_cn_D_61)) d_D_grow_88 ?_
          refine W.lcmp hx hb d_D_grow_91 ?_
          refine lv_if_le (tgt := 97) hx hb d_D_grow_92 (by decide) (fun c5 => ?_) (fun c5 => ?_)
          · have hle1 : cnt om al k + uI gn ≤ lim := by rw [lg_cmp_gt, pk_lLT (by omega) (by omega)] at c4; omega
            have hle2 : al + uI gn ≤ 16 := by rw [lg_cmp_le] at c5; exact (pk_lLE (b := 16) (by omega) (by omega)).mp c5
            have hl : lv_has ls 7 [(4, .long (lN (uI gn))), (3, .int (nI (cnt om al k))), (0, .ref d), (1, .int (nI k)), (2, .int (nI (uI gn)))] := by rw [nI_uI]; exact hl
            refine lv_iconst (v := 0) hx hb d_D_grow_97 (by decide) ?_
            refine lv_istore (lv' := [(6, .int 0), (4, .long (lN (uI gn))), (3, .int (nI (cnt om al k))), (0, .ref d), (1, .int (nI k)), (2, .int (nI (uI gn)))]) hx hb d_D_grow_98 hl (by decide) rfl (fun ls hl => ?_)
            refine lp_grow ⟨Nat.zero_le _, Nat.zero_le _⟩ k (uI gn) (hs5 k) hle2 hC (Nat.le_of_ble_eq_true rfl) (Nat.le_of_ble_eq_true rfl) (fun f2 ho2 hi2 H locs ls hg2 he2 hw hl => ?_) (uI gn + 1) 0 f1 ho9 hi9 _ _ _ (Nat.zero_le _) (by omega) (mod_om hg1 k) Ext.rf hw (lv_sub hl [0, 3, 4, 5, 2] rfl)
            refine lv_iload_n hx hb d_D_grow_121 rfl (lv_at hl 0 rfl) ?_
            exact pg_iret hC.1 hw (⟨0, tg, he1.tr he2, Or.inr ⟨rfl, k, hkn, rfl, lim, hlim, Or.inr ⟨hle1, hle2, rfl, mst, ow, ix, bb, cpy, gb, hm9, ho2, hi2, hc9, hg2⟩⟩⟩) d_D_grow_122
          · refine lv_iconst (v := (-1)) hx hb d_D_grow_95 (by decide) ?_
            exact pg_iret hC.1 hw (⟨0, tg, he1, Or.inr ⟨rfl, k, hkn, rfl, lim, hlim, Or.inl ⟨fun h => c5 (by rw [lg_cmp_le]; exact (pk_lLE (b := 16) (by omega) (by omega)).mpr h.2), rfl, ⟨mst, ow, ix, bb, cpy, gb, hm9, ho9, hi9, hc9, hg1⟩⟩⟩⟩) d_D_grow_96
  · refine lv_if_eq (tgt := 13) hx hb d_D_grow_6 (by decide) (fun c0 => ?_) (fun c0 => (c0 rfl).elim)
    refine lv_iconst (v := 1) hx hb d_D_grow_13 (by decide) ?_
    refine put_D hC hw hdL hfd 0 (by decide) k_fl_D_28 rfl rfl rfl (Nat.le_of_ble_eq_true rfl) d_D_grow_14 (fun H locs hw => ?_)
    obtain ⟨f1, hf1⟩ : ∃ F, F = va_up f d (.inr (3, [.int 1, .int (nI nm), .ref mst, .int (nI al), .ref ow, .ref ix, .ref bb, .ref cpy])) := ⟨_, rfl⟩
    have hw := pw_as (f' := f1) hw rfl hf1.symm
    obtain ⟨hg1, he1⟩ := mod_th hg 1
    rw [← hf1] at hg1 he1
    obtain ⟨⟨hdL1, htd1, hfd1⟩, ⟨hmL1, htm1, hfm1⟩, ⟨hoL1, hto1, hfo1⟩, ⟨hiL1, hti1, hfi1⟩, ⟨hbL1, htb1, hfb1⟩, ⟨hcL1, htc1, hfc1⟩, hk11, hk21, hk31⟩ := id hg1
    refine lv_aload_n hx hb d_D_grow_17 rfl (lv_at hl 0 rfl) ?_
    refine get_D hC hw hdL1 hfd1 0 (by decide) k_fl_D_28 rfl d_D_grow_18 ?_
    refine lv_if_le (tgt := 26) hx hb d_D_grow_21 (by decide) (fun c1 => ((by decide : ¬ (1 : Int32) ≤ 0) c1).elim) (fun c1 => ?_)
    refine lv_iconst (v := 0) hx hb d_D_grow_24 (by decide) ?_
    exact pg_iret hC.1 hw (⟨1, tg, he1, Or.inl ⟨rfl, hno, ⟨mst, ow, ix, bb, cpy, gb, hm9, ho9, hi9, hc9, hg1⟩⟩⟩) d_D_grow_25
set_option maxHeartbeats 4000000 in
set_option maxRecDepth 100000 in
theorem c_D_init (l : Launch) (D : va_G) (kc : Nat → ClassId) (L : List Nat) (f : Nat → va_E) (sz : Nat) (d : Nat) (tg : Nat → Nat × Nat) (mo : Nat → Int32) (om : Nat → Nat) (bs : Nat → Nat → Nat) (hd9 : d ∈ L) (hed : f d = .inr (3, [.int 0, .int 0, .null, .int 0, .null, .null, .null, .null])) : Met l y_D_init w_D_init ({ frames := 1, cells := 5, slots := 5176, locals := 12 }) (PP D kc L f sz [.ref d]) (Qv D L f sz (fun u => ∃ tg', modP kc u.1 u.2 tg' d 0 0 mo om 0 bs ∧ (∀ a, a ∈ L → a ∈ u.1) ∧ (∀ a, a ∈ L → a ≠ d → u.2 a = f a ∧ tg' a = tg a) ∧ ∀ a, a ∈ u.1 → a ∉ L → (tg' a).1 = 200)) 5 5176 (pA L f sz) := by
  refine kx_met (by decide) (Nat.le_of_ble_eq_true rfl) ?_
  intro p e s m below meth c hC hnm hw hsz ls hl
  subst hsz
  have hl : lv_has ls 1 [(0, .ref d)] := hl
  obtain ⟨⟨⟨hx, hb, hml, hown, hts⟩, hret9, hlocks⟩, hK, hE, hA⟩ := id hC
  refine lv_aload_n hx hb d_D_init_0 rfl (lv_at hl 0 rfl) ?_
  refine callO hC hw hl.1 k_ml_D_1 d_D_init_1 (Nat.le_of_ble_eq_true rfl) (Nat.le_of_ble_eq_true rfl) ?_
  refine lv_aload_n hx hb d_D_init_4 rfl (lv_at hl 0 rfl) ?_
  refine lv_bipush (v := 24) hx hb d_D_init_5 (by decide) ?_
  refine tp_i (v := nI 24) (rfl) ?_
  refine newI hC hw (gg_of (by decide +kernel) (by decide +kernel)) (by decide) (Nat.le_of_ble_eq_true rfl) (Nat.le_of_ble_eq_true rfl) d_D_init_7 (fun mst H hmst hw => ?_)
  have ndmst : d ≠ mst := ne_in hd9 hmst
  refine putF_D hC hw hnm rfl (mem_l hd9) ((va_up_ne _ _ ndmst).trans hed) 2 (by decide) k_fl_D_9 rfl rfl rfl rfl (Nat.le_of_ble_eq_true rfl) d_D_init_9 (fun H locs hw => ?_)
  obtain ⟨f1, hf1⟩ : ∃ F, F = va_up (va_up f mst (.inl (kc 3, 24, .inl (fun _ => 0)))) d (.inr (3, [.int 0, .int 0, .ref mst, .int 0, .null, .null, .null, .null])) := ⟨_, rfl⟩
  have hw := pw_as (f' := f1) hw rfl hf1.symm
  have he1 : f1 d = .inr (3, [.int 0, .int 0, .ref mst, .int 0, .null, .null, .null, .null]) := by rw [hf1]; exact va_up_self _ _ _
  have c1mst : f1 mst = .inl (kc 3, 24, .inl (fun _ => 0)) := by rw [hf1, va_up_ne _ _ (Ne.symm ndmst)]; exact va_up_self _ _ _
  have k1 : ∀ a, a ≠ d → a ≠ mst → f1 a = f a := fun a h1 h2 => by rw [hf1, va_up_ne _ _ h1, va_up_ne _ _ h2]
  refine lv_aload_n hx hb d_D_init_12 rfl (lv_at hl 0 rfl) ?_
  refine lv_bipush (v := 16) hx hb d_D_init_13 (by decide) ?_
  refine tp_i (v := nI 16) (rfl) ?_
  refine newI hC hw (gg_of (by decide +kernel) (by decide +kernel)) (by decide) (Nat.le_of_ble_eq_true rfl) (Nat.le_of_ble_eq_true rfl) d_D_init_15 (fun ow H how hw => ?_)
  have ndow : d ≠ ow := ne_in (mem_l hd9) how
  have nmstow : mst ≠ ow := ne_in mem_r how
  refine putF_D hC hw hnm rfl (mem_l (mem_l hd9)) ((va_up_ne _ _ ndow).trans he1) 4 (by decide) k_fl_D_13 rfl rfl rfl rfl (Nat.le_of_ble_eq_true rfl) d_D_init_17 (fun H locs hw => ?_)
  obtain ⟨f2, hf2⟩ : ∃ F, F = va_up (va_up f1 ow (.inl (kc 3, 16, .inl (fun _ => 0)))) d (.inr (3, [.int 0, .int 0, .ref mst, .int 0, .ref ow, .null, .null, .null])) := ⟨_, rfl⟩
  have hw := pw_as (f' := f2) hw rfl hf2.symm
  have he2 : f2 d = .inr (3, [.int 0, .int 0, .ref mst, .int 0, .ref ow, .null, .null, .null]) := by rw [hf2]; exact va_up_self _ _ _
  have c2ow : f2 ow = .inl (kc 3, 16, .inl (fun _ => 0)) := by rw [hf2, va_up_ne _ _ (Ne.symm ndow)]; exact va_up_self _ _ _
  have c2mst := (show f2 mst = f1 mst by rw [hf2, va_up_ne _ _ (Ne.symm ndmst), va_up_ne _ _ nmstow]).trans c1mst
  have k2 : ∀ a, a ≠ d → a ≠ ow → f2 a = f1 a := fun a h1 h2 => by rw [hf2, va_up_ne _ _ h1, va_up_ne _ _ h2]
  refine lv_aload_n hx hb d_D_init_20 rfl (lv_at hl 0 rfl) ?_
  refine lv_bipush (v := 16) hx hb d_D_init_21 (by decide) ?_
  refine tp_i (v := nI 16) (rfl) ?_
  refine newI hC hw (gg_of (by decide +kernel) (by decide +kernel)) (by decide) (Nat.le_of_ble_eq_true rfl) (Nat.le_of_ble_eq_true rfl) d_D_init_23 (fun ix H hix hw => ?_)
  have ndix : d ≠ ix := ne_in (mem_l (mem_l hd9)) hix
  have nmstix : mst ≠ ix := ne_in (mem_l mem_r) hix
  have nowix : ow ≠ ix := ne_in mem_r hix
  refine putF_D hC hw hnm rfl (mem_l (mem_l (mem_l hd9))) ((va_up_ne _ _ ndix).trans he2) 5 (by decide) k_fl_D_16 rfl rfl rfl rfl (Nat.le_of_ble_eq_true rfl) d_D_init_25 (fun H locs hw => ?_)
  obtain ⟨f3, hf3⟩ : ∃ F, F = va_up (va_up f2 ix (.inl (kc 3, 16, .inl (fun _ => 0)))) d (.inr (3, [.int 0, .int 0, .ref mst, .int 0, .ref ow, .ref ix, .null, .null])) := ⟨_, rfl⟩
  have hw := pw_as (f' := f3) hw rfl hf3.symm
  have he3 : f3 d = .inr (3, [.int 0, .int 0, .ref mst, .int 0, .ref ow, .ref ix, .null, .null]) := by rw [hf3]; exact va_up_self _ _ _
  have c3ix : f3 ix = .inl (kc 3, 16, .inl (fun _ => 0)) := by rw [hf3, va_up_ne _ _ (Ne.symm ndix)]; exact va_up_self _ _ _
  have c3mst := (show f3 mst = f2 mst by rw [hf3, va_up_ne _ _ (Ne.symm ndmst), va_up_ne _ _ nmstix]).trans c2mst
  have c3ow := (show f3 ow = f2 ow by rw [hf3, va_up_ne _ _ (Ne.symm ndow), va_up_ne _ _ nowix]).trans c2ow
  have k3 : ∀ a, a ≠ d → a ≠ ix → f3 a = f2 a := fun a h1 h2 => by rw [hf3, va_up_ne _ _ h1, va_up_ne _ _ h2]
  refine lv_aload_n hx hb d_D_init_28 rfl (lv_at hl 0 rfl) ?_
  refine lv_sipush (v := 1024) hx hb d_D_init_29 (by decide) ?_
  refine tp_i (v := nI 1024) (rfl) ?_
  refine newG hC hw k_cl_D_19 (by decide) (Nat.le_of_ble_eq_true rfl) (Nat.le_of_ble_eq_true rfl) d_D_init_32 (fun bb H hbb hw => ?_)
  have ndbb : d ≠ bb := ne_in (mem_l (mem_l (mem_l hd9))) hbb
  have nmstbb : mst ≠ bb := ne_in (mem_l (mem_l mem_r)) hbb
  have nowbb : ow ≠ bb := ne_in (mem_l mem_r) hbb
  have nixbb : ix ≠ bb := ne_in mem_r hbb
  refine putF_D hC hw hnm rfl (mem_l (mem_l (mem_l (mem_l hd9)))) ((va_up_ne _ _ ndbb).trans he3) 6 (by decide) k_fl_D_21 rfl rfl rfl rfl (Nat.le_of_ble_eq_true rfl) d_D_init_35 (fun H locs hw => ?_)
  obtain ⟨f4, hf4⟩ : ∃ F, F = va_up (va_up f3 bb (.inl (kc 4, 1024, .inr (.inr (.inr (.inr (fun _ => none))))))) d (.inr (3, [.int 0, .int 0, .ref mst, .int 0, .ref ow, .ref ix, .ref bb, .null])) := ⟨_, rfl⟩
  have hw := pw_as (f' := f4) hw rfl hf4.symm
  have he4 : f4 d = .inr (3, [.int 0, .int 0, .ref mst, .int 0, .ref ow, .ref ix, .ref bb, .null]) := by rw [hf4]; exact va_up_self _ _ _
  have c4bb : f4 bb = .inl (kc 4, 1024, .inr (.inr (.inr (.inr (fun _ => none))))) := by rw [hf4, va_up_ne _ _ (Ne.symm ndbb)]; exact va_up_self _ _ _
  have c4mst := (show f4 mst = f3 mst by rw [hf4, va_up_ne _ _ (Ne.symm ndmst), va_up_ne _ _ nmstbb]).trans c3mst
  have c4ow := (show f4 ow = f3 ow by rw [hf4, va_up_ne _ _ (Ne.symm ndow), va_up_ne _ _ nowbb]).trans c3ow
  have c4ix := (show f4 ix = f3 ix by rw [hf4, va_up_ne _ _ (Ne.symm ndix), va_up_ne _ _ nixbb]).trans c3ix
  have k4 : ∀ a, a ≠ d → a ≠ bb → f4 a = f3 a := fun a h1 h2 => by rw [hf4, va_up_ne _ _ h1, va_up_ne _ _ h2]
  refine lv_aload_n hx hb d_D_init_38 rfl (lv_at hl 0 rfl) ?_
  refine lv_sipush (v := 4096) hx hb d_D_init_39 (by decide) ?_
  refine tp_i (v := nI 4096) (rfl) ?_
  refine newI hC hw (gg_of (by decide +kernel) (by decide +kernel)) (by decide) (Nat.le_of_ble_eq_true rfl) (Nat.le_of_ble_eq_true rfl) d_D_init_42 (fun cpy H hcpy hw => ?_)
  have ndcpy : d ≠ cpy := ne_in (mem_l (mem_l (mem_l (mem_l hd9)))) hcpy
  have nmstcpy : mst ≠ cpy := ne_in (mem_l (mem_l (mem_l mem_r))) hcpy
  have nowcpy : ow ≠ cpy := ne_in (mem_l (mem_l mem_r)) hcpy
  have nixcpy : ix ≠ cpy := ne_in (mem_l mem_r) hcpy
  have nbbcpy : bb ≠ cpy := ne_in mem_r hcpy
  refine putF_D hC hw hnm rfl (mem_l (mem_l (mem_l (mem_l (mem_l hd9))))) ((va_up_ne _ _ ndcpy).trans he4) 7 (by decide) k_fl_D_25 rfl rfl rfl rfl (Nat.le_of_ble_eq_true rfl) d_D_init_44 (fun H locs hw => ?_)
  obtain ⟨f5, hf5⟩ : ∃ F, F = va_up (va_up f4 cpy (.inl (kc 3, 4096, .inl (fun _ => 0)))) d (.inr (3, [.int 0, .int 0, .ref mst, .int 0, .ref ow, .ref ix, .ref bb, .ref cpy])) := ⟨_, rfl⟩
  have hw := pw_as (f' := f5) hw rfl hf5.symm
  have he5 : f5 d = .inr (3, [.int 0, .int 0, .ref mst, .int 0, .ref ow, .ref ix, .ref bb, .ref cpy]) := by rw [hf5]; exact va_up_self _ _ _
  have c5cpy : f5 cpy = .inl (kc 3, 4096, .inl (fun _ => 0)) := by rw [hf5, va_up_ne _ _ (Ne.symm ndcpy)]; exact va_up_self _ _ _
  have c5mst := (show f5 mst = f4 mst by rw [hf5, va_up_ne _ _ (Ne.symm ndmst), va_up_ne _ _ nmstcpy]).trans c4mst
  have c5ow := (show f5 ow = f4 ow by rw [hf5, va_up_ne _ _ (Ne.symm ndow), va_up_ne _ _ nowcpy]).trans c4ow
  have c5ix := (show f5 ix = f4 ix by rw [hf5, va_up_ne _ _ (Ne.symm ndix), va_up_ne _ _ nixcpy]).trans c4ix
  have c5bb := (show f5 bb = f4 bb by rw [hf5, va_up_ne _ _ (Ne.symm ndbb), va_up_ne _ _ nbbcpy]).trans c4bb
  have k5 : ∀ a, a ≠ d → a ≠ cpy → f5 a = f4 a := fun a h1 h2 => by rw [hf5, va_up_ne _ _ h1, va_up_ne _ _ h2]
  obtain ⟨t3, ht3⟩ : ∃ T, T = va_up (va_up (va_up (va_up (va_up (va_up tg d (200, 0)) mst (200, 1)) ow (200, 2)) ix (200, 3)) bb (200, 4)) cpy (200, 5) := ⟨_, rfl⟩
  have td : t3 d = (200, 0) := by rw [ht3, va_up_ne _ _ ndcpy, va_up_ne _ _ ndbb, va_up_ne _ _ ndix, va_up_ne _ _ ndow, va_up_ne _ _ ndmst, va_up_self]
  have tmst : t3 mst = (200, 1) := by rw [ht3, va_up_ne _ _ nmstcpy, va_up_ne _ _ nmstbb, va_up_ne _ _ nmstix, va_up_ne _ _ nmstow, va_up_self]
  have tow : t3 ow = (200, 2) := by rw [ht3, va_up_ne _ _ nowcpy, va_up_ne _ _ nowbb, va_up_ne _ _ nowix, va_up_self]
  have tix : t3 ix = (200, 3) := by rw [ht3, va_up_ne _ _ nixcpy, va_up_ne _ _ nixbb, va_up_self]
  have tbb : t3 bb = (200, 4) := by rw [ht3, va_up_ne _ _ nbbcpy, va_up_self]
  have tcpy : t3 cpy = (200, 5) := by rw [ht3, va_up_self]
  have kk9 : ∀ a, a ∈ L → a ≠ d → f5 a = f a ∧ t3 a = tg a := fun a ha hne => by
    have e1 : a ≠ mst := ne_in ha hmst
    have e2 : a ≠ ow := ne_in (mem_l ha) how
    have e3 : a ≠ ix := ne_in (mem_l (mem_l ha)) hix
    have e4 : a ≠ bb := ne_in (mem_l (mem_l (mem_l ha))) hbb
    have e5 : a ≠ cpy := ne_in (mem_l (mem_l (mem_l (mem_l ha)))) hcpy
    exact ⟨by rw [k5 a hne e5, k4 a hne e4, k3 a hne e3, k2 a hne e2, k1 a hne e1], by rw [ht3, va_up_ne _ _ e5, va_up_ne _ _ e4, va_up_ne _ _ e3, va_up_ne _ _ e2, va_up_ne _ _ e1, va_up_ne _ _ hne]⟩
  have nn9 : ∀ a, a ∈ (((((L ++ [mst]) ++ [ow]) ++ [ix]) ++ [bb]) ++ [cpy]) → a ∉ L → (t3 a).1 = 200 := fun a ha hn => by
    simp only [List.mem_append, List.mem_singleton] at ha
    rcases ha with ((((h | h) | h) | h) | h) | h
    · exact absurd h hn
    · rw [h, tmst]
    · rw [h, tow]
    · rw [h, tix]
    · rw [h, tbb]
    · rw [h, tcpy]
  have hmg : modG kc (((((L ++ [mst]) ++ [ow]) ++ [ix]) ++ [bb]) ++ [cpy]) f5 t3 d mst ow ix bb cpy (fun _ => none) (fun _ => 0) (fun _ => 0) (fun _ => 0) (fun _ => 0) 0 0 mo om 0 bs := ⟨⟨(mem_l (mem_l (mem_l (mem_l (mem_l hd9))))), td, he5⟩, ⟨(mem_l (mem_l (mem_l (mem_l mem_r)))), tmst, c5mst⟩, ⟨(mem_l (mem_l (mem_l mem_r))), tow, c5ow⟩, ⟨(mem_l (mem_l mem_r)), tix, c5ix⟩, ⟨(mem_l mem_r), tbb, c5bb⟩, ⟨mem_r, tcpy, c5cpy⟩, fun k hk => absurd hk (Nat.not_lt_zero k), fun k hk => absurd hk (Nat.not_lt_zero k), fun R _ => Or.inl ⟨rfl, fun j _ => by unfold md; rw [if_neg (Nat.not_lt_zero _)]⟩⟩
  refine W.widen (k := 5) (n := 5176) (by omega) (by omega) ?_
  exact pg_vret hC.1 hw (⟨t3, ⟨mst, ow, ix, bb, cpy, _, _, _, _, _, hmg⟩, fun a ha => mem_l (mem_l (mem_l (mem_l (mem_l ha)))), kk9, nn9⟩) d_D_init_47
end
section
/-! signs: what the class does by shifts, the reference by a difference (pf_lI, pf_shr, lN_bv, lN_nat, lN_ti out of kit/laws/BITS.to-paste) -/
theorem pf_lI {a : Nat} (h : a < 2 ^ 63) : (lN a).toInt = (a : Int) := lg_ofNat_toInt h
theorem pf_shr {a d : Nat} {D : Int64} (hD : (D.toBitVec.smod 64).toNat = d) (h : a < 2 ^ 62) : lN a >>> D = lN (a / 2 ^ d) := by
  have hd : a / 2 ^ d ≤ a := Nat.div_le_self _ _
  apply Int64.toInt_inj.mp
  have e : (lN a >>> D).toInt = (lN a).toInt >>> d := by
    rw [← hD]
    exact BitVec.toInt_sshiftRight ..
  rw [e, Int.shiftRight_eq_div_pow, pf_lI (by omega), pf_lI (by omega)]
  rfl
theorem lN_bv (n : Nat) : (lN n).toBitVec = BitVec.ofNat 64 n := rfl
theorem lN_nat {n : Nat} (h : n < 2 ^ 64) : (lN n).toBitVec.toNat = n := by rw [lN_bv, BitVec.toNat_ofNat]; exact Nat.mod_eq_of_lt h
theorem lN_ti {m : Nat} (h : m < 2 ^ 64) : (lN m).toInt = if m < 2 ^ 63 then (m : Int) else (m : Int) - 2 ^ 64 := by
  have c := BitVec.toInt_eq_toNat_cond (lN m).toBitVec
  rw [lN_nat h] at c
  show (lN m).toBitVec.toInt = _
  rw [c]
  split <;> split <;> omega
theorem lN_sub_ti {V w : Nat} (hV : V < 2 ^ 40) (hw : w < 2 ^ 40) : (lN V - lN w).toInt = (V : Int) - w := by
  rw [Int64.toInt_sub, pf_lI (by omega), pf_lI (by omega)]
  exact Int.bmod_eq_of_le (by omega) (by omega)
theorem sg_1 {V : Nat} (hV : V < 256) : sgnV (lN V) 1 = if V < 128 then lN V else lN V - lN 256 := by
  show (lN V <<< ((nI 56).toInt64 &&& 63)) >>> ((nI 56).toInt64 &&& 63) = _
  rw [wb_shl _ (by decide)]
  apply Int64.toInt_inj.mp
  have e : (lN (V * 2 ^ 56) >>> ((nI 56).toInt64 &&& 63)).toInt = (lN (V * 2 ^ 56)).toInt >>> 56 := BitVec.toInt_sshiftRight ..
  rw [e, Int.shiftRight_eq_div_pow, lN_ti (by omega)]
  by_cases h : V < 128
  · rw [if_pos h, if_pos (by omega), pf_lI (by omega)]; omega
  · rw [if_neg h, if_neg (by omega), lN_sub_ti (by omega) (by decide)]; omega
theorem sg_2 {V : Nat} (hV : V < 65536) : sgnV (lN V) 2 = if V < 32768 then lN V else lN V - lN 65536 := by
  show (lN V <<< ((nI 48).toInt64 &&& 63)) >>> ((nI 48).toInt64 &&& 63) = _
  rw [wb_shl _ (by decide)]
  apply Int64.toInt_inj.mp
  have e : (lN (V * 2 ^ 48) >>> ((nI 48).toInt64 &&& 63)).toInt = (lN (V * 2 ^ 48)).toInt >>> 48 := BitVec.toInt_sshiftRight ..
  rw [e, Int.shiftRight_eq_div_pow, lN_ti (by omega)]
  by_cases h : V < 32768
  · rw [if_pos h, if_pos (by omega), pf_lI (by omega)]; omega
  · rw [if_neg h, if_neg (by omega), lN_sub_ti (by omega) (by decide)]; omega
theorem sg_4 {V : Nat} (hV : V < 4294967296) : sgnV (lN V) 4 = if V < 2147483648 then lN V else lN V - lN 4294967296 := by
  show (lN V <<< ((nI 32).toInt64 &&& 63)) >>> ((nI 32).toInt64 &&& 63) = _
  rw [wb_shl _ (by decide)]
  apply Int64.toInt_inj.mp
  have e : (lN (V * 2 ^ 32) >>> ((nI 32).toInt64 &&& 63)).toInt = (lN (V * 2 ^ 32)).toInt >>> 32 := BitVec.toInt_sshiftRight ..
  rw [e, Int.shiftRight_eq_div_pow, lN_ti (by omega)]
  by_cases h : V < 2147483648
  · rw [if_pos h, if_pos (by omega), pf_lI (by omega)]; omega
  · rw [if_neg h, if_neg (by omega), lN_sub_ti (by omega) (by decide)]; omega
/-- the kinds with a sign, and how many bytes they have -/
theorem kd_sg : ∀ kd, kd < 14 → (tLS kd = 1 ↔ (4 ≤ kd ∧ (40 + kd) % 2 = 0)) ∧ (tLS kd = 1 → szL kd = 1 ∨ szL kd = 2 ∨ szL kd = 4) ∧ (tLT kd = 4 ↔ (kd ≠ 1 ∧ kd ≠ 3 ∧ kd < 8)) := by decide +kernel
/-- the highest bit of nb bytes, as the reference asks for it -/
theorem top_bit {V nb : Nat} (hnb : nb = 1 ∨ nb = 2 ∨ nb = 4) (hV : V < 2 ^ (8 * nb)) : (lN V >>> ((8 * nI nb - 1).toInt64 &&& 63)) &&& 1 = if V < 2 ^ (8 * nb - 1) then lN 0 else lN 1 := by
  rcases hnb with rfl | rfl | rfl
  · rw [pf_shr (d := 7) (by decide) (by omega), wb_a1 (by omega)]
    by_cases h : V < 2 ^ 7
    · rw [if_pos h]; congr 1; omega
    · rw [if_neg h]; congr 1; omega
  · rw [pf_shr (d := 15) (by decide) (by omega), wb_a1 (by omega)]
    by_cases h : V < 2 ^ 15
    · rw [if_pos h]; congr 1; omega
    · rw [if_neg h]; congr 1; omega
  · rw [pf_shr (d := 31) (by decide) (by omega), wb_a1 (by omega)]
    by_cases h : V < 2 ^ 31
    · rw [if_pos h]; congr 1; omega
    · rw [if_neg h]; congr 1; omega
theorem sg_all {V nb : Nat} (hnb : nb = 1 ∨ nb = 2 ∨ nb = 4) (hV : V < 2 ^ (8 * nb)) : sgnV (lN V) nb = if V < 2 ^ (8 * nb - 1) then lN V else lN V - ((1 : Int64) <<< ((8 * nI nb).toInt64 &&& 63)) := by
  rcases hnb with rfl | rfl | rfl
  · rw [sg_1 hV]; rfl
  · rw [sg_2 hV]; rfl
  · rw [sg_4 hV]; rfl
theorem thereP_fr {fr : Int32} {nb c : Nat} (hnb : nb ≤ 65536) (hc : c ≤ 16) : thereP fr.toInt64 nb c ↔ (nb = 0 ∨ ∃ P, fr = nI P ∧ P + nb ≤ 65536 * c) := by
  constructor
  · rintro (h | ⟨h1, h2⟩)
    · exact Or.inl h
    · obtain ⟨P, hP, rfl⟩ := i64_pos h1
      rw [nI_toI64 P hP, lN_add, pk_lLE (by omega) (by omega)] at h2
      exact Or.inr ⟨P, rfl, h2⟩
  · rintro (h | ⟨P, rfl, h⟩)
    · exact Or.inl h
    · rw [nI_toI64 P (by omega)]
      exact Or.inr ⟨lN_nlt0 (by omega), by rw [lN_add, pk_lLE (by omega) (by omega)]; exact h⟩
theorem thereP_pl {p nb c : Nat} (hnb : 0 < nb ∧ nb ≤ 65536) (hc : c ≤ 16) (hp : p < 2 ^ 40) : thereP (lN p) nb c ↔ p + nb ≤ 65536 * c := by
  constructor
  · rintro (h | ⟨-, h2⟩)
    · omega
    · rw [lN_add, pk_lLE (by omega) (by omega)] at h2; exact h2
  · intro h
    exact Or.inr ⟨lN_nlt0 (by omega), by rw [lN_add, pk_lLE (by omega) (by omega)]; exact h⟩
/-- the byte i of a long, as the reference cuts it out -/
theorem byte_s (x : Int64) {i : Nat} (hi : i < 8) : ((x >>> ((8 * nI i).toInt64 &&& 63)) &&& 255).toInt32 = nI (uL x / 2 ^ (8 * i) % 256) := by
  have e8 : (8 : Int32) * nI i = nI (8 * i) := pk_mul 8 i
  have key : (x >>> ((8 * nI i).toInt64 &&& 63)) &&& 255 = lN (uL x / 2 ^ (8 * i) % 256) := by
    rw [e8, wb_c _ (by omega)]
    apply Int64.toBitVec_inj.mp
    rw [Int64.toBitVec_and]
    show (x.toBitVec.sshiftRight ((lN (8 * i)).toBitVec.smod 64).toNat) &&& 255#64 = BitVec.ofNat 64 (x.toBitVec.toNat / 2 ^ (8 * i) % 256)
    have hs : ((lN (8 * i)).toBitVec.smod 64).toNat = 8 * i := by
      rw [lN_bv, wb_sm _ (by omega), BitVec.toNat_ofNat]
      omega
    rw [hs]
    apply BitVec.eq_of_getLsbD_eq
    intro j hj
    have h255 : (255#64).getLsbD j = decide (j < 8) := (by decide +kernel : ∀ j, j < 64 → (255#64).getLsbD j = decide (j < 8)) j hj
    rw [BitVec.getLsbD_and, h255, BitVec.getLsbD_sshiftRight, BitVec.getLsbD_ofNat, show (256 : Nat) = 2 ^ 8 from rfl, Nat.testBit_mod_two_pow, Nat.testBit_div_two_pow]
    by_cases q : j < 8
    · simp [q, hj, BitVec.getLsbD, show 8 * i + j < 64 by omega, Nat.add_comm, show ¬ 64 ≤ j by omega]
      intro h
      omega
    · simp [q]
  rw [key, lN_i]
end
section
/-! The reference: sum, store -/
theorem stOK_mem {n : Nat} {mo : Nat → Int32} {om : Nat → Nat} {al : Nat} {bs : Nat → Nat → Nat} (hs : stOK n mo om al bs) {k : Nat} {b : Nat → Nat} (h1 : ∀ j, 65536 * cnt om al k ≤ j → b j = 0) (h2 : ∀ j, b j < 256) : stOK n mo om al (va_up bs k b) := by
  obtain ⟨a1, a2, a3, a4, a5, a6⟩ := hs
  refine ⟨a1, a2, a3, a4, fun k2 j hj => ?_, fun k2 j => ?_⟩
  · by_cases q : k2 = k
    · subst q; rw [va_up_self]; exact h1 j hj
    · rw [va_up_ne _ _ q]; exact a5 k2 j hj
  · by_cases q : k2 = k
    · subst q; rw [va_up_self]; exact h2 j
    · rw [va_up_ne _ _ q]; exact a6 k2 j
theorem putN_ok {bs : Nat → Nat} {P V c : Nat} (h1 : ∀ j, c ≤ j → bs j = 0) (h2 : ∀ j, bs j < 256) : ∀ i, P + i ≤ c → (∀ j, c ≤ j → putN bs P V i j = 0) ∧ ∀ j, putN bs P V i j < 256
  | 0, _ => ⟨h1, h2⟩
  | i + 1, h => by
    obtain ⟨g1, g2⟩ := putN_ok (P := P) (V := V) h1 h2 i (by omega)
    refine ⟨fun j hj => ?_, fun j => ?_⟩
    · show va_up (putN bs P V i) (P + i) _ j = 0
      rw [va_up_ne _ _ (by omega)]; exact g1 j hj
    · show va_up (putN bs P V i) (P + i) _ j < 256
      by_cases q : j = P + i
      · rw [q, va_up_self]; omega
      · rw [va_up_ne _ _ q]; exact g2 j
theorem cpN_s (bs : Nat → Nat) (P i : Nat) (src : Nat → Nat) : va_up (cpN bs P i src) (P + i) (src i) = cpN bs P (i + 1) src := by
  funext j
  by_cases q : j = P + i
  · rw [q, va_up_self, cpN_in (by omega)]
    congr 1; omega
  · rw [va_up_ne _ _ q]
    by_cases q2 : P ≤ j ∧ j < P + i
    · rw [cpN_in q2, cpN_in (by omega)]
    · rw [cpN_out q2, cpN_out (by omega)]
theorem cpN_ok {bs src : Nat → Nat} {P c : Nat} (h1 : ∀ j, c ≤ j → bs j = 0) (h2 : ∀ j, bs j < 256) (h3 : ∀ j, src j < 256) (i : Nat) (h : P + i ≤ c) : (∀ j, c ≤ j → cpN bs P i src j = 0) ∧ ∀ j, cpN bs P i src j < 256 :=
  ⟨fun j hj => by rw [cpN_out (by omega)]; exact h1 j hj, fun j => cpN_lt h2 (fun z _ => h3 z) j⟩
theorem upk {bs : Nat → Nat → Nat} {k p v : Nat} {b : Nat → Nat} : va_up (va_up bs k b) k (va_up ((va_up bs k b) k) p v) = va_up bs k (va_up b p v) := by rw [bx_uu, va_up_self]
set_option maxHeartbeats 4000000 in
set_option maxRecDepth 100000 in
theorem lp_dsum {p : Program} {l : Launch} {e : Env} {R : Room} {s : State} {m : MethodId} {args : Array Value} {below : List Frame} {meth : Method} {c : Code} {Q : State → Prop} {A : Nat → Prop} {D : va_G} {kc : Nat → ClassId} {c0 : Cond} {ret : Option FieldType} {L : List Nat} {f : Nat → va_E} {d mst ow ix bb cpy : Nat} {gb : Nat → Option Nat} {hm9 ho9 hi9 hc9 : Nat → Int32} {tg : Nat → Nat × Nat} {nm : Nat} {mo : Nat → Int32} {om : Nat → Nat} {al : Nat} {bs : Nat → Nat → Nat} (hg : modG kc L f tg d mst ow ix bb cpy gb hm9 ho9 hi9 hc9 0 nm mo om al bs) (hs : stOK nm mo om al bs) {cells slots : Nat} (hcs : cells ≤ R.cells ∧ slots ≤ R.slots) (k : Nat) (hk : k < nm) (P nb : Nat) (hP : P + nb ≤ 65536 * cnt om al k) (hnb : nb ≤ 65536) (hC : Kx p m c b_D_sum 6 s args c0 R_D meth ret D kc A) (hRf : 2 ≤ R.frames) (hRl : 50 ≤ R.locals)
    (kont : ∀ (H : Heap) (locs : List Loc) (ls : Array Slot), pw D Cls A s.heap H locs L f → lv_has ls 6 [(4, .int (wsum (bs k) P (nI nb) nb))] → W p l e R s m args below meth c H locs cells slots Q (F0 m 88 ls [])) :
    ∀ (n : Nat) (i : Nat) (H : Heap) (locs : List Loc) (ls : Array Slot), i ≤ nb → nb + 1 ≤ i + n → pw D Cls A s.heap H locs L f → lv_has ls 6 [(5, .int (nI i)), (4, .int (wsum (bs k) P (nI nb) i)), (0, .ref d), (1, .int (nI k)), (2, .int (nI P)), (3, .int (nI nb))] → W p l e R s m args below meth c H locs cells slots Q (F0 m 48 ls []) := by
  obtain ⟨⟨⟨hx, hb, hml, hown, hts⟩, hret9, hlocks⟩, hK, hE, hA⟩ := id hC
  intro n
  induction n with
  | zero => intro i H locs ls hi hin hw hl; exact absurd hin (by omega)
  | succ n ih =>
    intro i H locs ls hi hin hw hl
    obtain ⟨⟨hdL, htd, hfd⟩, ⟨hmL, htm, hfm⟩, ⟨hoL, hto, hfo⟩, ⟨hiL, hti, hfi⟩, ⟨hbL, htb, hfb⟩, ⟨hcL, htc, hfc⟩, hk1, hk2, hk3⟩ := id hg
    obtain ⟨hs1, hs2, hs3, hs4, hs5, hs6⟩ := id hs
    have hcl := cnt_le om k al
    refine lv_iload hx hb d_D_sum_48 (lv_at hl 0 rfl) ?_
    refine lv_iload_n hx hb d_D_sum_50 rfl (lv_at hl 5 rfl) ?_
    refine lv_icmp_ge (tgt := 88) hx hb d_D_sum_51 (by decide) (fun c1 => ?_) (fun c1 => ?_)
    · have e : i = nb := by
        rcases Nat.lt_or_ge i nb with q | q
        · exact absurd c1 (nI_ge q (by omega))
        · omega
      subst e
      exact kont H locs ls hw (lv_sub hl [1] rfl)
    · have hlt : i < nb := by
        rcases Nat.lt_or_ge i nb with q | q
        · exact q
        · exact absurd (nI_le q (by omega)) c1
      refine lv_aload_n hx hb d_D_sum_54 rfl (lv_at hl 2 rfl) ?_
      refine get_D hC hw hdL hfd 0 (by decide) k_fl_D_28 rfl d_D_sum_55 ?_
      refine lv_if_ne (tgt := 88) hx hb d_D_sum_58 (by decide) (fun c2 => (c2 rfl).elim) (fun c2 => ?_)
      refine lv_iload hx hb d_D_sum_61 (lv_at hl 1 rfl) ?_
      refine lv_aload_n hx hb d_D_sum_63 rfl (lv_at hl 2 rfl) ?_
      refine lv_iload_n hx hb d_D_sum_64 rfl (lv_at hl 3 rfl) ?_
      refine lv_iload_n hx hb d_D_sum_65 rfl (lv_at hl 4 rfl) ?_
      refine lv_i2l hx hb d_D_sum_66 rfl ?_
      refine tp_l (v := lN P) (nI_toI64 _ (by omega)) ?_
      refine lv_iload hx hb d_D_sum_67 (lv_at hl 0 rfl) ?_
      refine lv_i2l hx hb d_D_sum_69 rfl ?_
      refine tp_l (v := lN i) (nI_toI64 _ (by omega)) ?_
      refine lv_ladd hx hb d_D_sum_70 ?_
      refine tp_l (v := lN (P + i)) (lN_add _ _) ?_
      refine callVi (As := [.int (nI k), .long (lN (P + i))]) (n9 := 2) hC hw (c_D_get l D kc _ _ _ d mst ow ix bb cpy gb hm9 ho9 hi9 hc9 tg 0 nm mo om al bs hg hs k hk (P + i) (by omega)) k_co_D_get k_ml_D_80 k_im_D_get k_se_D_get k_in_D rfl rfl (by decide +kernel) rfl ⟨Nat.le_trans (Nat.le_of_ble_eq_true rfl) hRf, Nat.le_trans (Nat.le_of_ble_eq_true rfl) hRl⟩ hdL hfd rfl hl.1 rfl (Nat.le_of_ble_eq_true rfl) d_D_sum_71 ⟨hcs.1, hcs.2⟩ (fun r9 u H locs hp hw => ?_)
      obtain ⟨rfl, rfl⟩ := hp
      refine lv_iload_n hx hb d_D_sum_74 rfl (lv_at hl 5 rfl) ?_
      refine lv_iload hx hb d_D_sum_75 (lv_at hl 0 rfl) ?_
      refine lv_isub hx hb d_D_sum_77 ?_
      refine lv_imul hx hb d_D_sum_78 ?_
      refine lv_iadd hx hb d_D_sum_79 ?_
      refine lv_istore (lv' := [(4, .int ((wsum (bs k) P (nI nb) i) + ((nI (bs k (P + i))) * ((nI nb) - (nI i))))), (5, .int (nI i)), (0, .ref d), (1, .int (nI k)), (2, .int (nI P)), (3, .int (nI nb))]) hx hb d_D_sum_80 hl (by decide) rfl (fun ls hl => ?_)
      refine lv_iinc (v := nI (i + 1)) (lv' := [(5, .int (nI (i + 1))), (4, .int ((wsum (bs k) P (nI nb) i) + ((nI (bs k (P + i))) * ((nI nb) - (nI i))))), (0, .ref d), (1, .int (nI k)), (2, .int (nI P)), (3, .int (nI nb))]) hx hb d_D_sum_82 hl (k := 1) rfl (nI_1 i) (by decide) rfl (fun ls hl => ?_)
      refine lv_goto (tgt := 48) hx hb d_D_sum_85 (by decide) ?_
      exact ih (i + 1) _ _ _ (by omega) (by omega) hw (lv_sub hl [0, 1, 2, 3, 4, 5] rfl)
set_option maxHeartbeats 4000000 in
set_option maxRecDepth 100000 in
theorem c_D_sum (l : Launch) (D : va_G) (kc : Nat → ClassId) (L : List Nat) (f : Nat → va_E) (sz : Nat) (d mst ow ix bb cpy : Nat) (gb : Nat → Option Nat) (hm9 ho9 hi9 hc9 : Nat → Int32) (tg : Nat → Nat × Nat) (th : Int32) (nm : Nat) (mo : Nat → Int32) (om : Nat → Nat) (al : Nat) (bs : Nat → Nat → Nat) (hg : modG kc L f tg d mst ow ix bb cpy gb hm9 ho9 hi9 hc9 th nm mo om al bs) (hs : stOK nm mo om al bs) (mm fr cn : Int32) : Met l y_D_sum w_D_sum ({ frames := 2, cells := 0, slots := 0, locals := 50 }) (PP D kc L f sz [.ref d, .int mm, .int fr, .int cn]) (Qi D L f sz (fun r u => ∃ t9 tg', modP kc u.1 u.2 tg' d t9 nm mo om al bs ∧ Ext SD L f tg u tg' ∧ ((t9 = 1 ∧ ¬ ((∃ k, k < nm ∧ mm = nI k) ∧ ¬ cn < 0 ∧ cn ≤ 65536)) ∨ (t9 = 2 ∧ ∃ k, k < nm ∧ mm = nI k ∧ ∃ nb, nb ≤ 65536 ∧ cn = nI nb ∧ 0 < nb ∧ ¬ (∃ P, fr = nI P ∧ P + nb ≤ 65536 * cnt om al k)) ∨ (t9 = 0 ∧ ∃ k, k < nm ∧ mm = nI k ∧ ∃ nb, nb ≤ 65536 ∧ cn = nI nb ∧ ((nb = 0 ∧ r = 0) ∨ (0 < nb ∧ ∃ P, fr = nI P ∧ P + nb ≤ 65536 * cnt om al k ∧ r = wsum (bs k) P (nI nb) nb)))))) 0 0 (pA L f sz) := by
  refine kx_met (by decide) (Nat.le_of_ble_eq_true rfl) ?_
  intro p e s m below meth c hC hnm hw hsz ls hl
  subst hsz
  have hl : lv_has ls 6 [(0, .ref d), (1, .int mm), (2, .int fr), (3, .int cn)] := hl
  obtain ⟨⟨⟨hx, hb, hml, hown, hts⟩, hret9, hlocks⟩, hK, hE, hA⟩ := id hC
  obtain ⟨⟨hdL, htd, hfd⟩, ⟨hmL, htm, hfm⟩, ⟨hoL, hto, hfo⟩, ⟨hiL, hti, hfi⟩, ⟨hbL, htb, hfb⟩, ⟨hcL, htc, hfc⟩, hk1, hk2, hk3⟩ := id hg
  obtain ⟨hs1, hs2, hs3, hs4, hs5, hs6⟩ := id hs
  refine lv_aload_n hx hb d_D_sum_0 rfl (lv_at hl 0 rfl) ?_
  refine lv_aload_n hx hb d_D_sum_1 rfl (lv_at hl 0 rfl) ?_
  refine lv_iload_n hx hb d_D_sum_2 rfl (lv_at hl 1 rfl) ?_
  refine callVi (As := [.int mm]) (n9 := 1) hC hw (c_D_isMemory l D kc _ _ _ d mst ow ix bb cpy gb hm9 ho9 hi9 hc9 tg th nm mo om al bs hg hs mm) k_co_D_isMemory k_ml_D_51 k_im_D_isMemory k_se_D_isMemory k_in_D rfl rfl (by decide +kernel) rfl ⟨Nat.le_of_ble_eq_true rfl, Nat.le_of_ble_eq_true rfl⟩ hdL hfd rfl hl.1 rfl (Nat.le_of_ble_eq_true rfl) d_D_sum_3 ⟨Nat.le_of_ble_eq_true rfl, Nat.le_of_ble_eq_true rfl⟩ (fun r9 u H locs hp hw => ?_)
  obtain ⟨hp, rfl⟩ := hp
  rcases hp with ⟨rfl, k, hkn, rfl⟩ | ⟨rfl, hno⟩
  · refine lv_if_eq (tgt := 19) hx hb d_D_sum_6 (by decide) (fun c0 => ((by decide : ¬ (1 : Int32) = 0) c0).elim) (fun c0 => ?_)
    have hcl := cnt_le om k al
    refine lv_iload_n hx hb d_D_sum_9 rfl (lv_at hl 3 rfl) ?_
    refine lv_if_lt (tgt := 19) hx hb d_D_sum_10 (by decide) (fun c1 => ?_) (fun c1 => ?_)
    · refine lv_iconst (v := 1) hx hb d_D_sum_19 (by decide) ?_
      refine lv_goto (tgt := 39) hx hb d_D_sum_20 (by decide) ?_
      refine put_D hC hw hdL hfd 0 (by decide) k_fl_D_28 rfl rfl rfl (Nat.le_of_ble_eq_true rfl) d_D_sum_39 (fun H locs hw => ?_)
      obtain ⟨f1, hf1⟩ : ∃ F, F = va_up f d (.inr (3, [.int 1, .int (nI nm), .ref mst, .int (nI al), .ref ow, .ref ix, .ref bb, .ref cpy])) := ⟨_, rfl⟩
      have hw := pw_as (f' := f1) hw rfl hf1.symm
      obtain ⟨hg1, he1⟩ := mod_th hg 1
      rw [← hf1] at hg1 he1
      obtain ⟨⟨hdL1, htd1, hfd1⟩, ⟨hmL1, htm1, hfm1⟩, ⟨hoL1, hto1, hfo1⟩, ⟨hiL1, hti1, hfi1⟩, ⟨hbL1, htb1, hfb1⟩, ⟨hcL1, htc1, hfc1⟩, hk11, hk21, hk31⟩ := id hg1
      refine lv_iconst (v := 0) hx hb d_D_sum_42 (by decide) ?_
      refine lv_istore (lv' := [(4, .int 0), (0, .ref d), (1, .int (nI k)), (2, .int fr), (3, .int cn)]) hx hb d_D_sum_43 hl (by decide) rfl (fun ls hl => ?_)
      refine lv_iconst (v := 0) hx hb d_D_sum_45 (by decide) ?_
      refine lv_istore (lv' := [(5, .int 0), (4, .int 0), (0, .ref d), (1, .int (nI k)), (2, .int fr), (3, .int cn)]) hx hb d_D_sum_46 hl (by decide) rfl (fun ls hl => ?_)
      refine lv_iload hx hb d_D_sum_48 (lv_at hl 0 rfl) ?_
      refine lv_iload_n hx hb d_D_sum_50 rfl (lv_at hl 5 rfl) ?_
      refine lv_icmp_ge (tgt := 88) hx hb d_D_sum_51 (by decide) (fun cz => ?_) (fun cz => ?_)
      · refine lv_iload hx hb d_D_sum_88 (lv_at hl 1 rfl) ?_
        exact pg_iret hC.1 hw (⟨1, tg, ⟨mst, ow, ix, bb, cpy, gb, hm9, ho9, hi9, hc9, hg1⟩, he1, Or.inl ⟨rfl, fun h => h.2.1 c1⟩⟩) d_D_sum_90
      · refine lv_aload_n hx hb d_D_sum_54 rfl (lv_at hl 2 rfl) ?_
        refine get_D hC hw hdL1 hfd1 0 (by decide) k_fl_D_28 rfl d_D_sum_55 ?_
        refine lv_if_ne (tgt := 88) hx hb d_D_sum_58 (by decide) (fun cy => ?_) (fun cy => ((by decide : ¬ (1 : Int32) = 0) cy).elim)
        refine lv_iload hx hb d_D_sum_88 (lv_at hl 1 rfl) ?_
        exact pg_iret hC.1 hw (⟨1, tg, ⟨mst, ow, ix, bb, cpy, gb, hm9, ho9, hi9, hc9, hg1⟩, he1, Or.inl ⟨rfl, fun h => h.2.1 c1⟩⟩) d_D_sum_90
    · refine lv_iload_n hx hb d_D_sum_13 rfl (lv_at hl 3 rfl) ?_
      refine lv_ldc (v := 65536) hx hb hown (hts _ (gg_mem k_cn_D_46)) d_D_sum_14 ?_
      refine lv_icmp_le (tgt := 23) hx hb d_D_sum_16 (by decide) (fun c2 => ?_) (fun c2 => ?_)
      · obtain ⟨nb, hnb, rfl⟩ : ∃ j, j ≤ 65536 ∧ cn = nI j := nI_of2 (M := 65536) (n := 65536) (by decide) c1 c2
        refine lv_aload_n hx hb d_D_sum_23 rfl (lv_at hl 0 rfl) ?_
        refine lv_iload_n hx hb d_D_sum_24 rfl (lv_at hl 1 rfl) ?_
        refine lv_iload_n hx hb d_D_sum_25 rfl (lv_at hl 2 rfl) ?_
        refine lv_i2l hx hb d_D_sum_26 rfl ?_
        refine lv_iload_n hx hb d_D_sum_27 rfl (lv_at hl 3 rfl) ?_
        refine callVi (As := [.int (nI k), .long fr.toInt64, .int (nI nb)]) (n9 := 3) hC hw (c_D_isThere l D kc _ _ _ d mst ow ix bb cpy gb hm9 ho9 hi9 hc9 tg th nm mo om al bs hg hs k hkn fr.toInt64 nb hnb) k_co_D_isThere k_ml_D_76 k_im_D_isThere k_se_D_isThere k_in_D rfl rfl (by decide +kernel) rfl ⟨Nat.le_of_ble_eq_true rfl, Nat.le_of_ble_eq_true rfl⟩ hdL hfd rfl hl.1 rfl (Nat.le_of_ble_eq_true rfl) d_D_sum_28 ⟨Nat.le_of_ble_eq_true rfl, Nat.le_of_ble_eq_true rfl⟩ (fun r9 u H locs hp hw => ?_)
        obtain ⟨hp, rfl⟩ := hp
        rw [thereP_fr hnb (by omega)] at hp
        rcases hp with ⟨rfl, hth⟩ | ⟨rfl, hth⟩
        · refine lv_if_ne (tgt := 38) hx hb d_D_sum_31 (by decide) (fun c3 => ?_) (fun c3 => ((by decide : ¬ (1 : Int32) = 0) c3).elim)
          refine lv_iconst (v := 0) hx hb d_D_sum_38 (by decide) ?_
          refine put_D hC hw hdL hfd 0 (by decide) k_fl_D_28 rfl rfl rfl (Nat.le_of_ble_eq_true rfl) d_D_sum_39 (fun H locs hw => ?_)
          obtain ⟨f1, hf1⟩ : ∃ F, F = va_up f d (.inr (3, [.int 0, .int (nI nm), .ref mst, .int (nI al), .ref ow, .ref ix, .ref bb, .ref cpy])) := ⟨_, rfl⟩
          have hw := pw_as (f' := f1) hw rfl hf1.symm
          obtain ⟨hg1, he1⟩ := mod_th hg 0
          rw [← hf1] at hg1 he1
          obtain ⟨⟨hdL1, htd1, hfd1⟩, ⟨hmL1, htm1, hfm1⟩, ⟨hoL1, hto1, hfo1⟩, ⟨hiL1, hti1, hfi1⟩, ⟨hbL1, htb1, hfb1⟩, ⟨hcL1, htc1, hfc1⟩, hk11, hk21, hk31⟩ := id hg1
          refine lv_iconst (v := 0) hx hb d_D_sum_42 (by decide) ?_
          refine lv_istore (lv' := [(4, .int 0), (0, .ref d), (1, .int (nI k)), (2, .int fr), (3, .int (nI nb))]) hx hb d_D_sum_43 hl (by decide) rfl (fun ls hl => ?_)
          refine lv_iconst (v := 0) hx hb d_D_sum_45 (by decide) ?_
          refine lv_istore (lv' := [(5, .int 0), (4, .int 0), (0, .ref d), (1, .int (nI k)), (2, .int fr), (3, .int (nI nb))]) hx hb d_D_sum_46 hl (by decide) rfl (fun ls hl => ?_)
          rcases Nat.eq_zero_or_pos nb with hz | hnz
          · subst hz
            refine lv_iload hx hb d_D_sum_48 (lv_at hl 0 rfl) ?_
            refine lv_iload_n hx hb d_D_sum_50 rfl (lv_at hl 5 rfl) ?_
            refine lv_icmp_ge (tgt := 88) hx hb d_D_sum_51 (by decide) (fun cz => ?_) (fun cz => (cz (by decide)).elim)
            refine lv_iload hx hb d_D_sum_88 (lv_at hl 1 rfl) ?_
            exact pg_iret hC.1 hw (⟨0, tg, ⟨mst, ow, ix, bb, cpy, gb, hm9, ho9, hi9, hc9, hg1⟩, he1, Or.inr (Or.inr ⟨rfl, k, hkn, rfl, 0, by decide, rfl, Or.inl ⟨rfl, rfl⟩⟩)⟩) d_D_sum_90
          · obtain ⟨P, rfl, hP⟩ : ∃ P, fr = nI P ∧ P + nb ≤ 65536 * cnt om al k := hth.elim (fun e => absurd e (by omega)) id
            refine lp_dsum hg1 hs ⟨Nat.zero_le _, Nat.zero_le _⟩ k hkn P nb hP hnb hC (Nat.le_of_ble_eq_true rfl) (Nat.le_of_ble_eq_true rfl) (fun H locs ls hw hl => ?_) (nb + 1) 0 _ _ _ (Nat.zero_le _) (by omega) hw (lv_sub hl [0, 1, 2, 3, 4, 5] rfl)
            refine lv_iload hx hb d_D_sum_88 (lv_at hl 0 rfl) ?_
            exact pg_iret hC.1 hw (⟨0, tg, ⟨mst, ow, ix, bb, cpy, gb, hm9, ho9, hi9, hc9, hg1⟩, he1, Or.inr (Or.inr ⟨rfl, k, hkn, rfl, nb, hnb, rfl, Or.inr ⟨hnz, P, rfl, hP, rfl⟩⟩)⟩) d_D_sum_90
        · refine lv_if_ne (tgt := 38) hx hb d_D_sum_31 (by decide) (fun c3 => (c3 rfl).elim) (fun c3 => ?_)
          refine lv_iconst (v := 2) hx hb d_D_sum_34 (by decide) ?_
          refine lv_goto (tgt := 39) hx hb d_D_sum_35 (by decide) ?_
          refine put_D hC hw hdL hfd 0 (by decide) k_fl_D_28 rfl rfl rfl (Nat.le_of_ble_eq_true rfl) d_D_sum_39 (fun H locs hw => ?_)
          obtain ⟨f1, hf1⟩ : ∃ F, F = va_up f d (.inr (3, [.int 2, .int (nI nm), .ref mst, .int (nI al), .ref ow, .ref ix, .ref bb, .ref cpy])) := ⟨_, rfl⟩
          have hw := pw_as (f' := f1) hw rfl hf1.symm
          obtain ⟨hg1, he1⟩ := mod_th hg 2
          rw [← hf1] at hg1 he1
          obtain ⟨⟨hdL1, htd1, hfd1⟩, ⟨hmL1, htm1, hfm1⟩, ⟨hoL1, hto1, hfo1⟩, ⟨hiL1, hti1, hfi1⟩, ⟨hbL1, htb1, hfb1⟩, ⟨hcL1, htc1, hfc1⟩, hk11, hk21, hk31⟩ := id hg1
          refine lv_iconst (v := 0) hx hb d_D_sum_42 (by decide) ?_
          refine lv_istore (lv' := [(4, .int 0), (0, .ref d), (1, .int (nI k)), (2, .int fr), (3, .int (nI nb))]) hx hb d_D_sum_43 hl (by decide) rfl (fun ls hl => ?_)
          refine lv_iconst (v := 0) hx hb d_D_sum_45 (by decide) ?_
          refine lv_istore (lv' := [(5, .int 0), (4, .int 0), (0, .ref d), (1, .int (nI k)), (2, .int fr), (3, .int (nI nb))]) hx hb d_D_sum_46 hl (by decide) rfl (fun ls hl => ?_)
          refine lv_iload hx hb d_D_sum_48 (lv_at hl 0 rfl) ?_
          refine lv_iload_n hx hb d_D_sum_50 rfl (lv_at hl 5 rfl) ?_
          refine lv_icmp_ge (tgt := 88) hx hb d_D_sum_51 (by decide) (fun cz => ?_) (fun cz => ?_)
          · refine lv_iload hx hb d_D_sum_88 (lv_at hl 1 rfl) ?_
            exact pg_iret hC.1 hw (⟨2, tg, ⟨mst, ow, ix, bb, cpy, gb, hm9, ho9, hi9, hc9, hg1⟩, he1, Or.inr (Or.inl ⟨rfl, k, hkn, rfl, nb, hnb, rfl, Nat.pos_of_ne_zero (fun e => hth (Or.inl e)), fun h => hth (Or.inr h)⟩)⟩) d_D_sum_90
          · refine lv_aload_n hx hb d_D_sum_54 rfl (lv_at hl 2 rfl) ?_
            refine get_D hC hw hdL1 hfd1 0 (by decide) k_fl_D_28 rfl d_D_sum_55 ?_
            refine lv_if_ne (tgt := 88) hx hb d_D_sum_58 (by decide) (fun cy => ?_) (fun cy => ((by decide : ¬ (2 : Int32) = 0) cy).elim)
            refine lv_iload hx hb d_D_sum_88 (lv_at hl 1 rfl) ?_
            exact pg_iret hC.1 hw (⟨2, tg, ⟨mst, ow, ix, bb, cpy, gb, hm9, ho9, hi9, hc9, hg1⟩, he1, Or.inr (Or.inl ⟨rfl, k, hkn, rfl, nb, hnb, rfl, Nat.pos_of_ne_zero (fun e => hth (Or.inl e)), fun h => hth (Or.inr h)⟩)⟩) d_D_sum_90
      · refine lv_iconst (v := 1) hx hb d_D_sum_19 (by decide) ?_
        refine lv_goto (tgt := 39) hx hb d_D_sum_20 (by decide) ?_
        refine put_D hC hw hdL hfd 0 (by decide) k_fl_D_28 rfl rfl rfl (Nat.le_of_ble_eq_true rfl) d_D_sum_39 (fun H locs hw => ?_)
        obtain ⟨f1, hf1⟩ : ∃ F, F = va_up f d (.inr (3, [.int 1, .int (nI nm), .ref mst, .int (nI al), .ref ow, .ref ix, .ref bb, .ref cpy])) := ⟨_, rfl⟩
        have hw := pw_as (f' := f1) hw rfl hf1.symm
        obtain ⟨hg1, he1⟩ := mod_th hg 1
        rw [← hf1] at hg1 he1
        obtain ⟨⟨hdL1, htd1, hfd1⟩, ⟨hmL1, htm1, hfm1⟩, ⟨hoL1, hto1, hfo1⟩, ⟨hiL1, hti1, hfi1⟩, ⟨hbL1, htb1, hfb1⟩, ⟨hcL1, htc1, hfc1⟩, hk11, hk21, hk31⟩ := id hg1
        refine lv_iconst (v := 0) hx hb d_D_sum_42 (by decide) ?_
        refine lv_istore (lv' := [(4, .int 0), (0, .ref d), (1, .int (nI k)), (2, .int fr), (3, .int cn)]) hx hb d_D_sum_43 hl (by decide) rfl (fun ls hl => ?_)
        refine lv_iconst (v := 0) hx hb d_D_sum_45 (by decide) ?_
        refine lv_istore (lv' := [(5, .int 0), (4, .int 0), (0, .ref d), (1, .int (nI k)), (2, .int fr), (3, .int cn)]) hx hb d_D_sum_46 hl (by decide) rfl (fun ls hl => ?_)
        refine lv_iload hx hb d_D_sum_48 (lv_at hl 0 rfl) ?_
        refine lv_iload_n hx hb d_D_sum_50 rfl (lv_at hl 5 rfl) ?_
        refine lv_icmp_ge (tgt := 88) hx hb d_D_sum_51 (by decide) (fun cz => ?_) (fun cz => ?_)
        · refine lv_iload hx hb d_D_sum_88 (lv_at hl 1 rfl) ?_
          exact pg_iret hC.1 hw (⟨1, tg, ⟨mst, ow, ix, bb, cpy, gb, hm9, ho9, hi9, hc9, hg1⟩, he1, Or.inl ⟨rfl, fun h => c2 h.2.2⟩⟩) d_D_sum_90
        · refine lv_aload_n hx hb d_D_sum_54 rfl (lv_at hl 2 rfl) ?_
          refine get_D hC hw hdL1 hfd1 0 (by decide) k_fl_D_28 rfl d_D_sum_55 ?_
          refine lv_if_ne (tgt := 88) hx hb d_D_sum_58 (by decide) (fun cy => ?_) (fun cy => ((by decide : ¬ (1 : Int32) = 0) cy).elim)
          refine lv_iload hx hb d_D_sum_88 (lv_at hl 1 rfl) ?_
          exact pg_iret hC.1 hw (⟨1, tg, ⟨mst, ow, ix, bb, cpy, gb, hm9, ho9, hi9, hc9, hg1⟩, he1, Or.inl ⟨rfl, fun h => c2 h.2.2⟩⟩) d_D_sum_90
  · refine lv_if_eq (tgt := 19) hx hb d_D_sum_6 (by decide) (fun c0 => ?_) (fun c0 => (c0 rfl).elim)
    refine lv_iconst (v := 1) hx hb d_D_sum_19 (by decide) ?_
    refine lv_goto (tgt := 39) hx hb d_D_sum_20 (by decide) ?_
    refine put_D hC hw hdL hfd 0 (by decide) k_fl_D_28 rfl rfl rfl (Nat.le_of_ble_eq_true rfl) d_D_sum_39 (fun H locs hw => ?_)
    obtain ⟨f1, hf1⟩ : ∃ F, F = va_up f d (.inr (3, [.int 1, .int (nI nm), .ref mst, .int (nI al), .ref ow, .ref ix, .ref bb, .ref cpy])) := ⟨_, rfl⟩
    have hw := pw_as (f' := f1) hw rfl hf1.symm
    obtain ⟨hg1, he1⟩ := mod_th hg 1
    rw [← hf1] at hg1 he1
    obtain ⟨⟨hdL1, htd1, hfd1⟩, ⟨hmL1, htm1, hfm1⟩, ⟨hoL1, hto1, hfo1⟩, ⟨hiL1, hti1, hfi1⟩, ⟨hbL1, htb1, hfb1⟩, ⟨hcL1, htc1, hfc1⟩, hk11, hk21, hk31⟩ := id hg1
    refine lv_iconst (v := 0) hx hb d_D_sum_42 (by decide) ?_
    refine lv_istore (lv' := [(4, .int 0), (0, .ref d), (1, .int mm), (2, .int fr), (3, .int cn)]) hx hb d_D_sum_43 hl (by decide) rfl (fun ls hl => ?_)
    refine lv_iconst (v := 0) hx hb d_D_sum_45 (by decide) ?_
    refine lv_istore (lv' := [(5, .int 0), (4, .int 0), (0, .ref d), (1, .int mm), (2, .int fr), (3, .int cn)]) hx hb d_D_sum_46 hl (by decide) rfl (fun ls hl => ?_)
    refine lv_iload hx hb d_D_sum_48 (lv_at hl 0 rfl) ?_
    refine lv_iload_n hx hb d_D_sum_50 rfl (lv_at hl 5 rfl) ?_
    refine lv_icmp_ge (tgt := 88) hx hb d_D_sum_51 (by decide) (fun cz => ?_) (fun cz => ?_)
    · refine lv_iload hx hb d_D_sum_88 (lv_at hl 1 rfl) ?_
      exact pg_iret hC.1 hw (⟨1, tg, ⟨mst, ow, ix, bb, cpy, gb, hm9, ho9, hi9, hc9, hg1⟩, he1, Or.inl ⟨rfl, fun h => hno h.1⟩⟩) d_D_sum_90
    · refine lv_aload_n hx hb d_D_sum_54 rfl (lv_at hl 2 rfl) ?_
      refine get_D hC hw hdL1 hfd1 0 (by decide) k_fl_D_28 rfl d_D_sum_55 ?_
      refine lv_if_ne (tgt := 88) hx hb d_D_sum_58 (by decide) (fun cy => ?_) (fun cy => ((by decide : ¬ (1 : Int32) = 0) cy).elim)
      refine lv_iload hx hb d_D_sum_88 (lv_at hl 1 rfl) ?_
      exact pg_iret hC.1 hw (⟨1, tg, ⟨mst, ow, ix, bb, cpy, gb, hm9, ho9, hi9, hc9, hg1⟩, he1, Or.inl ⟨rfl, fun h => hno h.1⟩⟩) d_D_sum_90
set_option maxHeartbeats 4000000 in
set_option maxRecDepth 100000 in
theorem lp_dstore {p : Program} {l : Launch} {e : Env} {R : Room} {s : State} {m : MethodId} {args : Array Value} {below : List Frame} {meth : Method} {c : Code} {Q : State → Prop} {A : Nat → Prop} {D : va_G} {kc : Nat → ClassId} {c0 : Cond} {ret : Option FieldType} {L : List Nat} {f : Nat → va_E} {d mst ow ix bb cpy : Nat} {hm9 ho9 hi9 hc9 : Nat → Int32} {tg : Nat → Nat × Nat} {nm : Nat} {mo : Nat → Int32} {om : Nat → Nat} {al : Nat} {bs : Nat → Nat → Nat} (hs : stOK nm mo om al bs) (hcs : 2 ≤ R.cells ∧ 2048 ≤ R.slots) (k : Nat) (hk : k < nm) (P0 nb : Nat) (x : Int64) (hP : P0 + nb ≤ 65536 * cnt om al k) (hnb : nb ≤ 8) (hC : Kx p m c b_D_store 11 s args c0 R_D meth ret D kc A) (hRf : 2 ≤ R.frames) (hRl : 51 ≤ R.locals)
    (kont : ∀ (c9 : Nat) (L' : List Nat) (f' : Nat → va_E) (tg' : Nat → Nat × Nat) (gb' : Nat → Option Nat) (H : Heap) (locs : List Loc) (ls : Array Slot), c9 ≤ 2 → modG kc L' f' tg' d mst ow ix bb cpy gb' hm9 ho9 hi9 hc9 0 nm mo om al (va_up bs k (putN (bs k) P0 (uL x) nb)) → Ext SD L f tg (L', f') tg' → pw D Cls A s.heap H locs L' f' → W p l e R s m args below meth c H locs c9 (1024 * c9) Q (F0 m 102 ls [])) :
    ∀ (n : Nat) (i : Nat) (c9 : Nat) (L' : List Nat) (f' : Nat → va_E) (tg' : Nat → Nat × Nat) (gb' : Nat → Option Nat) (H : Heap) (locs : List Loc) (ls : Array Slot), i ≤ nb → nb + 1 ≤ i + n → (c9 ≤ (P0 + i) / 1024 - P0 / 1024 ∨ (c9 ≤ (P0 + i) / 1024 - P0 / 1024 + 1 ∧ ∀ R, isRow om al k (P0 + i) R → gb' R ≠ none)) → modG kc L' f' tg' d mst ow ix bb cpy gb' hm9 ho9 hi9 hc9 0 nm mo om al (va_up bs k (putN (bs k) P0 (uL x) i)) → Ext SD L f tg (L', f') tg' → pw D Cls A s.heap H locs L' f' → lv_has ls 11 [(10, .int (nI i)), (0, .ref d), (1, .int (nI k)), (9, .int (nI nb)), (7, .long (lN P0)), (5, .long x)] → W p l e R s m args below meth c H locs c9 (1024 * c9) Q (F0 m 58 ls []) := by
  obtain ⟨⟨⟨hx, hb, hml, hown, hts⟩, hret9, hlocks⟩, hK, hE, hA⟩ := id hC
  intro n
  induction n with
  | zero => intro i c9 L' f' tg' gb' H locs ls hi hin hcn hm he hw hl; exact absurd hin (by omega)
  | succ n ih =>
    intro i c9 L' f' tg' gb' H locs ls hi hin hcn hm he hw hl
    obtain ⟨⟨hdL, htd, hfd⟩, -⟩ := id hm
    obtain ⟨hs1, hs2, hs3, hs4, hs5, hs6⟩ := id hs
    have hcl := cnt_le om k al
    refine lv_iload hx hb d_D_store_58 (lv_at hl 0 rfl) ?_
    refine lv_iload hx hb d_D_store_60 (lv_at hl 3 rfl) ?_
    refine lv_icmp_ge (tgt := 102) hx hb d_D_store_62 (by decide) (fun c1 => ?_) (fun c1 => ?_)
    · have e : i = nb := by
        rcases Nat.lt_or_ge i nb with q | q
        · exact absurd c1 (nI_ge q (by omega))
        · omega
      subst e
      exact kont c9 L' f' tg' gb' H locs ls (by omega) hm he hw
    · have hlt : i < nb := by
        rcases Nat.lt_or_ge i nb with q | q
        · exact q
        · exact absurd (nI_le q (by omega)) c1
      refine lv_aload_n hx hb d_D_store_65 rfl (lv_at hl 1 rfl) ?_
      refine get_D hC hw hdL hfd 0 (by decide) k_fl_D_28 rfl d_D_store_66 ?_
      refine lv_if_ne (tgt := 102) hx hb d_D_store_69 (by decide) (fun c2 => (c2 rfl).elim) (fun c2 => ?_)
      refine lv_aload_n hx hb d_D_store_72 rfl (lv_at hl 1 rfl) ?_
      refine lv_iload_n hx hb d_D_store_73 rfl (lv_at hl 2 rfl) ?_
      refine lv_lload hx hb d_D_store_74 (lv_at hl 4 rfl) ?_
      refine lv_iload hx hb d_D_store_76 (lv_at hl 0 rfl) ?_
      refine lv_i2l hx hb d_D_store_78 rfl ?_
      refine tp_l (v := lN i) (nI_toI64 _ (by omega)) ?_
      refine lv_ladd hx hb d_D_store_79 ?_
      refine tp_l (v := lN (P0 + i)) (lN_add _ _) ?_
      refine lv_lload hx hb d_D_store_80 (lv_at hl 5 rfl) ?_
      refine lv_bipush (v := 8) hx hb d_D_store_82 (by decide) ?_
      refine lv_iload hx hb d_D_store_84 (lv_at hl 0 rfl) ?_
      refine lv_imul hx hb d_D_store_86 ?_
      refine lv_lshr hx hb d_D_store_87 rfl ?_
      refine lv_ldc2 (v := 255) hx hb hown (hts _ (gg_mem k_cn_D_83)) d_D_store_88 ?_
      refine lv_land hx hb d_D_store_91 ?_
      refine lv_l2i hx hb d_D_store_92 rfl ?_
      refine tp_i (v := nI (uL x / 2 ^ (8 * i) % 256)) (byte_s x (by omega)) ?_
      obtain ⟨R0, hR0⟩ := isRow_ex (om := om) (al := al) (k := k) (p := P0 + i) (by omega)
      by_cases hg9 : gb' R0 = none
      · have hc2 : c9 ≤ (P0 + i) / 1024 - P0 / 1024 := by
          rcases hcn with q | q
          · exact q
          · exact absurd hg9 (q.2 R0 hR0)
        have hall : ∀ R, isRow om al k (P0 + i) R → gb' R = none := fun R h => by rw [isRow_un h hR0 rfl]; exact hg9
        rcases Nat.eq_zero_or_pos (uL x / 2 ^ (8 * i) % 256) with hv0 | hvp
        · refine tp_i (v := nI 0) (by rw [hv0]) ?_
          refine callVv (As := [.int (nI k), .long (lN (P0 + i)), .int (nI 0)]) (n9 := 3) hC hw (c_D_put_zero l D kc _ _ _ d mst ow ix bb cpy gb' hm9 ho9 hi9 hc9 tg' 0 nm mo om al (va_up bs k (putN (bs k) P0 (uL x) i)) hm (stOK_mem hs (putN_ok (hs5 k) (hs6 k) i (by omega)).1 (putN_ok (hs5 k) (hs6 k) i (by omega)).2) k hk (P0 + i) (by omega) hall) k_co_D_put k_ml_D_85 k_im_D_put k_se_D_put k_in_D rfl rfl (by decide +kernel) rfl ⟨Nat.le_trans (Nat.le_of_ble_eq_true rfl) hRf, Nat.le_trans (Nat.le_of_ble_eq_true rfl) hRl⟩ hdL hfd rfl hl.1 rfl (Nat.le_of_ble_eq_true rfl) d_D_store_93 ⟨(by omega), (by omega)⟩ (fun u H locs hp hw => ?_)
          obtain ⟨tg2, gb2, hm2, hkp, hgn, he2⟩ := hp
          obtain ⟨L2, f2⟩ := u
          dsimp only at hw hm2 he2
          rw [upk] at hm2
          rw [← hv0] at hm2
          refine lv_iinc (v := nI (i + 1)) (lv' := [(10, .int (nI (i + 1))), (0, .ref d), (1, .int (nI k)), (9, .int (nI nb)), (7, .long (lN P0)), (5, .long x)]) hx hb d_D_store_96 hl (k := 0) rfl (nI_1 i) (by decide) rfl (fun ls hl => ?_)
          refine lv_goto (tgt := 58) hx hb d_D_store_99 (by decide) ?_
          refine ih (i + 1) c9 L2 f2 tg2 gb2 _ _ _ (by omega) (by omega) ?_ hm2 (he.tr he2) hw (lv_sub hl [0, 1, 2, 3, 4, 5] rfl)
          left
          omega
        · refine callVv (As := [.int (nI k), .long (lN (P0 + i)), .int (nI (uL x / 2 ^ (8 * i) % 256))]) (n9 := 3) hC hw (c_D_put_new l D kc _ _ _ d mst ow ix bb cpy gb' hm9 ho9 hi9 hc9 tg' 0 nm mo om al (va_up bs k (putN (bs k) P0 (uL x) i)) hm (stOK_mem hs (putN_ok (hs5 k) (hs6 k) i (by omega)).1 (putN_ok (hs5 k) (hs6 k) i (by omega)).2) k hk (P0 + i) (by omega) (uL x / 2 ^ (8 * i) % 256) (by omega) hvp hall) k_co_D_put k_ml_D_85 k_im_D_put k_se_D_put k_in_D rfl rfl (by decide +kernel) rfl ⟨Nat.le_trans (Nat.le_of_ble_eq_true rfl) hRf, Nat.le_trans (Nat.le_of_ble_eq_true rfl) hRl⟩ hdL hfd rfl hl.1 rfl (Nat.le_of_ble_eq_true rfl) d_D_store_93 ⟨(by omega), (by omega)⟩ (fun u H locs hp hw => ?_)
          obtain ⟨tg2, gb2, hm2, hkp, hgn, he2⟩ := hp
          obtain ⟨L2, f2⟩ := u
          dsimp only at hw hm2 he2
          rw [upk] at hm2
          refine W.cs (cells' := c9 + 1) (slots' := 1024 * (c9 + 1)) rfl (by omega) ?_
          refine lv_iinc (v := nI (i + 1)) (lv' := [(10, .int (nI (i + 1))), (0, .ref d), (1, .int (nI k)), (9, .int (nI nb)), (7, .long (lN P0)), (5, .long x)]) hx hb d_D_store_96 hl (k := 0) rfl (nI_1 i) (by decide) rfl (fun ls hl => ?_)
          refine lv_goto (tgt := 58) hx hb d_D_store_99 (by decide) ?_
          refine ih (i + 1) (c9 + 1) L2 f2 tg2 gb2 _ _ _ (by omega) (by omega) ?_ hm2 (he.tr he2) hw (lv_sub hl [0, 1, 2, 3, 4, 5] rfl)
          by_cases e : (P0 + (i + 1)) / 1024 = (P0 + i) / 1024
          · right
            refine ⟨by omega, fun R h => ?_⟩
            rw [isRow_un h hR0 e]
            exact hgn R0 hR0
          · left; omega
      · have hc2 : c9 ≤ (P0 + i) / 1024 - P0 / 1024 + 1 := by
          rcases hcn with q | q
          · omega
          · exact q.1
        have hall : ∀ R, isRow om al k (P0 + i) R → gb' R ≠ none := fun R h => by rw [isRow_un h hR0 rfl]; exact hg9
        refine callVv (As := [.int (nI k), .long (lN (P0 + i)), .int (nI (uL x / 2 ^ (8 * i) % 256))]) (n9 := 3) hC hw (c_D_put_row l D kc _ _ _ d mst ow ix bb cpy gb' hm9 ho9 hi9 hc9 tg' 0 nm mo om al (va_up bs k (putN (bs k) P0 (uL x) i)) hm (stOK_mem hs (putN_ok (hs5 k) (hs6 k) i (by omega)).1 (putN_ok (hs5 k) (hs6 k) i (by omega)).2) k hk (P0 + i) (by omega) (uL x / 2 ^ (8 * i) % 256) (by omega) hall) k_co_D_put k_ml_D_85 k_im_D_put k_se_D_put k_in_D rfl rfl (by decide +kernel) rfl ⟨Nat.le_trans (Nat.le_of_ble_eq_true rfl) hRf, Nat.le_trans (Nat.le_of_ble_eq_true rfl) hRl⟩ hdL hfd rfl hl.1 rfl (Nat.le_of_ble_eq_true rfl) d_D_store_93 ⟨(by omega), (by omega)⟩ (fun u H locs hp hw => ?_)
        obtain ⟨tg2, gb2, hm2, hkp, hgn, he2⟩ := hp
        obtain ⟨L2, f2⟩ := u
        dsimp only at hw hm2 he2
        rw [upk] at hm2
        refine lv_iinc (v := nI (i + 1)) (lv' := [(10, .int (nI (i + 1))), (0, .ref d), (1, .int (nI k)), (9, .int (nI nb)), (7, .long (lN P0)), (5, .long x)]) hx hb d_D_store_96 hl (k := 0) rfl (nI_1 i) (by decide) rfl (fun ls hl => ?_)
        refine lv_goto (tgt := 58) hx hb d_D_store_99 (by decide) ?_
        refine ih (i + 1) c9 L2 f2 tg2 gb2 _ _ _ (by omega) (by omega) ?_ hm2 (he.tr he2) hw (lv_sub hl [0, 1, 2, 3, 4, 5] rfl)
        by_cases e : (P0 + (i + 1)) / 1024 = (P0 + i) / 1024
        · right
          refine ⟨by omega, fun R h => ?_⟩
          rw [isRow_un h hR0 e]
          exact hgn R0 hR0
        · left; omega
set_option maxHeartbeats 4000000 in
set_option maxRecDepth 100000 in
theorem c_D_store (l : Launch) (D : va_G) (kc : Nat → ClassId) (L : List Nat) (f : Nat → va_E) (sz : Nat) (d mst ow ix bb cpy : Nat) (gb : Nat → Option Nat) (hm9 ho9 hi9 hc9 : Nat → Int32) (tg : Nat → Nat × Nat) (th : Int32) (nm : Nat) (mo : Nat → Int32) (om : Nat → Nat) (al : Nat) (bs : Nat → Nat → Nat) (hg : modG kc L f tg d mst ow ix bb cpy gb hm9 ho9 hi9 hc9 th nm mo om al bs) (hs : stOK nm mo om al bs) (mm op ad of : Int32) (vl : Int64) : Met l y_D_store w_D_store ({ frames := 2, cells := 2, slots := 2048, locals := 51 }) (PP D kc L f sz [.ref d, .int mm, .int op, .int ad, .int of, .long vl]) (Qv D L f sz (fun u => ∃ t9 tg', Ext SD L f tg u tg' ∧ ((t9 = 1 ∧ ¬ ((∃ k, k < nm ∧ mm = nI k) ∧ ∃ kd, kd < 9 ∧ op = nI (54 + kd)) ∧ modP kc u.1 u.2 tg' d t9 nm mo om al bs) ∨ (t9 = 2 ∧ ∃ k, k < nm ∧ mm = nI k ∧ ∃ kd, kd < 9 ∧ op = nI (54 + kd) ∧ ¬ (uI ad + uI of + szS kd ≤ 65536 * cnt om al k) ∧ modP kc u.1 u.2 tg' d t9 nm mo om al bs) ∨ (t9 = 0 ∧ ∃ k, k < nm ∧ mm = nI k ∧ ∃ kd, kd < 9 ∧ op = nI (54 + kd) ∧ uI ad + uI of + szS kd ≤ 65536 * cnt om al k ∧ modP kc u.1 u.2 tg' d t9 nm mo om al (va_up bs k (putN (bs k) (uI ad + uI of) (uL vl) (szS kd))))))) 2 2048 (pA L f sz) := by
  refine kx_met (by decide) (Nat.le_of_ble_eq_true rfl) ?_
  intro p e s m below meth c hC hnm hw hsz ls hl
  subst hsz
  have hl : lv_has ls 11 [(0, .ref d), (1, .int mm), (2, .int op), (3, .int ad), (4, .int of), (5, .long vl)] := hl
  obtain ⟨⟨⟨hx, hb, hml, hown, hts⟩, hret9, hlocks⟩, hK, hE, hA⟩ := id hC
  obtain ⟨⟨hdL, htd, hfd⟩, ⟨hmL, htm, hfm⟩, ⟨hoL, hto, hfo⟩, ⟨hiL, hti, hfi⟩, ⟨hbL, htb, hfb⟩, ⟨hcL, htc, hfc⟩, hk1, hk2, hk3⟩ := id hg
  obtain ⟨hs1, hs2, hs3, hs4, hs5, hs6⟩ := id hs
  refine lv_iload_n hx hb d_D_store_0 rfl (lv_at hl 3 rfl) ?_
  refine lv_iload hx hb d_D_store_1 (lv_at hl 4 rfl) ?_
  refine callSl (As := [.int ad, .int of]) (n9 := 2) hC hw (c_D_place l D kc _ _ _ ad of) k_co_D_place k_ml_D_65 k_sm_D_place k_in_D rfl rfl (by decide +kernel) rfl ⟨Nat.le_of_ble_eq_true rfl, Nat.le_of_ble_eq_true rfl⟩ hl.1 rfl (Nat.le_of_ble_eq_true rfl) d_D_store_3 ⟨Nat.le_of_ble_eq_true rfl, Nat.le_of_ble_eq_true rfl⟩ (fun r9 u H locs hp hw => ?_)
  obtain ⟨rfl, rfl⟩ := hp
  have h33 : uI ad + uI of < 2 ^ 33 := by have := uI_lt ad; have := uI_lt of; omega
  refine lv_lstore (lv' := [(7, .long (lN (uI ad + uI of))), (0, .ref d), (1, .int mm), (2, .int op), (3, .int ad), (4, .int of), (5, .long vl)]) hx hb d_D_store_6 hl (by decide) rfl (fun ls hl => ?_)
  refine lv_iload_n hx hb d_D_store_8 rfl (lv_at hl 3 rfl) ?_
  refine callSi (As := [.int op]) (n9 := 1) hC hw (c_D_size l D kc _ _ _ op) k_co_D_size k_ml_D_69 k_sm_D_size k_in_D rfl rfl (by decide +kernel) rfl ⟨Nat.le_of_ble_eq_true rfl, Nat.le_of_ble_eq_true rfl⟩ hl.1 rfl (Nat.le_of_ble_eq_true rfl) d_D_store_9 ⟨Nat.le_of_ble_eq_true rfl, Nat.le_of_ble_eq_true rfl⟩ (fun r9 u H locs hp hw => ?_)
  obtain ⟨⟨z, rfl, hz1, hz2, hzL, hzS⟩, rfl⟩ := hp
  refine lv_istore (lv' := [(9, .int (nI z)), (7, .long (lN (uI ad + uI of))), (0, .ref d), (1, .int mm), (2, .int op), (3, .int ad), (4, .int of), (5, .long vl)]) hx hb d_D_store_12 hl (by decide) rfl (fun ls hl => ?_)
  refine lv_aload_n hx hb d_D_store_14 rfl (lv_at hl 2 rfl) ?_
  refine lv_aload_n hx hb d_D_store_15 rfl (lv_at hl 2 rfl) ?_
  refine lv_iload_n hx hb d_D_store_16 rfl (lv_at hl 3 rfl) ?_
  refine callVi (As := [.int mm]) (n9 := 1) hC hw (c_D_isMemory l D kc _ _ _ d mst ow ix bb cpy gb hm9 ho9 hi9 hc9 tg th nm mo om al bs hg hs mm) k_co_D_isMemory k_ml_D_51 k_im_D_isMemory k_se_D_isMemory k_in_D rfl rfl (by decide +kernel) rfl ⟨Nat.le_of_ble_eq_true rfl, Nat.le_of_ble_eq_true rfl⟩ hdL hfd rfl hl.1 rfl (Nat.le_of_ble_eq_true rfl) d_D_store_17 ⟨Nat.le_of_ble_eq_true rfl, Nat.le_of_ble_eq_true rfl⟩ (fun r9 u H locs hp hw => ?_)
  obtain ⟨hp, rfl⟩ := hp
  rcases hp with ⟨rfl, k, hkn, rfl⟩ | ⟨rfl, hno⟩
  · refine lv_if_eq (tgt := 31) hx hb d_D_store_20 (by decide) (fun c0 => ((by decide : ¬ (1 : Int32) = 0) c0).elim) (fun c0 => ?_)
    have hcl := cnt_le om k al
    refine lv_iload_n hx hb d_D_store_23 rfl (lv_at hl 4 rfl) ?_
    refine lv_iconst (v := 1) hx hb d_D_store_24 (by decide) ?_
    refine callSi (As := [.int op, .int 1]) (n9 := 2) hC hw (c_D_isWhole_st l D kc _ _ _ op) k_co_D_isWhole k_ml_D_72 k_sm_D_isWhole k_in_D rfl rfl (by decide +kernel) rfl ⟨Nat.le_of_ble_eq_true rfl, Nat.le_of_ble_eq_true rfl⟩ hl.1 rfl (Nat.le_of_ble_eq_true rfl) d_D_store_25 ⟨Nat.le_of_ble_eq_true rfl, Nat.le_of_ble_eq_true rfl⟩ (fun r9 u H locs hp hw => ?_)
    obtain ⟨hp, rfl⟩ := hp
    rcases hp with ⟨rfl, kd, hkd, rfl⟩ | ⟨rfl, hnk⟩
    · refine lv_if_ne (tgt := 35) hx hb d_D_store_28 (by decide) (fun c1 => ?_) (fun c1 => ((by decide : ¬ (1 : Int32) = 0) c1).elim)
      have hzz : z = szS kd := hzS kd hkd rfl
      subst hzz
      refine lv_aload_n hx hb d_D_store_35 rfl (lv_at hl 2 rfl) ?_
      refine lv_iload_n hx hb d_D_store_36 rfl (lv_at hl 3 rfl) ?_
      refine lv_lload hx hb d_D_store_37 (lv_at hl 1 rfl) ?_
      refine lv_iload hx hb d_D_store_39 (lv_at hl 0 rfl) ?_
      refine callVi (As := [.int (nI k), .long (lN (uI ad + uI of)), .int (nI (szS kd))]) (n9 := 3) hC hw (c_D_isThere l D kc _ _ _ d mst ow ix bb cpy gb hm9 ho9 hi9 hc9 tg th nm mo om al bs hg hs k hkn (lN (uI ad + uI of)) (szS kd) (by omega)) k_co_D_isThere k_ml_D_76 k_im_D_isThere k_se_D_isThere k_in_D rfl rfl (by decide +kernel) rfl ⟨Nat.le_of_ble_eq_true rfl, Nat.le_of_ble_eq_true rfl⟩ hdL hfd rfl hl.1 rfl (Nat.le_of_ble_eq_true rfl) d_D_store_41 ⟨Nat.le_of_ble_eq_true rfl, Nat.le_of_ble_eq_true rfl⟩ (fun r9 u H locs hp hw => ?_)
      obtain ⟨hp, rfl⟩ := hp
      rw [thereP_pl ⟨by omega, by omega⟩ (by omega) (by omega)] at hp
      rcases hp with ⟨rfl, hth⟩ | ⟨rfl, hth⟩
      · refine lv_if_ne (tgt := 51) hx hb d_D_store_44 (by decide) (fun c3 => ?_) (fun c3 => ((by decide : ¬ (1 : Int32) = 0) c3).elim)
        refine lv_iconst (v := 0) hx hb d_D_store_51 (by decide) ?_
        refine put_D hC hw hdL hfd 0 (by decide) k_fl_D_28 rfl rfl rfl (Nat.le_of_ble_eq_true rfl) d_D_store_52 (fun H locs hw => ?_)
        obtain ⟨f1, hf1⟩ : ∃ F, F = va_up f d (.inr (3, [.int 0, .int (nI nm), .ref mst, .int (nI al), .ref ow, .ref ix, .ref bb, .ref cpy])) := ⟨_, rfl⟩
        have hw := pw_as (f' := f1) hw rfl hf1.symm
        obtain ⟨hg1, he1⟩ := mod_th hg 0
        rw [← hf1] at hg1 he1
        obtain ⟨⟨hdL1, htd1, hfd1⟩, ⟨hmL1, htm1, hfm1⟩, ⟨hoL1, hto1, hfo1⟩, ⟨hiL1, hti1, hfi1⟩, ⟨hbL1, htb1, hfb1⟩, ⟨hcL1, htc1, hfc1⟩, hk11, hk21, hk31⟩ := id hg1
        refine lv_iconst (v := 0) hx hb d_D_store_55 (by decide) ?_
        refine lv_istore (lv' := [(10, .int 0), (9, .int (nI (szS kd))), (7, .long (lN (uI ad + uI of))), (0, .ref d), (1, .int (nI k)), (2, .int (nI (54 + kd))), (3, .int ad), (4, .int of), (5, .long vl)]) hx hb d_D_store_56 hl (by decide) rfl (fun ls hl => ?_)
        have hb0 : va_up bs k (putN (bs k) (uI ad + uI of) (uL vl) 0) = bs := by
          funext z
          by_cases q : z = k
          · rw [q, va_up_self]; rfl
          · rw [va_up_ne _ _ q]
        refine lp_dstore hs ⟨Nat.le_refl _, Nat.le_refl _⟩ k hkn (uI ad + uI of) (szS kd) vl hth hz2 hC (Nat.le_of_ble_eq_true rfl) (Nat.le_of_ble_eq_true rfl) (fun c9 L2 f2 tg2 gb2 H locs ls hcn hm2 he2 hw => ?_) (szS kd + 1) 0 0 L f1 tg gb _ _ _ (Nat.zero_le _) (by omega) (Or.inl (Nat.zero_le _)) (by rw [hb0]; exact hg1) Ext.rf hw (lv_sub hl [0, 3, 4, 1, 2, 8] rfl)
        refine W.widen (k := 2) (n := 2048) (by omega) (by omega) ?_
        exact pg_vret hC.1 hw (⟨0, tg2, he1.tr he2, Or.inr (Or.inr ⟨rfl, k, hkn, rfl, kd, hkd, rfl, hth, mst, ow, ix, bb, cpy, gb2, hm9, ho9, hi9, hc9, hm2⟩)⟩) d_D_store_102
      · refine lv_if_ne (tgt := 51) hx hb d_D_store_44 (by decide) (fun c3 => (c3 rfl).elim) (fun c3 => ?_)
        refine lv_iconst (v := 2) hx hb d_D_store_47 (by decide) ?_
        refine lv_goto (tgt := 52) hx hb d_D_store_48 (by decide) ?_
        refine put_D hC hw hdL hfd 0 (by decide) k_fl_D_28 rfl rfl rfl (Nat.le_of_ble_eq_true rfl) d_D_store_52 (fun H locs hw => ?_)
        obtain ⟨f1, hf1⟩ : ∃ F, F = va_up f d (.inr (3, [.int 2, .int (nI nm), .ref mst, .int (nI al), .ref ow, .ref ix, .ref bb, .ref cpy])) := ⟨_, rfl⟩
        have hw := pw_as (f' := f1) hw rfl hf1.symm
        obtain ⟨hg1, he1⟩ := mod_th hg 2
        rw [← hf1] at hg1 he1
        obtain ⟨⟨hdL1, htd1, hfd1⟩, ⟨hmL1, htm1, hfm1⟩, ⟨hoL1, hto1, hfo1⟩, ⟨hiL1, hti1, hfi1⟩, ⟨hbL1, htb1, hfb1⟩, ⟨hcL1, htc1, hfc1⟩, hk11, hk21, hk31⟩ := id hg1
        refine lv_iconst (v := 0) hx hb d_D_store_55 (by decide) ?_
        refine lv_istore (lv' := [(10, .int 0), (9, .int (nI (szS kd))), (7, .long (lN (uI ad + uI of))), (0, .ref d), (1, .int (nI k)), (2, .int (nI (54 + kd))), (3, .int ad), (4, .int of), (5, .long vl)]) hx hb d_D_store_56 hl (by decide) rfl (fun ls hl => ?_)
        refine lv_iload hx hb d_D_store_58 (lv_at hl 0 rfl) ?_
        refine lv_iload hx hb d_D_store_60 (lv_at hl 1 rfl) ?_
        refine lv_icmp_ge (tgt := 102) hx hb d_D_store_62 (by decide) (fun cz => (nI_nle (by omega) (by omega) cz).elim) (fun cz => ?_)
        refine lv_aload_n hx hb d_D_store_65 rfl (lv_at hl 3 rfl) ?_
        refine get_D hC hw hdL1 hfd1 0 (by decide) k_fl_D_28 rfl d_D_store_66 ?_
        refine lv_if_ne (tgt := 102) hx hb d_D_store_69 (by decide) (fun cy => ?_) (fun cy => ((by decide : ¬ (2 : Int32) = 0) cy).elim)
        refine W.widen (k := 2) (n := 2048) (by omega) (by omega) ?_
        exact pg_vret hC.1 hw (⟨2, tg, he1, Or.inr (Or.inl ⟨rfl, k, hkn, rfl, kd, hkd, rfl, hth, ⟨mst, ow, ix, bb, cpy, gb, hm9, ho9, hi9, hc9, hg1⟩⟩)⟩) d_D_store_102
    · refine lv_if_ne (tgt := 35) hx hb d_D_store_28 (by decide) (fun c1 => (c1 rfl).elim) (fun c1 => ?_)
      refine lv_iconst (v := 1) hx hb d_D_store_31 (by decide) ?_
      refine lv_goto (tgt := 52) hx hb d_D_store_32 (by decide) ?_
      refine put_D hC hw hdL hfd 0 (by decide) k_fl_D_28 rfl rfl rfl (Nat.le_of_ble_eq_true rfl) d_D_store_52 (fun H locs hw => ?_)
      obtain ⟨f1, hf1⟩ : ∃ F, F = va_up f d (.inr (3, [.int 1, .int (nI nm), .ref mst, .int (nI al), .ref ow, .ref ix, .ref bb, .ref cpy])) := ⟨_, rfl⟩
      have hw := pw_as (f' := f1) hw rfl hf1.symm
      obtain ⟨hg1, he1⟩ := mod_th hg 1
      rw [← hf1] at hg1 he1
      obtain ⟨⟨hdL1, htd1, hfd1⟩, ⟨hmL1, htm1, hfm1⟩, ⟨hoL1, hto1, hfo1⟩, ⟨hiL1, hti1, hfi1⟩, ⟨hbL1, htb1, hfb1⟩, ⟨hcL1, htc1, hfc1⟩, hk11, hk21, hk31⟩ := id hg1
      refine lv_iconst (v := 0) hx hb d_D_store_55 (by decide) ?_
      refine lv_istore (lv' := [(10, .int 0), (9, .int (nI z)), (7, .long (lN (uI ad + uI of))), (0, .ref d), (1, .int (nI k)), (2, .int op), (3, .int ad), (4, .int of), (5, .long vl)]) hx hb d_D_store_56 hl (by decide) rfl (fun ls hl => ?_)
      refine lv_iload hx hb d_D_store_58 (lv_at hl 0 rfl) ?_
      refine lv_iload hx hb d_D_store_60 (lv_at hl 1 rfl) ?_
      refine lv_icmp_ge (tgt := 102) hx hb d_D_store_62 (by decide) (fun cz => (nI_nle (by omega) (by omega) cz).elim) (fun cz => ?_)
      refine lv_aload_n hx hb d_D_store_65 rfl (lv_at hl 3 rfl) ?_
      refine get_D hC hw hdL1 hfd1 0 (by decide) k_fl_D_28 rfl d_D_store_66 ?_
      refine lv_if_ne (tgt := 102) hx hb d_D_store_69 (by decide) (fun cy => ?_) (fun cy => ((by decide : ¬ (1 : Int32) = 0) cy).elim)
      refine W.widen (k := 2) (n := 2048) (by omega) (by omega) ?_
      exact pg_vret hC.1 hw (⟨1, tg, he1, Or.inl ⟨rfl, fun h => hnk h.2, ⟨mst, ow, ix, bb, cpy, gb, hm9, ho9, hi9, hc9, hg1⟩⟩⟩) d_D_store_102
  · refine lv_if_eq (tgt := 31) hx hb d_D_store_20 (by decide) (fun c0 => ?_) (fun c0 => (c0 rfl).elim)
    refine lv_iconst (v := 1) hx hb d_D_store_31 (by decide) ?_
    refine lv_goto (tgt := 52) hx hb d_D_store_32 (by decide) ?_
    refine put_D hC hw hdL hfd 0 (by decide) k_fl_D_28 rfl rfl rfl (Nat.le_of_ble_eq_true rfl) d_D_store_52 (fun H locs hw => ?_)
    obtain ⟨f1, hf1⟩ : ∃ F, F = va_up f d (.inr (3, [.int 1, .int (nI nm), .ref mst, .int (nI al), .ref ow, .ref ix, .ref bb, .ref cpy])) := ⟨_, rfl⟩
    have hw := pw_as (f' := f1) hw rfl hf1.symm
    obtain ⟨hg1, he1⟩ := mod_th hg 1
    rw [← hf1] at hg1 he1
    obtain ⟨⟨hdL1, htd1, hfd1⟩, ⟨hmL1, htm1, hfm1⟩, ⟨hoL1, hto1, hfo1⟩, ⟨hiL1, hti1, hfi1⟩, ⟨hbL1, htb1, hfb1⟩, ⟨hcL1, htc1, hfc1⟩, hk11, hk21, hk31⟩ := id hg1
    refine lv_iconst (v := 0) hx hb d_D_store_55 (by decide) ?_
    refine lv_istore (lv' := [(10, .int 0), (9, .int (nI z)), (7, .long (lN (uI ad + uI of))), (0, .ref d), (1, .int mm), (2, .int op), (3, .int ad), (4, .int of), (5, .long vl)]) hx hb d_D_store_56 hl (by decide) rfl (fun ls hl => ?_)
    refine lv_iload hx hb d_D_store_58 (lv_at hl 0 rfl) ?_
    refine lv_iload hx hb d_D_store_60 (lv_at hl 1 rfl) ?_
    refine lv_icmp_ge (tgt := 102) hx hb d_D_store_62 (by decide) (fun cz => (nI_nle (by omega) (by omega) cz).elim) (fun cz => ?_)
    refine lv_aload_n hx hb d_D_store_65 rfl (lv_at hl 3 rfl) ?_
    refine get_D hC hw hdL1 hfd1 0 (by decide) k_fl_D_28 rfl d_D_store_66 ?_
    refine lv_if_ne (tgt := 102) hx hb d_D_store_69 (by decide) (fun cy => ?_) (fun cy => ((by decide : ¬ (1 : Int32) = 0) cy).elim)
    refine W.widen (k := 2) (n := 2048) (by omega) (by omega) ?_
    exact pg_vret hC.1 hw (⟨1, tg, he1, Or.inl ⟨rfl, fun h => hno h.1, ⟨mst, ow, ix, bb, cpy, gb, hm9, ho9, hi9, hc9, hg1⟩⟩⟩) d_D_store_102
end
