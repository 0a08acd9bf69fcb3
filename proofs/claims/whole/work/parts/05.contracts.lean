/-! CONTRACTS OVER A POOL: one shape for all methods. X: what else a method needs of the machine (statics, constants), as (A, state, heap). -/
abbrev pU : Type := List Nat × (Nat → va_E)
abbrev pA (L : List Nat) (f : Nat → va_E) (sz : Nat) : Nat → Prop := va_A (va_pl L f) sz
def pX (X : (Nat → Prop) → State → Heap → Prop) : Prop := (∀ (A : Nat → Prop) (u U : State) (H : Heap), u.WarmedH U.vm → X A u H → X A U H) ∧ (∀ (A : Nat → Prop) (U : State) (H H1 : Heap), X A U H → (∀ a : Nat, a < H.size → ¬ A a → H1[a]? = H[a]?) → X A U H1) ∧ (∀ (A B : Nat → Prop) (U : State) (H : Heap), X A U H → (∀ q, B q → A q) → X B U H)
def pPc (X : (Nat → Prop) → State → Heap → Prop) (D : va_G) (cl : List vw_C) (tys : List (ClassId × FieldType)) (L : List Nat) (f : Nat → va_E) (sz : Nat) (av : List Value) : Array Value → State → Prop :=
  va_Pc av (fun U => U.heap.size = sz ∧ va_P D cl (va_pl L f) U.heap ∧ va_K D cl tys U ∧ va_D (fun _ => True) (va_pl L f) ∧ X (pA L f sz) U U.heap)
/-- the world behind a method -/
def pB (D : va_G) (cl : List vw_C) (A : Nat → Prop) (u : pU) (t : State) : Prop := va_P D cl (va_pl u.1 u.2) t.heap ∧ va_D A (va_pl u.1 u.2)
/-- .. and where it throws E -/
def pBX (D : va_G) (cl : List vw_C) (A : Nat → Prop) (ok : String → pU → Prop) (E : String) (u : pU) (t : State) : Prop := ok E u ∧ va_P D cl (va_pl u.1 u.2) t.heap ∧ va_D A (va_pl u.1 u.2)
/-- what stands through a method -/
def pF (p : Program) (m : MethodId) (c : Code) (cc : ByteArray) (nL : Nat) (s : State) (args : Array Value) (Ts : List Cond) (own : String) (meth : Method) (ret : Option FieldType) : Prop :=
  CallFix p m c cc nL s args Ts own ∧ meth.sig.returnType = ret ∧ meth.locks = false
section PC
variable {X : (Nat → Prop) → State → Heap → Prop} {D : va_G} {cl : List vw_C} {tys : List (ClassId × FieldType)} {L : List Nat} {f : Nat → va_E} {sz : Nat} {av : List Value}
theorem pPc_blind (hX : pX X) : FrameBlind (pPc X D cl tys L f sz av) := fun a U g mk q => by
  obtain ⟨q0, q1, qP, qK, qD, qX⟩ := q
  exact ⟨q0, q1, qP, va_K.moved (u := U) (U := U.calling g mk a) (Vm.Alike.refl U.vm) qK, qD, hX.1 _ U (U.calling g mk a) _ (State.WarmedH.refl U) qX⟩
variable {p : Program} {l : Launch} {e : Env} {R : Room} {s : State} {m : MethodId} {args : Array Value} {below : List Frame} {meth : Method} {c : Code} {H : Heap} {locs : List Loc} {cells slots : Nat} {Q : State → Prop} {A : Nat → Prop}
theorem pg_free (hw : pw D cl A s.heap H locs L f) (hA : ∀ q, s.heap.size ≤ q → A q) : ∀ q, pA L f H.size q → A q := fun q h => by
  rcases h with ⟨k, e, h⟩ | h
  · exact hw.2.1.2 k _ h
  · exact hA q (Nat.le_trans hw.2.2.1 h)
theorem pg_pre (hX : pX X) (hK : va_K D cl tys s) (hw : pw D cl A s.heap H locs L f) (hA : ∀ q, s.heap.size ≤ q → A q) (hx : X A s s.heap) (As : List Value) : ∀ U : State, U.heap = H → s.WarmedH U.vm → pPc X D cl tys L f H.size As As.toArray U := fun U hU hW => by
  refine ⟨rfl, by rw [hU], by rw [hU]; exact hw.1, va_K.moved hW.alike hK, hw.2.1.weaken (fun _ _ _ _ => trivial), ?_⟩
  rw [hU]
  exact hX.1 _ s U H hW (hX.2.2 _ _ _ _ (hX.2.1 _ _ _ _ hx hw.2.2.2.1) (pg_free hw hA))
theorem pg_preS (hX : pX X) (hK : va_K D cl tys s) (hw : pw D cl A s.heap H locs L f) (hA : ∀ q, s.heap.size ≤ q → A q) (hx : X A s s.heap) (As : List Value) : PreS s H (pPc X D cl tys L f H.size As) As := ⟨pPc_blind hX, pg_pre hX hK hw hA hx As⟩
theorem pg_recv (hK : va_K D cl tys s) (hw : pw D cl A s.heap H locs L f) {b ci : Nat} {fs : List Value} {q : vw_C} (hb : b ∈ L) (he : f b = .inr (ci, fs)) (hc : cl[ci]? = some q) : ∃ cell : Cell, H[b]? = some cell ∧ cell.vm.isStatics = false ∧ s.vm.findClass q.1 = some cell.cls := by
  obtain ⟨q0, h0⟩ := pg_at hb he
  exact va_recv hK hw.1 hc h0
theorem pg_preV (hX : pX X) (hK : va_K D cl tys s) (hw : pw D cl A s.heap H locs L f) (hA : ∀ q, s.heap.size ≤ q → A q) (hx : X A s s.heap) {b ci N : Nat} {C : String} {T : u_T} {fs : List Value} (hb : b ∈ L) (he : f b = .inr (ci, fs)) (hc : cl[ci]? = some (C, T, N)) (As : List Value) : PreV s H C b (pPc X D cl tys L f H.size (.ref b :: As)) As :=
  ⟨pPc_blind hX, pg_recv hK hw hb he hc, pg_pre hX hK hw hA hx (.ref b :: As)⟩
/-- a contract out of the walk of its body -/
theorem pg_met {y : MethodName} {ws ws' : List Cond} {rm : Room} {Qc : Array Value → State → Outcome → State → Prop} {mc ms : Nat} {free : Addr → Prop} {cc : ByteArray} {maxL : Nat} {ret : Option FieldType} (hy : plainName y.cls = true) (hw : ws = Cond.code y cc maxL ret :: ws') (hlen : (lg_sl av).length ≤ maxL)
    (body : ∀ (p : Program) (e : Env) (s : State) (m : MethodId) (below : List Frame) (meth : Method) (c : Code), pF p m c cc maxL s av.toArray ws y.cls meth ret → meth.name = y.name → va_K D cl tys s → pw D cl (pA L f s.heap.size) s.heap s.heap [] L f → X (pA L f s.heap.size) s s.heap → s.heap.size = sz → (∀ q, s.heap.size ≤ q → pA L f s.heap.size q) → ∀ ls : Array Slot, lv_has ls maxL (lv_args 0 av) →
      W p l e rm s m av.toArray below meth c s.heap [] 0 0 (MQ below Qc av.toArray s mc ms free) (F0 m 0 ls [])) : Met l y ws rm (pPc X D cl tys L f sz av) Qc mc ms free := by
  refine Met.ofW (cc := cc) (maxL := maxL) (ret := ret) hy hw ?_
  intro p e s m args below meth c s₁ B hml hv
  obtain ⟨rfl, hsz, hP, hK, hD0, hx⟩ := hv
  subst hsz
  have hl := lv_entry av (n := maxL) hlen
  rw [lg_entry_eq]
  exact body p e s m below meth c ⟨⟨B.exec, B.bytes, hml, findClass_of_methodNamed B.named, atoms_spec (ws := ws) B.pre⟩, B.returns, B.notSynchronized⟩ (name_of_methodNamed B.named B.method).1 hK ⟨hP, hD0.self, va_S.rf⟩ hx rfl (fun q h => Or.inr h) _ hl
/-- .. that may throw -/
theorem pg_metX {y : MethodName} {ws ws' : List Cond} {rm : Room} {Qc : Array Value → State → Outcome → State → Prop} {XC : String → State → State → Prop} {mc ms : Nat} {free : Addr → Prop} {cc : ByteArray} {maxL : Nat} {ret : Option FieldType} (hy : plainName y.cls = true) (hw : ws = Cond.code y cc maxL ret :: ws') (hlen : (lg_sl av).length ≤ maxL)
    (body : ∀ (p : Program) (e : Env) (s : State) (m : MethodId) (below : List Frame) (meth : Method) (c : Code), pF p m c cc maxL s av.toArray ws y.cls meth ret → (∀ x ∈ c.exceptionTable.toList, False) → va_K D cl tys s → pw D cl (pA L f s.heap.size) s.heap s.heap [] L f → X (pA L f s.heap.size) s s.heap → s.heap.size = sz → (∀ q, s.heap.size ≤ q → pA L f s.heap.size q) → ∀ ls : Array Slot, lv_has ls maxL (lv_args 0 av) →
      W p l e rm s m av.toArray below meth c s.heap [] 0 0 (vx_MQ below Qc XC av.toArray s mc ms free) (F0 m 0 ls [])) : vx_Met l y ws rm (pPc X D cl tys L f sz av) Qc XC mc ms free := by
  refine vx_ofW (cc := cc) (maxL := maxL) (ret := ret) hy hw ?_
  intro p e s m args below meth c s₁ B hml hex hv
  obtain ⟨rfl, hsz, hP, hK, hD0, hx⟩ := hv
  subst hsz
  have hl := lv_entry av (n := maxL) hlen
  rw [lg_entry_eq]
  exact body p e s m below meth c ⟨⟨B.exec, B.bytes, hml, findClass_of_methodNamed B.named, atoms_spec (ws := ws) B.pre⟩, B.returns, B.notSynchronized⟩ hex hK ⟨hP, hD0.self, va_S.rf⟩ hx rfl (fun q h => Or.inr h) _ hl
variable {cc : ByteArray} {pc : Nat} {ls : Array Slot} {rest st0 : List Value} {mc ms : Nat} {a : Array Value}
theorem pg_back (hw : pw D cl A s.heap H locs L f) (hA : ∀ q, s.heap.size ≤ q → A q) {H1 : Heap} {locs1 : List Loc} {t : State} {u : pU} (ht : t.heap = H1) (hB : pB D cl (pA L f H.size) u t) (hS : va_S A s.heap H1 locs1) : pw D cl A s.heap H1 locs1 u.1 u.2 := by
  have hP := hB.1
  rw [ht] at hP
  exact ⟨hP, hB.2.weaken (fun _ q _ h => pg_free hw hA q.1 h), hS⟩
theorem pg_calli {post : Int32 → pU → Prop} (hr : va_Run p l e R s m args below meth c H locs cells slots mc ms (F0 m pc ls st0) rest (va_Qi post (pB D cl (pA L f H.size)) (pA L f H.size) a) (pA L f H.size)) (hw : pw D cl A s.heap H locs L f) (hA : ∀ q, s.heap.size ≤ q → A q)
    (kk : ∀ (r : Int32) (u : pU) (H1 : Heap) (locs1 : List Loc), post r u → pw D cl A s.heap H1 locs1 u.1 u.2 → W p l e R s m args below meth c H1 locs1 (cells + mc) (slots + ms) Q (F0 m (pc + 3) ls (.int r :: rest))) : W p l e R s m args below meth c H locs cells slots Q (F0 m pc ls st0) :=
  va_calli hr hw.2.2 (fun q _ h => pg_free hw hA q h) (pg_free hw hA) (fun r u t H1 locs1 ht _ hp hB _ _ hS => kk r u H1 locs1 hp (pg_back hw hA ht hB hS))
theorem pg_calll {post : Int64 → pU → Prop} (hr : va_Run p l e R s m args below meth c H locs cells slots mc ms (F0 m pc ls st0) rest (va_Ql post (pB D cl (pA L f H.size)) (pA L f H.size) a) (pA L f H.size)) (hw : pw D cl A s.heap H locs L f) (hA : ∀ q, s.heap.size ≤ q → A q)
    (kk : ∀ (r : Int64) (u : pU) (H1 : Heap) (locs1 : List Loc), post r u → pw D cl A s.heap H1 locs1 u.1 u.2 → W p l e R s m args below meth c H1 locs1 (cells + mc) (slots + ms) Q (F0 m (pc + 3) ls (.long r :: rest))) : W p l e R s m args below meth c H locs cells slots Q (F0 m pc ls st0) :=
  va_calll hr hw.2.2 (fun q _ h => pg_free hw hA q h) (pg_free hw hA) (fun r u t H1 locs1 ht _ hp hB _ _ hS => kk r u H1 locs1 hp (pg_back hw hA ht hB hS))
theorem pg_callv {post : pU → Prop} (hr : va_Run p l e R s m args below meth c H locs cells slots mc ms (F0 m pc ls st0) rest (va_Qv post (pB D cl (pA L f H.size)) (pA L f H.size) a) (pA L f H.size)) (hw : pw D cl A s.heap H locs L f) (hA : ∀ q, s.heap.size ≤ q → A q)
    (kk : ∀ (u : pU) (H1 : Heap) (locs1 : List Loc), post u → pw D cl A s.heap H1 locs1 u.1 u.2 → W p l e R s m args below meth c H1 locs1 (cells + mc) (slots + ms) Q (F0 m (pc + 3) ls rest)) : W p l e R s m args below meth c H locs cells slots Q (F0 m pc ls st0) :=
  va_callv hr hw.2.2 (fun q _ h => pg_free hw hA q h) (pg_free hw hA) (fun u t H1 locs1 ht _ hp hB _ _ hS => kk u H1 locs1 hp (pg_back hw hA ht hB hS))
theorem pg_callq {post : Option Nat → pU → Prop} (hr : va_Run p l e R s m args below meth c H locs cells slots mc ms (F0 m pc ls st0) rest (va_Qq post (pB D cl (pA L f H.size)) (pA L f H.size) a) (pA L f H.size)) (hw : pw D cl A s.heap H locs L f) (hA : ∀ q, s.heap.size ≤ q → A q)
    (kk : ∀ (r : Option Nat) (u : pU) (H1 : Heap) (locs1 : List Loc), post r u → pw D cl A s.heap H1 locs1 u.1 u.2 → W p l e R s m args below meth c H1 locs1 (cells + mc) (slots + ms) Q (F0 m (pc + 3) ls (va_rf r :: rest))) : W p l e R s m args below meth c H locs cells slots Q (F0 m pc ls st0) :=
  va_callq hr hw.2.2 (fun q _ h => pg_free hw hA q h) (pg_free hw hA) (fun r u t H1 locs1 ht _ hp hB _ _ hS => kk r u H1 locs1 hp (pg_back hw hA ht hB hS))
/-- ends -/
theorem pg_iret {nL : Nat} {Ts : List Cond} {own : String} (hF : pF p m c cc nL s args Ts own meth (some .int)) (hw : pw D cl A s.heap H locs L f) {post : Int32 → pU → Prop} {v : Int32} (hp : post v (L, f)) (hdg : decode cc pc = .ok (.ireturn, 1)) : W p l e R s m args below meth c H locs cells slots (MQ below (va_Qi post (pB D cl A) A) args s cells slots A) (F0 m pc ls [.int v]) := by
  obtain ⟨⟨hx, hb, -, -, -⟩, hr, hlocks⟩ := hF
  exact W.iret hx hb hr (fun t ht _ => ⟨⟨v, (L, f), rfl, hp, by rw [ht]; exact hw.1, hw.2.1⟩, hw.2.2.F ht⟩) hw.2.2.2.2 hdg hlocks
theorem pg_zret {nL : Nat} {Ts : List Cond} {own : String} (hF : pF p m c cc nL s args Ts own meth (some .boolean)) (hw : pw D cl A s.heap H locs L f) {post : Int32 → pU → Prop} {v : Int32} (hn : narrow .boolean (.int v) = .int v) (hp : post v (L, f)) (hdg : decode cc pc = .ok (.ireturn, 1)) : W p l e R s m args below meth c H locs cells slots (MQ below (va_Qi post (pB D cl A) A) args s cells slots A) (F0 m pc ls [.int v]) := by
  obtain ⟨⟨hx, hb, -, -, -⟩, hr, hlocks⟩ := hF
  exact W.zret hx hb hr hn (fun t ht _ => ⟨⟨v, (L, f), rfl, hp, by rw [ht]; exact hw.1, hw.2.1⟩, hw.2.2.F ht⟩) hw.2.2.2.2 hdg hlocks
theorem pg_lret {nL : Nat} {Ts : List Cond} {own : String} (hF : pF p m c cc nL s args Ts own meth (some .long)) (hw : pw D cl A s.heap H locs L f) {post : Int64 → pU → Prop} {v : Int64} (hp : post v (L, f)) (hdg : decode cc pc = .ok (.lreturn, 1)) : W p l e R s m args below meth c H locs cells slots (MQ below (va_Ql post (pB D cl A) A) args s cells slots A) (F0 m pc ls [.long v]) := by
  obtain ⟨⟨hx, hb, -, -, -⟩, hr, hlocks⟩ := hF
  exact W.lret hx hb hr (fun t ht _ => ⟨⟨v, (L, f), rfl, hp, by rw [ht]; exact hw.1, hw.2.1⟩, hw.2.2.F ht⟩) hw.2.2.2.2 hdg hlocks
theorem pg_vret {nL : Nat} {Ts : List Cond} {own : String} (hF : pF p m c cc nL s args Ts own meth none) (hw : pw D cl A s.heap H locs L f) {post : pU → Prop} (hp : post (L, f)) (hdg : decode cc pc = .ok (.return_, 1)) : W p l e R s m args below meth c H locs cells slots (MQ below (va_Qv post (pB D cl A) A) args s cells slots A) (F0 m pc ls []) := by
  obtain ⟨⟨hx, hb, -, -, -⟩, hr, hlocks⟩ := hF
  exact W.vret hx hb hr (fun t ht _ => ⟨⟨(L, f), rfl, hp, by rw [ht]; exact hw.1, hw.2.1⟩, hw.2.2.F ht⟩) hw.2.2.2.2 hdg hlocks
theorem pg_aret {nL : Nat} {Ts : List Cond} {own : String} {C : String} (hF : pF p m c cc nL s args Ts own meth (some (.object C))) (hw : pw D cl A s.heap H locs L f) {post : Option Nat → pU → Prop} {v : Option Nat} (hp : post v (L, f)) (hdg : decode cc pc = .ok (.areturn, 1)) : W p l e R s m args below meth c H locs cells slots (MQ below (va_Qq post (pB D cl A) A) args s cells slots A) (F0 m pc ls [va_rf v]) := by
  obtain ⟨⟨hx, hb, -, -, -⟩, hr, hlocks⟩ := hF
  exact W.aret hx hb hr (Or.inl ⟨C, rfl⟩) (va_rf_or v) (fun t ht _ => ⟨⟨v, (L, f), rfl, hp, by rw [ht]; exact hw.1, hw.2.1⟩, hw.2.2.F ht⟩) hw.2.2.2.2 hdg hlocks
end PC
