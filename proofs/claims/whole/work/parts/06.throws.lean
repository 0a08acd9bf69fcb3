/-! CONTRACTS OVER A POOL of methods that may throw: ok E u: the class E is thrown, in the world u -/
abbrev pXC (D : va_G) (cl : List vw_C) (A : Nat → Prop) (ok : String → pU → Prop) : String → State → State → Prop := vx_X (fun _ : pU => True) (pBX D cl A ok) A
section PX
variable {X : (Nat → Prop) → State → Heap → Prop} {D : va_G} {cl : List vw_C} {tys : List (ClassId × FieldType)} {L : List Nat} {f : Nat → va_E} {sz : Nat} {av : List Value}
variable {p : Program} {l : Launch} {e : Env} {R : Room} {s : State} {m : MethodId} {args : Array Value} {below : List Frame} {meth : Method} {c : Code} {H : Heap} {locs : List Loc} {cells slots : Nat} {Q : State → Prop} {A : Nat → Prop}
variable {cc : ByteArray} {pc : Nat} {ls : Array Slot} {rest st0 : List Value} {mc ms : Nat} {a : Array Value} {ok : String → pU → Prop}
theorem pg_backX (hw : pw D cl A s.heap H locs L f) (hA : ∀ q, s.heap.size ≤ q → A q) {H1 : Heap} {locs1 : List Loc} {t : State} {u : pU} {E : String} (ht : t.heap = H1) (hB : pBX D cl (pA L f H.size) ok E u t) (hS : va_S A s.heap H1 locs1) : ok E u ∧ pw D cl A s.heap H1 locs1 u.1 u.2 :=
  ⟨hB.1, pg_back hw hA ht hB.2 hS⟩
theorem pg_callXi {post : Int32 → pU → Prop} (hr : vx_Run p l e R s m args below meth c H locs cells slots mc ms (F0 m pc ls st0) rest (va_Qi post (pB D cl (pA L f H.size)) (pA L f H.size) a) (pXC D cl (pA L f H.size) ok) (pA L f H.size)) (hw : pw D cl A s.heap H locs L f) (hA : ∀ q, s.heap.size ≤ q → A q)
    (kx : ∀ (E : String) (ce : Cell) (q9 : Addr) (u : pU) (H1 : Heap) (locs1 : List Loc), ok E u → pw D cl A s.heap H1 locs1 u.1 u.2 → H1[q9]? = some ce → ce.vm = .none → s.vm.findClass E = some ce.cls → vx_W p l e R s m args below meth c H1 locs1 (cells + mc) (slots + ms) Q (F0 m pc ls rest) q9)
    (kk : ∀ (r : Int32) (u : pU) (H1 : Heap) (locs1 : List Loc), post r u → pw D cl A s.heap H1 locs1 u.1 u.2 → W p l e R s m args below meth c H1 locs1 (cells + mc) (slots + ms) Q (F0 m (pc + 3) ls (.int r :: rest))) : W p l e R s m args below meth c H locs cells slots Q (F0 m pc ls st0) :=
  vx_calli hr hw.2.2 (fun q _ h => pg_free hw hA q h) (pg_free hw hA) (fun q _ h => pg_free hw hA q h) (fun E ce q9 u t H1 locs1 ht _ _ hB _ _ hS h1 h2 h3 => kx E ce q9 u H1 locs1 hB.1 (pg_back hw hA ht hB.2 hS) h1 h2 h3) (fun r u t H1 locs1 ht _ hp hB _ _ hS => kk r u H1 locs1 hp (pg_back hw hA ht hB hS))
theorem pg_callXl {post : Int64 → pU → Prop} (hr : vx_Run p l e R s m args below meth c H locs cells slots mc ms (F0 m pc ls st0) rest (va_Ql post (pB D cl (pA L f H.size)) (pA L f H.size) a) (pXC D cl (pA L f H.size) ok) (pA L f H.size)) (hw : pw D cl A s.heap H locs L f) (hA : ∀ q, s.heap.size ≤ q → A q)
    (kx : ∀ (E : String) (ce : Cell) (q9 : Addr) (u : pU) (H1 : Heap) (locs1 : List Loc), ok E u → pw D cl A s.heap H1 locs1 u.1 u.2 → H1[q9]? = some ce → ce.vm = .none → s.vm.findClass E = some ce.cls → vx_W p l e R s m args below meth c H1 locs1 (cells + mc) (slots + ms) Q (F0 m pc ls rest) q9)
    (kk : ∀ (r : Int64) (u : pU) (H1 : Heap) (locs1 : List Loc), post r u → pw D cl A s.heap H1 locs1 u.1 u.2 → W p l e R s m args below meth c H1 locs1 (cells + mc) (slots + ms) Q (F0 m (pc + 3) ls (.long r :: rest))) : W p l e R s m args below meth c H locs cells slots Q (F0 m pc ls st0) :=
  vx_calll hr hw.2.2 (fun q _ h => pg_free hw hA q h) (pg_free hw hA) (fun q _ h => pg_free hw hA q h) (fun E ce q9 u t H1 locs1 ht _ _ hB _ _ hS h1 h2 h3 => kx E ce q9 u H1 locs1 hB.1 (pg_back hw hA ht hB.2 hS) h1 h2 h3) (fun r u t H1 locs1 ht _ hp hB _ _ hS => kk r u H1 locs1 hp (pg_back hw hA ht hB hS))
theorem pg_callXv {post : pU → Prop} (hr : vx_Run p l e R s m args below meth c H locs cells slots mc ms (F0 m pc ls st0) rest (va_Qv post (pB D cl (pA L f H.size)) (pA L f H.size) a) (pXC D cl (pA L f H.size) ok) (pA L f H.size)) (hw : pw D cl A s.heap H locs L f) (hA : ∀ q, s.heap.size ≤ q → A q)
    (kx : ∀ (E : String) (ce : Cell) (q9 : Addr) (u : pU) (H1 : Heap) (locs1 : List Loc), ok E u → pw D cl A s.heap H1 locs1 u.1 u.2 → H1[q9]? = some ce → ce.vm = .none → s.vm.findClass E = some ce.cls → vx_W p l e R s m args below meth c H1 locs1 (cells + mc) (slots + ms) Q (F0 m pc ls rest) q9)
    (kk : ∀ (u : pU) (H1 : Heap) (locs1 : List Loc), post u → pw D cl A s.heap H1 locs1 u.1 u.2 → W p l e R s m args below meth c H1 locs1 (cells + mc) (slots + ms) Q (F0 m (pc + 3) ls rest)) : W p l e R s m args below meth c H locs cells slots Q (F0 m pc ls st0) :=
  vx_callv hr hw.2.2 (fun q _ h => pg_free hw hA q h) (pg_free hw hA) (fun q _ h => pg_free hw hA q h) (fun E ce q9 u t H1 locs1 ht _ _ hB _ _ hS h1 h2 h3 => kx E ce q9 u H1 locs1 hB.1 (pg_back hw hA ht hB.2 hS) h1 h2 h3) (fun u t H1 locs1 ht _ hp hB _ _ hS => kk u H1 locs1 hp (pg_back hw hA ht hB hS))
/-- the world in a heap that has grown -/
theorem pg_grown (hw : pw D cl A s.heap H locs L f) {t : State} (hz : H.size ≤ t.heap.size) (hk : ∀ q : Nat, q < H.size → t.heap[q]? = H[q]?) : (va_P D cl (va_pl L f) t.heap ∧ va_D A (va_pl L f)) ∧ va_F A s t := by
  refine ⟨⟨hw.1.kept (fun k q h => hk q.1 ((hw.1 k q h).lt)), hw.2.1⟩, Nat.le_trans hw.2.2.1 hz, fun q h1 h2 => ?_⟩
  rw [hk q (Nat.lt_of_lt_of_le h1 hw.2.2.1)]
  exact hw.2.2.2.1 q h1 h2
/-- a throw goes on to the caller -/
theorem pg_out (hex : ∀ x ∈ c.exceptionTable.toList, False) (hlocks : meth.locks = false) (hw : pw D cl A s.heap H locs L f) {Qc : Array Value → State → Outcome → State → Prop} {E : String} {ce : Cell} {q : Addr} (hcell : H[q]? = some ce) (hv : ce.vm = .none) (hcl : s.vm.findClass E = some ce.cls) (ho : ok E (L, f)) (hc : cells ≤ mc) (hs : slots ≤ ms) :
    vx_W p l e R s m args below meth c H locs cells slots (vx_MQ below Qc (pXC D cl A ok) args s mc ms A) (F0 m pc ls rest) q :=
  vx_out (fun x h => (hex x h).elim) hlocks hcell hv hcl (fun t ht _ => ⟨(L, f), trivial, ⟨ho, by rw [ht]; exact hw.1, hw.2.1⟩, hw.2.2.F ht⟩) hw.2.2.2.2 hc hs
end PX
