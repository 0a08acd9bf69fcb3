/-! THE WORLD AS ONE POOL: L the addresses, f what lies there. Rows of the kit, said of such a world. -/
section PG
variable {p : Program} {l : Launch} {e : Env} {R : Room} {s : State} {m : MethodId} {args : Array Value} {below : List Frame} {meth : Method} {c : Code} {H : Heap} {locs : List Loc} {cells slots : Nat} {Q : State → Prop}
variable {cc : ByteArray} {pc : Nat} {ls : Array Slot} {rest : List Value} {D : va_G} {cl : List vw_C} {A : Nat → Prop} {a : Nat} {tys : List (ClassId × FieldType)} {H0 : Heap} {L : List Nat} {f : Nat → va_E}
/-- the world (L, f) stands in H, apart, within A; outside A nothing has changed since H0 -/
def pw (D : va_G) (cl : List vw_C) (A : Nat → Prop) (H0 H : Heap) (locs : List Loc) (L : List Nat) (f : Nat → va_E) : Prop :=
  va_P D cl (va_pl L f) H ∧ va_D A (va_pl L f) ∧ va_S A H0 H locs
theorem pg_at {L : List Nat} {f : Nat → va_E} {a : Nat} {e : va_E} (h : a ∈ L) (he : f a = e) : ∃ k : Nat, (va_pl L f)[k]? = some (a, e) := by
  obtain ⟨k, hk⟩ := va_pl_get (X := []) (f := f) h
  exact ⟨k, by rw [← he]; simpa using hk⟩
theorem pg_set {A : Nat → Prop} {L : List Nat} {f : Nat → va_E} {a k : Nat} {e0 e : va_E} (hD : va_D A (va_pl L f)) (h : a ∈ L) (he : f a = e0) (hk : (va_pl L f)[k]? = some (a, e0)) : (va_pl L f).set k (a, e) = va_pl L (va_up f a e) := by
  have := va_pl_set (X := []) (e := e) (by simpa using hD) h (k := k) (by rw [he]; simpa using hk)
  simpa using this
theorem pg_mem {L : List Nat} {f : Nat → va_E} {k a : Nat} {e : va_E} (h : (va_pl L f)[k]? = some (a, e)) : a ∈ L ∧ f a = e := by
  have h1 := List.mem_of_getElem? h
  obtain ⟨b, hb, hbe⟩ := List.mem_map.mp (show (a, e) ∈ L.map (fun a => (a, f a)) from h1)
  cases hbe
  exact ⟨hb, rfl⟩
theorem pg_lt (hw : pw D cl A H0 H locs L f) (h : a ∈ L) : a < H.size := va_pl_lt (X := []) (by simpa using hw.1) h
theorem pg_A (hw : pw D cl A H0 H locs L f) (h : a ∈ L) : A a := by
  obtain ⟨k, hk⟩ := pg_at (f := f) h rfl
  exact hw.2.1.2 k _ hk
/-- a new cell comes to the pool -/
theorem pg_push {A : Nat → Prop} {L : List Nat} {f : Nat → va_E} {q : Nat} {e : va_E} (hD : va_D A (va_pl L f ++ [(q, e)])) : q ∉ L ∧ va_pl L f ++ [(q, e)] = va_pl (L ++ [q]) (va_up f q e) := by
  have h : q ∉ L := va_pl_fresh2 (X := []) (f := f) (e := e) (by simpa using hD)
  exact ⟨h, va_pl_push h⟩
/-- getfield -/
theorem pg_get (hx : p.tables.exec = Jvm.exec) (hb : c.code = cc) {own C : String} {T : u_T} {N ci index : Nat} {Ts : List Cond} (hts : ∀ w ∈ Ts, w.before args s = true) (hin : ∀ w ∈ u_ws C T N, w ∈ Ts) (hown : s.vm.findClass own = some m.cls) (hK : va_K D cl tys s) (hw : pw D cl A H0 H locs L f) (ha : a ∈ L) {fs : List Value} (he : f a = .inr (ci, fs)) (hc : cl[ci]? = some (C, T, N)) (k : Nat) (hk : k < N) (hlink : (Cond.fieldLink own index (T k).1 (T k).2.1 (T k).2.2.1).before args s = true) {v : Value} (hv : fs[k]? = some v) (hdg : decode cc pc = .ok (.getfield index, 3))
    (kk : W p l e R s m args below meth c H locs cells slots Q (F0 m (pc + 3) ls (v :: rest))) : W p l e R s m args below meth c H locs cells slots Q (F0 m pc ls (.ref a :: rest)) := by
  obtain ⟨q0, h0⟩ := pg_at ha he
  exact va_get hx hb hts hin hown hK hw.1 q0 h0 hc k hk hlink (fun _ h => h) hv hdg kk
/-- putfield -/
theorem pg_put (hx : p.tables.exec = Jvm.exec) (hb : c.code = cc) {own C : String} {T : u_T} {N ci index : Nat} {Ts : List Cond} (hts : ∀ w ∈ Ts, w.before args s = true) (hin : ∀ w ∈ u_ws C T N, w ∈ Ts) (ty0 : Nat → FieldType) (hty : ∀ k, k < N → parseFieldDescriptor (T k).2.2.1 = some (ty0 k)) (hnm : ∀ a, a < N → ∀ b, b < N → a ≠ b → (T a).2.1 ≠ (T b).2.1) (hown : s.vm.findClass own = some m.cls) (hK : va_K D cl tys s) (hw : pw D cl A H0 H locs L f) (ha : a ∈ L) {fs : List Value} (he : f a = .inr (ci, fs)) (hc : cl[ci]? = some (C, T, N)) (k : Nat) (hk : k < N) (hlink : (Cond.fieldLink own index (T k).1 (T k).2.1 (T k).2.2.1).before args s = true) (hfin : (T k).2.2.2 = false) {ty : FieldType} {v : Value} (hd : parseFieldDescriptor (T k).2.2.1 = some ty) (hn : narrow ty v = v) (hfit : fits ty v = true) (hl : k < fs.length) (hdg : decode cc pc = .ok (.putfield index, 3))
    (kk : ∀ (H1 : Heap) (locs1 : List Loc), pw D cl A H0 H1 locs1 L (va_up f a (.inr (ci, fs.set k v))) → W p l e R s m args below meth c H1 locs1 cells slots Q (F0 m (pc + 3) ls rest)) : W p l e R s m args below meth c H locs cells slots Q (F0 m pc ls (v :: .ref a :: rest)) := by
  obtain ⟨q0, h0⟩ := pg_at ha he
  refine va_put hx hb hts hin ty0 hty hnm hown hK hw.1 hw.2.1 hw.2.2 q0 h0 hc k hk hlink (fun _ h => h) hfin hd hn hfit hl hdg (fun H1 locs1 h1 h2 h3 => kk H1 locs1 ⟨?_, ?_, h3⟩)
  · rw [pg_set hw.2.1 ha he h0] at h1; exact h1
  · rw [pg_set hw.2.1 ha he h0] at h2; exact h2
/-- putfield of a final field, in a constructor -/
theorem pg_putF (hx : p.tables.exec = Jvm.exec) (hb : c.code = cc) {own C : String} {T : u_T} {N ci index : Nat} {Ts : List Cond} (hts : ∀ w ∈ Ts, w.before args s = true) (hin : ∀ w ∈ u_ws C T N, w ∈ Ts) (ty0 : Nat → FieldType) (hty : ∀ k, k < N → parseFieldDescriptor (T k).2.2.1 = some (ty0 k)) (hnm : ∀ a, a < N → ∀ b, b < N → a ≠ b → (T a).2.1 ≠ (T b).2.1) (hown : s.vm.findClass own = some m.cls) (hK : va_K D cl tys s) (hw : pw D cl A H0 H locs L f) (ha : a ∈ L) {fs : List Value} (he : f a = .inr (ci, fs)) (hc : cl[ci]? = some (C, T, N)) (k : Nat) (hk : k < N) (hlink : (Cond.fieldLink own index (T k).1 (T k).2.1 (T k).2.2.1).before args s = true) (hfin : (T k).2.2.2 = true) (hin2 : meth.name = "<init>") (hdecl : (T k).1 = own) {ty : FieldType} {v : Value} (hd : parseFieldDescriptor (T k).2.2.1 = some ty) (hn : narrow ty v = v) (hfit : fits ty v = true) (hl : k < fs.length) (hdg : decode cc pc = .ok (.putfield index, 3))
    (kk : ∀ (H1 : Heap) (locs1 : List Loc), pw D cl A H0 H1 locs1 L (va_up f a (.inr (ci, fs.set k v))) → W p l e R s m args below meth c H1 locs1 cells slots Q (F0 m (pc + 3) ls rest)) : W p l e R s m args below meth c H locs cells slots Q (F0 m pc ls (v :: .ref a :: rest)) := by
  obtain ⟨q0, h0⟩ := pg_at ha he
  refine va_putF hx hb hts hin ty0 hty hnm hown hK hw.1 hw.2.1 hw.2.2 q0 h0 hc k hk hlink (fun _ h => h) hfin hin2 hdecl hd hn hfit hl hdg (fun H1 locs1 h1 h2 h3 => kk H1 locs1 ⟨?_, ?_, h3⟩)
  · rw [pg_set hw.2.1 ha he h0] at h1; exact h1
  · rw [pg_set hw.2.1 ha he h0] at h2; exact h2
/-- a byte of an array -/
theorem pg_bald (hx : p.tables.exec = Jvm.exec) (hb : c.code = cc) (hK : va_K D cl tys s) (hw : pw D cl A H0 H locs L f) (ha : a ∈ L) {cA : ClassId} {n : Nat} {g : Nat → Int32} (he : f a = .inl (cA, n, .inl g)) (t0 : Nat) (ht : tys[t0]? = some (cA, .byte)) {i : Nat} (hin : i < n) (hn : n < 2 ^ 31) (hdg : decode cc pc = .ok (.baload, 1))
    (kk : W p l e R s m args below meth c H locs cells slots Q (F0 m (pc + 1) ls (.int (g i) :: rest))) : W p l e R s m args below meth c H locs cells slots Q (F0 m pc ls (.int (nI i) :: .ref a :: rest)) := by
  obtain ⟨q0, h0⟩ := pg_at ha he
  refine va_bald hx hb hK hw.1 q0 t0 h0 ht (vp_in_nI hin hn) hdg ?_
  rw [nI_clamp (Nat.lt_trans hin hn)]
  exact kk
theorem pg_iald (hx : p.tables.exec = Jvm.exec) (hb : c.code = cc) (hK : va_K D cl tys s) (hw : pw D cl A H0 H locs L f) (ha : a ∈ L) {cA : ClassId} {n : Nat} {g : Nat → Int32} (he : f a = .inl (cA, n, .inl g)) (t0 : Nat) (ht : tys[t0]? = some (cA, .int)) {i : Nat} (hin : i < n) (hn : n < 2 ^ 31) (hdg : decode cc pc = .ok (.iaload, 1))
    (kk : W p l e R s m args below meth c H locs cells slots Q (F0 m (pc + 1) ls (.int (g i) :: rest))) : W p l e R s m args below meth c H locs cells slots Q (F0 m pc ls (.int (nI i) :: .ref a :: rest)) := by
  obtain ⟨q0, h0⟩ := pg_at ha he
  refine va_iald hx hb hK hw.1 q0 t0 h0 ht (vp_in_nI hin hn) hdg ?_
  rw [nI_clamp (Nat.lt_trans hin hn)]
  exact kk
/-- a reference of an array -/
theorem pg_aald (hx : p.tables.exec = Jvm.exec) (hb : c.code = cc) (hK : va_K D cl tys s) (hw : pw D cl A H0 H locs L f) (ha : a ∈ L) {cA : ClassId} {C : String} {n : Nat} {g : Nat → Option Nat} (he : f a = .inl (cA, n, .inr (.inr (.inr (.inr g))))) (t0 : Nat) (ht : tys[t0]? = some (cA, .object C)) {i : Nat} (hin : i < n) (hn : n < 2 ^ 31) (hdg : decode cc pc = .ok (.aaload, 1))
    (kk : W p l e R s m args below meth c H locs cells slots Q (F0 m (pc + 1) ls (va_rf (g i) :: rest))) : W p l e R s m args below meth c H locs cells slots Q (F0 m pc ls (.int (nI i) :: .ref a :: rest)) := by
  obtain ⟨q0, h0⟩ := pg_at ha he
  refine va_aldq hx hb hK hw.1 q0 t0 h0 ht (vp_in_nI hin hn) hdg ?_
  rw [nI_clamp (Nat.lt_trans hin hn)]
  exact kk
/-- a byte is put -/
theorem pg_bast (hx : p.tables.exec = Jvm.exec) (hb : c.code = cc) (hK : va_K D cl tys s) (hw : pw D cl A H0 H locs L f) (ha : a ∈ L) {cA : ClassId} {n : Nat} {g : Nat → Int32} (he : f a = .inl (cA, n, .inl g)) (t0 : Nat) (ht : tys[t0]? = some (cA, .byte)) {i : Nat} {x y : Int32} (hy : vp_nar .byte x = y) (hin : i < n) (hn : n < 2 ^ 31) (hdg : decode cc pc = .ok (.bastore, 1))
    (kk : ∀ (H1 : Heap) (locs1 : List Loc), pw D cl A H0 H1 locs1 L (va_up f a (.inl (cA, n, .inl (upd g i y)))) → W p l e R s m args below meth c H1 locs1 cells slots Q (F0 m (pc + 1) ls rest)) : W p l e R s m args below meth c H locs cells slots Q (F0 m pc ls (.int x :: .int (nI i) :: .ref a :: rest)) := by
  obtain ⟨q0, h0⟩ := pg_at ha he
  refine va_bast hx hb hK hw.1 hw.2.1 hw.2.2 q0 t0 h0 ht (vp_in_nI hin hn) hdg (fun H1 locs1 h1 h2 h3 => kk H1 locs1 ⟨?_, ?_, h3⟩)
  · rw [nI_clamp (Nat.lt_trans hin hn), hy, pg_set hw.2.1 ha he h0] at h1; exact h1
  · rw [nI_clamp (Nat.lt_trans hin hn), hy, pg_set hw.2.1 ha he h0] at h2; exact h2
theorem pg_iast (hx : p.tables.exec = Jvm.exec) (hb : c.code = cc) (hK : va_K D cl tys s) (hw : pw D cl A H0 H locs L f) (ha : a ∈ L) {cA : ClassId} {n : Nat} {g : Nat → Int32} (he : f a = .inl (cA, n, .inl g)) (t0 : Nat) (ht : tys[t0]? = some (cA, .int)) {i : Nat} {x : Int32} (hin : i < n) (hn : n < 2 ^ 31) (hdg : decode cc pc = .ok (.iastore, 1))
    (kk : ∀ (H1 : Heap) (locs1 : List Loc), pw D cl A H0 H1 locs1 L (va_up f a (.inl (cA, n, .inl (upd g i x)))) → W p l e R s m args below meth c H1 locs1 cells slots Q (F0 m (pc + 1) ls rest)) : W p l e R s m args below meth c H locs cells slots Q (F0 m pc ls (.int x :: .int (nI i) :: .ref a :: rest)) := by
  obtain ⟨q0, h0⟩ := pg_at ha he
  refine va_iast hx hb hK hw.1 hw.2.1 hw.2.2 q0 t0 h0 ht (vp_in_nI hin hn) hdg (fun H1 locs1 h1 h2 h3 => kk H1 locs1 ⟨?_, ?_, h3⟩)
  · rw [nI_clamp (Nat.lt_trans hin hn), pg_set hw.2.1 ha he h0] at h1; exact h1
  · rw [nI_clamp (Nat.lt_trans hin hn), pg_set hw.2.1 ha he h0] at h2; exact h2
/-- a reference is put -/
theorem pg_aast (hx : p.tables.exec = Jvm.exec) (hb : c.code = cc) (hK : va_K D cl tys s) (hw : pw D cl A H0 H locs L f) (ha : a ∈ L) {cA : ClassId} {r : vw_C} {n v ci : Nat} {vs : List Value} {g : Nat → Option Nat} (he : f a = .inl (cA, n, .inr (.inr (.inr (.inr g))))) (t0 : Nat) (ht : tys[t0]? = some (cA, .object r.1)) (hv : v ∈ L) (hve : f v = .inr (ci, vs)) (hc : cl[ci]? = some r) {i : Nat} (hin : i < n) (hn : n < 2 ^ 31) (hdg : decode cc pc = .ok (.aastore, 1))
    (kk : ∀ (H1 : Heap) (locs1 : List Loc), pw D cl A H0 H1 locs1 L (va_up f a (.inl (cA, n, .inr (.inr (.inr (.inr (va_up g i (some v)))))))) → W p l e R s m args below meth c H1 locs1 cells slots Q (F0 m (pc + 1) ls rest)) : W p l e R s m args below meth c H locs cells slots Q (F0 m pc ls (.ref v :: .int (nI i) :: .ref a :: rest)) := by
  obtain ⟨q0, h0⟩ := pg_at ha he
  obtain ⟨q1, h9⟩ := pg_at hv hve
  refine va_astq hx hb hK hw.1 hw.2.1 hw.2.2 q0 t0 q1 ci h0 ht h9 hc (vp_in_nI hin hn) hdg (fun H1 locs1 h1 h2 h3 => kk H1 locs1 ⟨?_, ?_, h3⟩)
  · rw [nI_clamp (Nat.lt_trans hin hn), pg_set hw.2.1 ha he h0] at h1; exact h1
  · rw [nI_clamp (Nat.lt_trans hin hn), pg_set hw.2.1 ha he h0] at h2; exact h2
/-- arraylength -/
theorem pg_alen (hx : p.tables.exec = Jvm.exec) (hb : c.code = cc) (hK : va_K D cl tys s) (hw : pw D cl A H0 H locs L f) (ha : a ∈ L) {cA : ClassId} {x : vp_A} (he : f a = .inl (cA, x)) (t0 : Nat) {ty : FieldType} (ht : tys[t0]? = some (cA, ty)) (hdg : decode cc pc = .ok (.arraylength, 1))
    (kk : W p l e R s m args below meth c H locs cells slots Q (F0 m (pc + 1) ls (.int (nI x.1) :: rest))) : W p l e R s m args below meth c H locs cells slots Q (F0 m pc ls (.ref a :: rest)) := by
  obtain ⟨q0, h0⟩ := pg_at ha he
  exact va_alen hx hb hK hw.1 q0 t0 h0 ht rfl hdg kk
/-- new -/
theorem pg_new (hx : p.tables.exec = Jvm.exec) (hb : c.code = cc) {own C : String} {T : u_T} {N ci index : Nat} {Ts : List Cond} (hts : ∀ w ∈ Ts, w.before args s = true) (hin : ∀ w ∈ u_ws C T N, w ∈ Ts) (ty : Nat → FieldType) (hty : ∀ k, k < N → parseFieldDescriptor (T k).2.2.1 = some (ty k)) (hown : s.vm.findClass own = some m.cls) (hcl : (Cond.classLink own index C).before args s = true) (hinst : (Cond.instantiable C N).before args s = true) (hini : (Cond.initialized C).before args s = true)
    (hK : va_K D cl tys s) (hw : pw D cl A H0 H locs L f) (hA : ∀ q, H0.size ≤ q → A q) (hc : cl[ci]? = some (C, T, N)) {fs : List Value} (hfs : ∀ j, j < N → defaultValue (ty j) = vp_V fs j) (hcells : cells + 1 ≤ R.cells) (hslots : slots + N ≤ R.slots) (hdg : decode cc pc = .ok (.new index, 3))
    (kk : ∀ (q : Nat) (H1 : Heap), q ∉ L → pw D cl A H0 H1 locs (L ++ [q]) (va_up f q (.inr (ci, fs))) → W p l e R s m args below meth c H1 locs (cells + 1) (slots + N) Q (F0 m (pc + 3) ls (.ref q :: rest))) : W p l e R s m args below meth c H locs cells slots Q (F0 m pc ls rest) := by
  refine va_new hx hb hts hin ty hty hown hcl hinst hini hK hw.1 hw.2.1 hw.2.2 hA hc hfs hcells hslots hdg (fun q H1 h1 h2 h3 => ?_)
  obtain ⟨hq, he⟩ := pg_push h2
  rw [he] at h1 h2
  exact kk q H1 hq ⟨h1, h2, h3⟩
/-- a new array of bytes, or of ints -/
theorem pg_newa (hx : p.tables.exec = Jvm.exec) (hb : c.code = cc) {atype : ArrayType} (harr : (Cond.arrayClass (newarray.typeOf atype)).before args s = true) {ty : FieldType} (hty : newarray.typeOf atype = ty) (hK : va_K D cl tys s) (hw : pw D cl A H0 H locs L f) (hA : ∀ q, H0.size ≤ q → A q) {N' : Nat} {a0 : vp_A} (ha : ∀ cA : ClassId, vp_cell cA a0 = arrV cA N' (fun _ => defaultValue ty)) (hn : N' < 2 ^ 31) (hbytes : N' * componentBytes ty ≤ 536870912) (hcells : cells + 1 ≤ R.cells) (hslots : slots + N' ≤ R.slots) (hdg : decode cc pc = .ok (.newarray atype, 2))
    (kk : ∀ (q : Nat) (cA : ClassId) (H1 : Heap), va_K D cl (tys ++ [(cA, ty)]) s → q ∉ L → pw D cl A H0 H1 locs (L ++ [q]) (va_up f q (.inl (cA, a0))) → W p l e R s m args below meth c H1 locs (cells + 1) (slots + N') Q (F0 m (pc + 2) ls (.ref q :: rest))) : W p l e R s m args below meth c H locs cells slots Q (F0 m pc ls (.int (nI N') :: rest)) := by
  refine va_newa hx hb harr hty hK hw.1 hw.2.1 hw.2.2 hA ha (nI_pos hn) (nI_clamp hn) hbytes hcells hslots hdg (fun q cA H1 hk h1 h2 h3 => ?_)
  obtain ⟨hq, he⟩ := pg_push h2
  rw [he] at h1 h2
  exact kk q cA H1 hk hq ⟨h1, h2, h3⟩
/-- a new array of references -/
theorem pg_newq (hx : p.tables.exec = Jvm.exec) (hb : c.code = cc) {own C : String} {index : Nat} (hown : s.vm.findClass own = some m.cls) (hclink : (Cond.classLink own index C).before args s = true) (hover : va_AO C s) (hK : va_K D cl tys s) (hw : pw D cl A H0 H locs L f) (hA : ∀ q, H0.size ≤ q → A q) {N' : Nat} (hn : N' < 2 ^ 31) (hbytes : N' * 4 ≤ 536870912) (hcells : cells + 1 ≤ R.cells) (hslots : slots + N' ≤ R.slots) (hdg : decode cc pc = .ok (.anewarray index, 3))
    (kk : ∀ (q : Nat) (cA : ClassId) (H1 : Heap), va_K D cl (tys ++ [(cA, .object C)]) s → q ∉ L → pw D cl A H0 H1 locs (L ++ [q]) (va_up f q (.inl (cA, N', .inr (.inr (.inr (.inr (fun _ => none))))))) → W p l e R s m args below meth c H1 locs (cells + 1) (slots + N') Q (F0 m (pc + 3) ls (.ref q :: rest))) : W p l e R s m args below meth c H locs cells slots Q (F0 m pc ls (.int (nI N') :: rest)) := by
  refine va_newq hx hb hown hclink hover hK hw.1 hw.2.1 hw.2.2 hA (nI_pos hn) (nI_clamp hn) hbytes hcells hslots hdg (fun q cA H1 hk h1 h2 h3 => ?_)
  obtain ⟨hq, he⟩ := pg_push h2
  rw [he] at h1 h2
  exact kk q cA H1 hk hq ⟨h1, h2, h3⟩
/-- the top of the stack under another name -/
theorem tp_i {x v : Int32} (h : x = v) (k : W p l e R s m args below meth c H locs cells slots Q (F0 m pc ls (.int v :: rest))) : W p l e R s m args below meth c H locs cells slots Q (F0 m pc ls (.int x :: rest)) := by subst h; exact k
theorem tp_l {x v : Int64} (h : x = v) (k : W p l e R s m args below meth c H locs cells slots Q (F0 m pc ls (.long v :: rest))) : W p l e R s m args below meth c H locs cells slots Q (F0 m pc ls (.long x :: rest)) := by subst h; exact k
theorem tp_v {x v : Value} (h : x = v) (k : W p l e R s m args below meth c H locs cells slots Q (F0 m pc ls (v :: rest))) : W p l e R s m args below meth c H locs cells slots Q (F0 m pc ls (x :: rest)) := by subst h; exact k
theorem tp_2 {x v : Int32} {w : Value} (h : x = v) (k : W p l e R s m args below meth c H locs cells slots Q (F0 m pc ls (w :: .int v :: rest))) : W p l e R s m args below meth c H locs cells slots Q (F0 m pc ls (w :: .int x :: rest)) := by subst h; exact k
/-- the world may be told by another function that is the same -/
theorem pw_congr {g : Nat → va_E} (hw : pw D cl A H0 H locs L f) (h : ∀ a, f a = g a) : pw D cl A H0 H locs L g := by
  have : va_pl L f = va_pl L g := va_pl_congr h
  unfold pw at hw ⊢
  rw [← this]; exact hw
end PG
