/-! WHAT THE METHODS NEED OF THE MACHINE beside the pool: statics, constants, words on classes -/
def isDC : Cond → Bool
  | .declares _ => true
  | .castable _ _ => true
  | _ => false
def DC : List Cond := lw_tbl.filter isDC
theorem dc_onTables {w : Cond} (h : isDC w = true) : w.onTables = true := by cases w <;> first | rfl | cases h
theorem dc_warm {w : Cond} (hd : isDC w = true) {s U : State} (hW : s.WarmedH U.vm) (h : va_Nw w s) : va_Nw w U := by
  cases w with
  | declares x => exact va_Nw.warmD hW h
  | castable a b => exact va_Nw.warmC hW h
  | _ => cases hd
def eIAE : String := "java/lang/IllegalArgumentException"
def eISE : String := "java/lang/IllegalStateException"
def eUOE : String := "java/lang/UnsupportedOperationException"
def eIOB : String := "java/lang/IndexOutOfBoundsException"
def NCp : List (String × String) := [(eISE, eIAE), (eUOE, eIAE), (eUOE, eISE), (eIOB, eIAE)]
def STRs : List (Nat × String) := [(122, "there is no such memory"), (124, "there is no such load or store"), (126, "n is below 0 or too great"), (134, "a byte is not in the memory"), (29, "least is not 0 .. 65536"), (34, "most is below least or above 65536"), (38, "there are 24 memories"), (43, "all would have more than 16 pages")]
def AOA (U : State) : Prop := (Cond.arrayOver (.array .byte)).before #[] U = true
theorem AOA_moved {u U : State} (hvm : u.vm.Alike U.vm) (h : AOA u) : AOA U := by
  obtain ⟨comp, c, k, h1, h2, h3, h4, h5⟩ := arrayOverA_spec h
  obtain ⟨k', hk', he⟩ := hvm.2.2 _ _ h3
  have hi : (U.vm.classes.findIdx? fun (x : Class) => match x.kind with | .array component _ => component == comp | _ => false) = some c := by
    have hb1 := va_idx_bare U.vm comp
    have hb2 := va_idx_bare u.vm comp
    have e9 : U.vm.bare = u.vm.bare := by first | exact hvm.bare_eq | exact hvm.bare_eq.symm
    rw [e9] at hb1
    exact hb1.symm.trans (hb2.trans h2)
  have hkind : k'.kind = .array comp (.array .byte) := by rw [he]; exact h4
  have f1 : U.vm.findClass (FieldType.array .byte).toString = some comp := by rw [hvm.findClass]; exact h1
  have f2 : U.vm.findClass ("[" ++ (FieldType.array .byte).toString) = some c := by rw [hvm.findClass]; exact h5
  unfold AOA Cond.before Cond.holds
  simp only [Cond.value]
  rw [f1, Option.bind_some]
  refine (congrArg (fun o : Option Nat => (o.bind (fun c => (U.vm.classes[c]?).map fun (k : Class) => match k.kind with | .array _ ty => decide (ty = FieldType.array .byte) && decide (U.vm.findClass ("[" ++ (FieldType.array .byte).toString) = some c) | _ => false) == some true)) hi).trans ?_
  simp [hk', hkind, f2]
/-- a static array of ints that is never changed -/
def EXs (n : String) (N : Nat) (tab : Nat → Int32) (A : Nat → Prop) (U : State) (H : Heap) : Prop := ∃ t : Nat, va_Z "PagedBytes" n "[I" (.ref t) A U H ∧ va_T .int t N (fun j => .int (tab j)) A U H
def tLB : Nat → Int32 := fun j => [4, 8, 4, 8, 1, 1, 2, 2, 1, 1, 2, 2, 4, 4].getD j 0
def tLS : Nat → Int32 := fun j => [0, 0, 0, 0, 1, 0, 1, 0, 1, 0, 1, 0, 1, 0].getD j 0
def tLT : Nat → Int32 := fun j => [4, 8, 4, 8, 4, 4, 4, 4, 8, 8, 8, 8, 8, 8].getD j 0
def tSB : Nat → Int32 := fun j => [4, 8, 4, 8, 1, 2, 1, 2, 4].getD j 0
def EX (A : Nat → Prop) (U : State) (H : Heap) : Prop :=
  (vx_Zq Bundle.tN "UNASSIGNED_STACK" Bundle.steD A U H ∧ vx_Zq Bundle.tN "SUPPRESSED_SENTINEL" Bundle.listD A U H) ∧ (∀ w ∈ DC, va_Nw w U) ∧ (∀ q ∈ NCp, va_Nc q.1 q.2 U) ∧ va_AO R_M U ∧ va_AO R_W U ∧ AOA U ∧ (∀ q ∈ STRs, ∃ sa, vk_R "PagedBytes" q.1 q.2 sa U) ∧
  EXs "LOAD_BYTES" 14 tLB A U H ∧ EXs "LOAD_SIGNED" 14 tLS A U H ∧ EXs "LOAD_TYPE_BYTES" 14 tLT A U H ∧ EXs "STORE_BYTES" 9 tSB A U H
theorem EXs_moved {n : String} {N : Nat} {tab : Nat → Int32} {A : Nat → Prop} {u U : State} {H : Heap} (hvm : u.vm.Alike U.vm) (h : EXs n N tab A u H) : EXs n N tab A U H := by
  obtain ⟨t, h1, h2⟩ := h
  exact ⟨t, h1.moved hvm, h2.moved hvm⟩
theorem EXs_kept {n : String} {N : Nat} {tab : Nat → Int32} {A : Nat → Prop} {U : State} {H H1 : Heap} (h : EXs n N tab A U H) (hq : ∀ a : Nat, a < H.size → ¬ A a → H1[a]? = H[a]?) : EXs n N tab A U H1 := by
  obtain ⟨t, h1, h2⟩ := h
  exact ⟨t, h1.kept hq, h2.kept hq⟩
theorem EXs_narrow {n : String} {N : Nat} {tab : Nat → Int32} {A B : Nat → Prop} {U : State} {H : Heap} (h : EXs n N tab A U H) (hAB : ∀ q, B q → A q) : EXs n N tab B U H := by
  obtain ⟨t, h1, h2⟩ := h
  exact ⟨t, h1.narrow hAB, h2.narrow hAB⟩
theorem EX_ok : pX EX := by
  refine ⟨fun A u U H hW h => ?_, fun A U H H1 h hq => ?_, fun A B U H h hAB => ?_⟩
  · obtain ⟨⟨a1, a2⟩, b, c, d1, d2, d3, e, f1, f2, f3, f4⟩ := h
    exact ⟨⟨a1.moved hW.alike, a2.moved hW.alike⟩, fun w hw => dc_warm (List.mem_filter.mp hw).2 hW (b w hw), fun q hq => (c q hq).moved hW.alike, d1.moved hW.alike, d2.moved hW.alike, AOA_moved hW.alike d3, fun q hq => by obtain ⟨sa, h⟩ := e q hq; exact ⟨sa, h.warm hW⟩, EXs_moved hW.alike f1, EXs_moved hW.alike f2, EXs_moved hW.alike f3, EXs_moved hW.alike f4⟩
  · obtain ⟨⟨a1, a2⟩, b, c, d1, d2, d3, e, f1, f2, f3, f4⟩ := h
    exact ⟨⟨a1.kept hq, a2.kept hq⟩, b, c, d1, d2, d3, e, EXs_kept f1 hq, EXs_kept f2 hq, EXs_kept f3 hq, EXs_kept f4 hq⟩
  · obtain ⟨⟨a1, a2⟩, b, c, d1, d2, d3, e, f1, f2, f3, f4⟩ := h
    exact ⟨⟨a1.narrow hAB, a2.narrow hAB⟩, b, c, d1, d2, d3, e, EXs_narrow f1 hAB, EXs_narrow f2 hAB, EXs_narrow f3 hAB, EXs_narrow f4 hAB⟩
/-! the array classes, one number a kind -/
def TY (kc : Nat → ClassId) : List (ClassId × FieldType) := [(kc 0, .byte), (kc 1, .object R_M), (kc 2, .object R_W), (kc 3, .int), (kc 4, .array .byte), (kc 5, .long)]
section TYs
variable {D : va_G} {cl : List vw_C} {kc : Nat → ClassId} {s : State} {cA : ClassId}
theorem ty_same0 (h : va_K D cl (TY kc ++ [(cA, .byte)]) s) : cA = kc 0 := Option.some.inj ((show s.vm.findClass _ = some cA from (h.2 6 _ rfl).2).symm.trans (h.2 0 _ rfl).2)
theorem ty_same3 (h : va_K D cl (TY kc ++ [(cA, .int)]) s) : cA = kc 3 := Option.some.inj ((show s.vm.findClass _ = some cA from (h.2 6 _ rfl).2).symm.trans (h.2 3 _ rfl).2)
theorem ty_same5 (h : va_K D cl (TY kc ++ [(cA, .long)]) s) : cA = kc 5 := Option.some.inj ((show s.vm.findClass _ = some cA from (h.2 6 _ rfl).2).symm.trans (h.2 5 _ rfl).2)
theorem ty_same1 (h : va_K D cl (TY kc ++ [(cA, .object R_M)]) s) : cA = kc 1 := by
  obtain ⟨_, _, _, _, _, h1⟩ := (h.2 6 _ rfl).2
  obtain ⟨_, _, _, _, _, h2⟩ := (h.2 1 _ rfl).2
  exact Option.some.inj (h1.symm.trans h2)
theorem ty_same2 (h : va_K D cl (TY kc ++ [(cA, .object R_W)]) s) : cA = kc 2 := by
  obtain ⟨_, _, _, _, _, h1⟩ := (h.2 6 _ rfl).2
  obtain ⟨_, _, _, _, _, h2⟩ := (h.2 2 _ rfl).2
  exact Option.some.inj (h1.symm.trans h2)
end TYs
/-! the words of a call, all methods having the same words GG -/
theorem gg_V {c0 c1 : Cond} {own C : String} {idx : Nat} {y : MethodName} (h0 : c1 ∈ GG) (h1 : Cond.methodLink own idx y ∈ GG) (h2 : Cond.instanceMethod y ∈ GG) (h3 : Cond.selects C y y ∈ GG) (h4 : Cond.initialized C ∈ GG) : GoodIn (c0 :: GG) (wsV own idx C y (c1 :: GG)) := by
  intro w hw
  have : w ∈ GG := by
    rcases List.mem_append.mp hw with h | h
    · simp only [List.mem_cons, List.not_mem_nil, or_false] at h
      rcases h with rfl | rfl | rfl | rfl <;> assumption
    · rcases List.mem_cons.mp h with rfl | h
      · exact h0
      · exact h
  exact ⟨List.mem_cons_of_mem _ this, good_of_word (gg_good this)⟩
theorem gg_S {c0 c1 : Cond} {own : String} {idx : Nat} {y : MethodName} (h0 : c1 ∈ GG) (h1 : Cond.methodLink own idx y ∈ GG) (h2 : Cond.static y ∈ GG) (h4 : Cond.initialized y.cls ∈ GG) : GoodIn (c0 :: GG) (va_wsS own idx y (c1 :: GG)) := by
  intro w hw
  have : w ∈ GG := by
    rcases List.mem_append.mp hw with h | h
    · simp only [List.mem_cons, List.not_mem_nil, or_false] at h
      rcases h with rfl | rfl | rfl <;> assumption
    · rcases List.mem_cons.mp h with rfl | h
      · exact h0
      · exact h
  exact ⟨List.mem_cons_of_mem _ this, good_of_word (gg_good this)⟩
theorem gg_I {c0 c1 : Cond} (h0 : c1 ∈ GG) : GoodIn (c0 :: GG) (c1 :: GG) := by
  intro w hw
  have : w ∈ GG := by
    rcases List.mem_cons.mp hw with rfl | h
    · exact h0
    · exact h
  exact ⟨List.mem_cons_of_mem _ this, good_of_word (gg_good this)⟩
theorem gg_mem {c0 w : Cond} (h : w ∈ GG) : w ∈ c0 :: GG := List.mem_cons_of_mem _ h
