/-! WHAT HOLDS AT THE START -/
theorem arr_of {s : State} {cA comp : ClassId} {kA : Class} {ty : FieldType} (h2 : s.vm.classes[cA]? = some kA) (h3 : kA.kind = .array comp ty) : ArrOfT s cA ty := fun _ _ => ⟨(fun k h => by cases h), kA, h2, comp, h3⟩
theorem ty_start {args : Array Value} {s : State} (hts : ∀ w ∈ lw_tbl, w.before args s = true) : ∃ kc : Nat → ClassId, ∀ (k : Nat) (q : ClassId × FieldType), (TY kc)[k]? = some q → ArrOfT s q.1 q.2 ∧ va_RA s q.1 q.2 := by
  obtain ⟨c0, k0, p0, a1, a2, a3⟩ := Cond.arrayClass_spec (hts (.arrayClass .byte) (by decide +kernel))
  obtain ⟨p1, c1, k1, b1, -, b2, b3, b4⟩ := Cond.arrayOver_spec (hts (.arrayOver (.object "PagedBytes$Memory")) (by decide +kernel))
  obtain ⟨p2, c2, k2, d1, -, d2, d3, d4⟩ := Cond.arrayOver_spec (hts (.arrayOver (.object "PagedBytes$Row")) (by decide +kernel))
  obtain ⟨c3, k3, p3, e1, e2, e3⟩ := Cond.arrayClass_spec (hts (.arrayClass .int) (by decide +kernel))
  obtain ⟨p4, c4, k4, g1, -, g2, g3, g4⟩ := arrayOverA_spec (hts (.arrayOver (.array .byte)) (by decide +kernel))
  obtain ⟨c5, k5, p5, i1, i2, i3⟩ := Cond.arrayClass_spec (hts (.arrayClass .long) (by decide +kernel))
  refine ⟨fun k => match k with | 0 => c0 | 1 => c1 | 2 => c2 | 3 => c3 | 4 => c4 | _ => c5, ?_⟩
  intro k q hk
  match k, hk with
  | 0, hk => cases hk; exact ⟨arr_of a2 a3, a1⟩
  | 1, hk => cases hk; exact ⟨arr_of b2 b3, k1, p1, b2, b3, b1, b4⟩
  | 2, hk => cases hk; exact ⟨arr_of d2 d3, k2, p2, d2, d3, d1, d4⟩
  | 3, hk => cases hk; exact ⟨arr_of e2 e3, e1⟩
  | 4, hk => cases hk; exact ⟨arr_of g2 g3, g4⟩
  | 5, hk => cases hk; exact ⟨arr_of i2 i3, i1⟩
  | k + 6, hk => cases hk
theorem K_start {args : Array Value} {s : State} (hts : ∀ w ∈ lw_tbl, w.before args s = true) : ∃ (D : va_G) (kc : Nat → ClassId), va_K D Cls (TY kc) s := by
  obtain ⟨kc, hk⟩ := ty_start hts
  obtain ⟨cM, iM, hM⟩ := u_known (T := T_M) (N := 3) hts (fun w h => gg_in (in_M w h)) (hts _ (gg_in k_it_M))
  obtain ⟨cW, iW, hW⟩ := u_known (T := T_W) (N := 1) hts (fun w h => gg_in (in_W w h)) (hts _ (gg_in k_it_W))
  obtain ⟨cP, iP, hP⟩ := u_known (T := T_P) (N := 4) hts (fun w h => gg_in (in_P w h)) (hts _ (gg_in k_it_P))
  obtain ⟨cD, iD, hD⟩ := u_known (T := T_D) (N := 8) hts (fun w h => gg_in (in_D w h)) (hts _ (gg_in k_it_D))
  refine ⟨(fun k => match k with | 0 => cM | 1 => cW | 2 => cP | _ => cD, fun k => match k with | 0 => iM | 1 => iW | 2 => iP | _ => iD), kc, ?_, hk⟩
  intro k q hq
  match k, hq with
  | 0, hq => cases hq; exact hM
  | 1, hq => cases hq; exact hW
  | 2, hq => cases hq; exact hP
  | 3, hq => cases hq; exact hD
  | k + 4, hq => cases hq
def gv : Cond := Jvm.Cond.and given_1 narrow_1
theorem exs_of {args : Array Value} {s : State} {n : String} {N : Nat} {tab : Nat → Int32} {A : Nat → Prop} (hts : ∀ w ∈ lw_tbl, w.before args s = true) (hs : ∀ w ∈ flatC gv, w.before args s = true) (hA : ∀ a : Nat, a < s.heap.size → ¬ A a) (hN : N < 2 ^ 31) (h1 : Cond.laysStatic "PagedBytes" n "[I" ∈ lw_tbl) (h2 : Cond.arrayOf (.static "PagedBytes" n "[I") .int ∈ flatC gv) (h3 : Cond.eq (.length (.static "PagedBytes" n "[I")) (.int (Int32.ofNat N)) ∈ flatC gv) (h4 : ∀ j, j < N → Cond.eq (.elem (.static "PagedBytes" n "[I") (.int (Int32.ofNat j))) (.int (tab j)) ∈ flatC gv) : EXs n N tab A s s.heap := by
  obtain ⟨t, e, hT⟩ := va_Tof (tm := .static "PagedBytes" n "[I") (ty := .int) (N := N) (f := fun j => .int (tab j)) hN (hs _ h2) (va_eqt (hs _ h3)) (fun j hj => va_eqt (hs _ (h4 j hj))) hA
  exact ⟨t, va_Zref (hts _ h1) (hts _ (gg_in k_in_P)) e hA, hT⟩
theorem str_of {args : Array Value} {s : State} (hts : ∀ w ∈ lw_tbl, w.before args s = true) (hs : ∀ w ∈ flatC gv, w.before args s = true) {k : Nat} {tx : String} (h1 : Cond.stringRef "PagedBytes" k tx ∈ lw_tbl) (h2 : Cond.exactly (.string "PagedBytes" k) "java/lang/String" ∈ flatC gv) : ∃ sa, vk_R "PagedBytes" k tx sa s := by
  obtain ⟨a, c, cA, kA, q1, -⟩ := Cond.exactly_spec (hs _ h2)
  exact ⟨a, vk_R.of (hts _ h1) q1⟩
theorem st_w : ∀ q ∈ STRs, Cond.stringRef "PagedBytes" q.1 q.2 ∈ lw_tbl := by decide +kernel
theorem st_x : ∀ q ∈ STRs, Cond.exactly (.string "PagedBytes" q.1) "java/lang/String" ∈ flatC gv := by decide +kernel
theorem nc_x : ∀ q ∈ NCp, Cond.not (.castable q.1 q.2) ∈ flatC gv := by decide +kernel
theorem EX_start {args : Array Value} {s : State} {A : Nat → Prop} (hts : ∀ w ∈ lw_tbl, w.before args s = true) (hs : ∀ w ∈ flatC gv, w.before args s = true) (hA : ∀ a : Nat, a < s.heap.size → ¬ A a) : EX A s s.heap := by
  refine ⟨⟨vx_Zqof (hts _ ?_) (hts _ (gg_in k_in_JThrowable)) (hs _ ?_) hA, vx_Zqof (hts _ ?_) (hts _ (gg_in k_in_JThrowable)) (hs _ ?_) hA⟩, fun w hw => va_Nw.of (dc_onTables (List.mem_filter.mp hw).2) (hts w (List.mem_filter.mp hw).1), fun q hq => va_Nc.of (hs _ (nc_x q hq)), va_AO.of (hts _ ?_), va_AO.of (hts _ ?_), hts (.arrayOver (.array .byte)) ?_, fun q hq => str_of hts hs (st_w q hq) (st_x q hq), ?_, ?_, ?_, ?_⟩
  · decide +kernel
  · decide +kernel
  · decide +kernel
  · decide +kernel
  · decide +kernel
  · decide +kernel
  · decide +kernel
  · exact exs_of hts hs hA (by decide) (by decide +kernel) (by decide +kernel) (by decide +kernel) (by decide +kernel)
  · exact exs_of hts hs hA (by decide) (by decide +kernel) (by decide +kernel) (by decide +kernel) (by decide +kernel)
  · exact exs_of hts hs hA (by decide) (by decide +kernel) (by decide +kernel) (by decide +kernel) (by decide +kernel)
  · exact exs_of hts hs hA (by decide) (by decide +kernel) (by decide +kernel) (by decide +kernel) (by decide +kernel)
