/-! THE LAW'S HELPERS: they catch what the class throws -/
section LH
variable {D : va_G} {kc : Nat → ClassId} {L : List Nat} {f : Nat → va_E} {sz : Nat} {av : List Value}
variable {p : Program} {l : Launch} {e : Env} {R : Room} {s : State} {m : MethodId} {args : Array Value} {below : List Frame} {meth : Method} {c : Code} {H : Heap} {locs : List Loc} {cells slots : Nat} {Q : State → Prop} {A : Nat → Prop}
variable {cc : ByteArray} {nL : Nat} {c0 : Cond} {own : String} {ret : Option FieldType} {pc : Nat} {ls : Array Slot} {rest st0 : List Value} {a : Nat} {hh : List (Nat × Nat × Nat × Nat)}
theorem kx_metH {y : MethodName} {rm : Room} {Qc : Array Value → State → Outcome → State → Prop} {XC : String → State → State → Prop} {mc ms : Nat} {free : Addr → Prop} {maxL : Nat} (hy : plainName y.cls = true) (hlen : (lg_sl av).length ≤ maxL)
    (body : ∀ (p : Program) (e : Env) (s : State) (m : MethodId) (below : List Frame) (meth : Method) (c : Code), Kx p m c cc maxL s av.toArray (Cond.codeWith y cc maxL ret hh) y.cls meth ret D kc (pA L f s.heap.size) → c.exceptionTable.toList = tableOf hh → pw D Cls (pA L f s.heap.size) s.heap s.heap [] L f → s.heap.size = sz → ∀ ls : Array Slot, lv_has ls maxL (lv_args 0 av) →
      W p l e rm s m av.toArray below meth c s.heap [] 0 0 (vx_MQ below Qc XC av.toArray s mc ms free) (F0 m 0 ls [])) : vx_Met l y (Cond.codeWith y cc maxL ret hh :: GG) rm (PP D kc L f sz av) Qc XC mc ms free := by
  refine vx_ofWH (cc := cc) (maxL := maxL) (ret := ret) (hh := hh) hy rfl ?_
  intro p e s m args below meth c s₁ B hml hv
  obtain ⟨rfl, hsz, hP, hK, hD0, hx⟩ := hv
  subst hsz
  have hl := lv_entry av (n := maxL) hlen
  rw [lg_entry_eq]
  exact body p e s m below meth c ⟨⟨⟨B.exec, B.bytes, hml, findClass_of_methodNamed B.named, atoms_spec (ws := Cond.codeWith y cc maxL ret hh :: GG) B.pre⟩, B.returns, B.notSynchronized⟩, hK, hx, fun q h => Or.inr h⟩ (vx_table (x := y) B (atoms_spec (ws := Cond.codeWith y cc maxL ret hh :: GG) B.pre _ List.mem_cons_self)) ⟨hP, hD0.self, va_S.rf⟩ rfl _ hl
/-- a throw is caught by the row z -/
theorem catchE {hp hs : List (Nat × Nat × Nat × Nat)} {z : Nat × Nat × Nat × Nat} {E : String} {ce : Cell} {q : Addr} (hC : Kx p m c cc nL s args c0 own meth ret D kc A) (hex : c.exceptionTable.toList = tableOf hh) (hsp : hh = hp ++ z :: hs) (hpass : ∀ y ∈ hp, y.2.2.2 ≠ 0 ∧ ∃ nm, Cond.classLink own y.2.2.2 nm ∈ GG ∧ (E, nm) ∈ NCp)
    (hcov : covers (⟨z.1, z.2.1, z.2.2.1, z.2.2.2⟩ : ExceptionTableEntry) pc = true) (h0 : z.2.2.2 ≠ 0) (hlink : Cond.classLink own z.2.2.2 E ∈ GG) (hcast : Cond.castable E E ∈ DC) (h1 : H[q]? = some ce) (h2 : ce.vm = .none) (h3 : s.vm.findClass E = some ce.cls) (tgt : Nat) (htgt : z.2.2.1 = tgt)
    (kk : W p l e R s m args below meth c H locs cells slots Q (F0 m tgt ls [.ref q])) : vx_W p l e R s m args below meth c H locs cells slots Q (F0 m pc ls rest) q := by
  obtain ⟨⟨⟨hx, hb, hml, hown, hts⟩, hr, hlocks⟩, hK, ⟨-, hDC, hNC, -⟩, hA⟩ := hC
  refine vx_catch (own := own) (name := E) hown (tableOf hp) ⟨z.1, z.2.1, z.2.2.1, z.2.2.2⟩ (tableOf hs) ?_ ?_ hcov h0 (hts _ (gg_mem hlink)) (va_Nw.use (dc_onTables rfl) (hDC _ hcast)) h1 h2 h3 (by subst htgt; exact kk)
  · rw [hex, hsp]
    unfold tableOf
    rw [List.map_append, List.map_cons]
  · intro y hy
    obtain ⟨y0, hy0, rfl⟩ := List.mem_map.mp hy
    obtain ⟨q1, nm, q2, q3⟩ := hpass y0 hy0
    exact Or.inr ⟨q1, nm, hts _ (gg_mem q2), hNC _ q3⟩
/-- a static call of a helper -/
theorem callHi {y : MethodName} {bytes : ByteArray} {maxL index mc ms n9 : Nat} {rt : Option FieldType} {rm : Room} {As : List Value} {post : Int32 → pU → Prop} (hC : Kx p m c cc nL s args c0 own meth ret D kc A) (hw : pw D Cls A s.heap H locs L f) (hM : vx_Met l y (Cond.codeWith y bytes maxL rt hh :: GG) rm (PP D kc L f H.size As) (Qi D L f H.size post) (XX D L f H.size (fun _ _ => False)) mc ms (pA L f H.size)) (hco : Cond.codeWith y bytes maxL rt hh ∈ GG) (hml : Cond.methodLink own index y ∈ GG) (him : Cond.static y ∈ GG) (hin : Cond.initialized y.cls ∈ GG) (hrc : rm.cells = mc) (hrs : rm.slots = ms) (hd : y.cls ≠ "java/lang/invoke/MethodHandle" ∧ y.cls ≠ "java/lang/invoke/VarHandle" ∧ (parseMethodDescriptor y.desc).map (fun d => d.parameters.length) = some n9) (hn9 : As.length = n9) (hR : rm.frames + 1 ≤ R.frames ∧ 8 + (maxL + 11) + rm.locals ≤ R.locals) (hsz : ls.size = nL) (hst : st0 = As.reverse ++ rest) (hW : (rest.map fun v => v.category).sum ≤ 8) (hdg : decode cc pc = .ok (.invokestatic index, 3)) (hf : cells + mc ≤ R.cells ∧ slots + ms ≤ R.slots)
    (kk : ∀ (r : Int32) (u : pU) (H1 : Heap) (locs1 : List Loc), post r u → pw D Cls A s.heap H1 locs1 u.1 u.2 → W p l e R s m args below meth c H1 locs1 (cells + mc) (slots + ms) Q (F0 m (pc + 3) ls (.int r :: rest))) : W p l e R s m args below meth c H locs cells slots Q (F0 m pc ls st0) :=
  pg_callXi (vx_runSX (rest := rest) hC.1.1 hM (vx_cwSW n9 hC.1.1.2.2.2.2 (gg_S hco hml him hin) rfl hrc hrs hd hR) (pg_preS EX_ok hC.2.1 hw hC.2.2.2 hC.2.2.1 As) rfl hn9 hsz hst (lv_room hW) hdg hf) hw hC.2.2.2 (fun _ _ _ _ _ _ ho => ho.elim) kk
/-- out[0] = x -/
theorem ast_J (hC : Kx p m c cc nL s args c0 own meth ret D kc A) (hw : pw D Cls A s.heap H locs L f) (ha : a ∈ L) {n : Nat} {g : Nat → Int64} (he : f a = .inl (kc 5, n, .inr (.inl g))) {x : Int64} (hin : 0 < n) (hdg : decode cc pc = .ok (.lastore, 1))
    (kk : ∀ (H1 : Heap) (locs1 : List Loc) (g' : Nat → Int64), g' 0 = x → pw D Cls A s.heap H1 locs1 L (va_up f a (.inl (kc 5, n, .inr (.inl g')))) → W p l e R s m args below meth c H1 locs1 cells slots Q (F0 m (pc + 1) ls rest)) : W p l e R s m args below meth c H locs cells slots Q (F0 m pc ls (.long x :: .int 0 :: .ref a :: rest)) := by
  obtain ⟨q0, h0⟩ := pg_at ha he
  have hz : (0 : Int32).toNatClampNeg = 0 := by decide
  have hi9 : vp_in 0 n := by
    intro h
    rcases h with h | h
    · exact absurd h (by decide)
    · rw [hz] at h; omega
  refine va_last hC.1.1.1 hC.1.1.2.1 hC.2.1 hw.1 hw.2.1 hw.2.2 q0 5 h0 rfl hi9 hdg (fun H1 locs1 h1 h2 h3 => kk H1 locs1 (vp_updL g 0 x) (by first | rfl | simp [vp_updL]) ⟨?_, ?_, h3⟩)
  · rw [hz, pg_set hw.2.1 ha he h0] at h1; exact h1
  · rw [hz, pg_set hw.2.1 ha he h0] at h2; exact h2
/-- out[0] -/
theorem ald_J (hC : Kx p m c cc nL s args c0 own meth ret D kc A) (hw : pw D Cls A s.heap H locs L f) (ha : a ∈ L) {n : Nat} {g : Nat → Int64} (he : f a = .inl (kc 5, n, .inr (.inl g))) (hin : 0 < n) (hdg : decode cc pc = .ok (.laload, 1))
    (kk : W p l e R s m args below meth c H locs cells slots Q (F0 m (pc + 1) ls (.long (g 0) :: rest))) : W p l e R s m args below meth c H locs cells slots Q (F0 m pc ls (.int 0 :: .ref a :: rest)) := by
  obtain ⟨q0, h0⟩ := pg_at ha he
  have hz : (0 : Int32).toNatClampNeg = 0 := by decide
  have hi9 : vp_in 0 n := by
    intro h
    rcases h with h | h
    · exact absurd h (by decide)
    · rw [hz] at h; omega
  refine va_lald hC.1.1.1 hC.1.1.2.1 hC.2.1 hw.1 q0 5 h0 rfl hi9 hdg ?_
  rw [hz]
  exact kk
end LH
/-- the law's own array -/
def OutA (kc : Nat → ClassId) (L : List Nat) (f : Nat → va_E) (tg : Nat → Nat × Nat) (o : Nat) (v : Int64) : Prop := o ∈ L ∧ tg o = (300, 0) ∧ ∃ g : Nat → Int64, f o = .inl (kc 5, 1, .inr (.inl g)) ∧ g 0 = v
def SO : Nat → Prop := fun i => SC i ∨ i = 300
/-- the state behind a helper that went through -/
def LO (kc : Nat → ClassId) (L : List Nat) (f : Nat → va_E) (tg : Nat → Nat × Nat) (x o nm : Nat) (mo : Nat → Int32) (om : Nat → Nat) (al : Nat) (bs : Nat → Nat → Nat) (v : Int64) (u : pU) : Prop := ∃ tg', rootP kc u.1 u.2 tg' x nm mo om al bs ∧ Ext SO L f tg u tg' ∧ OutA kc u.1 u.2 tg' o v
/-- .. that has nothing to put out -/
def LN (kc : Nat → ClassId) (L : List Nat) (f : Nat → va_E) (tg : Nat → Nat × Nat) (x nm : Nat) (mo : Nat → Int32) (om : Nat → Nat) (al : Nat) (bs : Nat → Nat → Nat) (u : pU) : Prop := ∃ tg', rootP kc u.1 u.2 tg' x nm mo om al bs ∧ Ext SC L f tg u tg'
theorem nSC300 : ¬ SC 300 := fun h => h.elim (fun q => absurd q (by decide)) (fun q => absurd q (by decide))
theorem lo_at {kc : Nat → ClassId} {L : List Nat} {f : Nat → va_E} {tg : Nat → Nat × Nat} {x o nm : Nat} {mo : Nat → Int32} {om : Nat → Nat} {al : Nat} {bs : Nat → Nat → Nat} {u : pU} {e : va_E} (h : LN kc L f tg x nm mo om al bs u) (ho : o ∈ L) (ht : tg o = (300, 0)) (hf : f o = e) : o ∈ u.1 ∧ u.2 o = e := by
  obtain ⟨tg', -, he⟩ := h
  exact ⟨he.1 _ ho, by rw [he.2.2.1 _ ho (by rw [ht]; exact nSC300)]; exact hf⟩
theorem lo_of {kc : Nat → ClassId} {L : List Nat} {f : Nat → va_E} {tg : Nat → Nat × Nat} {x o nm : Nat} {mo : Nat → Int32} {om : Nat → Nat} {al : Nat} {bs : Nat → Nat → Nat} {u : pU} {g' : Nat → Int64} {v : Int64} (hn : nm ≤ 24) (h : LN kc L f tg x nm mo om al bs u) (ho : o ∈ L) (ht : tg o = (300, 0)) (hv : g' 0 = v) : LO kc L f tg x o nm mo om al bs v (u.1, va_up u.2 o (.inl (kc 5, 1, .inr (.inl g')))) := by
  obtain ⟨tg', ⟨ms, cp, gm, hc, hg⟩, he⟩ := h
  have ht' : tg' o = (300, 0) := (he.2.1 _ ho).trans ht
  have hx : Ext (fun i => i = 300) u.1 u.2 tg' (u.1, va_up u.2 o (.inl (kc 5, 1, .inr (.inl g')))) tg' := Ext_up (by rw [ht'])
  refine ⟨tg', ⟨ms, cp, gm, hc, root_ext hg hn hx ?_⟩, (he.mono (fun i hi => Or.inl hi)).tr (hx.mono (fun i hi => Or.inr hi)), he.1 _ ho, ht', g', va_up_self _ _ _, hv⟩
  intro i hi
  rw [hi]
  omega
set_option maxHeartbeats 4000000 in
set_option maxRecDepth 100000 in
theorem c_L_pages (l : Launch) (hst : l.stackTraces = false) (D : va_G) (kc : Nat → ClassId) (L : List Nat) (f : Nat → va_E) (sz : Nat) (x ms cp : Nat) (gm : Nat → Option Nat) (hc : Nat → Int32) (tg : Nat → Nat × Nat) (nm : Nat) (mo : Nat → Int32) (om : Nat → Nat) (al : Nat) (bs : Nat → Nat → Nat) (hg : rootG kc L f tg x ms cp gm hc nm mo om al bs) (hs : stOK nm mo om al bs) (o : Nat) (g0 : Nat → Int64) (hoL : o ∈ L) (hto : tg o = (300, 0)) (hfo : f o = .inl (kc 5, 1, .inr (.inl g0))) (mm : Int32) : vx_Met l y_L_pages w_L_pages ({ frames := 8, cells := 1, slots := 6, locals := 124 }) (PP D kc L f sz [.ref x, .int mm, .ref o]) (Qi D L f sz (fun r u => (r = 0 ∧ ∃ k, k < nm ∧ mm = nI k ∧ LO kc L f tg x o nm mo om al bs (nI (cnt om al k)).toInt64 u) ∨ (r = 1 ∧ ¬ (∃ k, k < nm ∧ mm = nI k) ∧ u = (L, f)))) (XX D L f sz (fun _ _ => False)) 1 6 (pA L f sz) := by
  refine kx_metH (by decide) (Nat.le_of_ble_eq_true rfl) ?_
  intro p e s m below meth c hC hex hw hsz ls hl
  subst hsz
  have hl : lv_has ls 4 [(0, .ref x), (1, .int mm), (2, .ref o)] := hl
  obtain ⟨⟨⟨hx, hb, hml, hown, hts⟩, hret9, hlocks⟩, hK, hE, hA⟩ := id hC
  obtain ⟨⟨⟨hxL, htx, hfx⟩, ⟨hmsL, htms, hfms⟩, ⟨hcpL, htcp, hfcp⟩⟩, hgn, hgk9⟩ := id hg
  have hn24 := hs.1
  refine lv_aload_n hx hb d_L_pages_0 rfl (lv_at hl 2 rfl) ?_
  refine lv_iconst (v := 0) hx hb d_L_pages_1 (by decide) ?_
  refine lv_aload_n hx hb d_L_pages_2 rfl (lv_at hl 0 rfl) ?_
  refine lv_iload_n hx hb d_L_pages_3 rfl (lv_at hl 1 rfl) ?_
  refine callXVi (As := [.int mm]) (n9 := 1) hC hw (c_P_pages l hst D kc _ _ _ x ms cp gm hc tg nm mo om al bs hg hs mm) k_co_P_pages k_ml_L_19 k_im_P_pages k_se_P_pages k_in_P rfl rfl (by decide +kernel) rfl ⟨Nat.le_of_ble_eq_true rfl, Nat.le_of_ble_eq_true rfl⟩ hxL hfx rfl hl.1 rfl (Nat.le_of_ble_eq_true rfl) d_L_pages_4 ⟨Nat.le_of_ble_eq_true rfl, Nat.le_of_ble_eq_true rfl⟩ (fun E ce q9 u H locs ho hw h1 h2 h3 => ?_) (fun r9 u H locs hp hw => ?_)
  · obtain ⟨rfl, ho, hu⟩ := ho
    subst hu
    refine catchE (hp := []) (z := (0, 9, 12, 13)) (hs := []) (E := eIAE) hC hex rfl (fun _ h => nomatch h) (by decide) (by decide) k_cl_L_13 (by decide +kernel) h1 h2 h3 12 rfl ?_
    refine lv_astore_n (lv' := [(3, .ref q9), (0, .ref x), (1, .int mm), (2, .ref o)]) hx hb d_L_pages_12 rfl hl (by decide) rfl (fun ls hl => ?_)
    refine lv_iconst (v := 1) hx hb d_L_pages_13 (by decide) ?_
    exact vx_ret (pg_iret hC.1 hw (Or.inr ⟨rfl, ho, rfl⟩) d_L_pages_14)
  · obtain ⟨k, hk, hmk, rfl, rfl⟩ := hp
    refine lv_i2l hx hb d_L_pages_7 rfl ?_
    have hLN := (⟨tg, ⟨ms, cp, gm, hc, hg⟩, Ext.rf⟩ : LN kc L f tg x nm mo om al bs (L, f))
    obtain ⟨hoU, hfU⟩ := lo_at hLN hoL hto hfo
    refine ast_J hC hw hoU hfU (by decide) d_L_pages_8 (fun H locs g1 hg1 hw => ?_)
    refine lv_goto (tgt := 15) hx hb d_L_pages_9 (by decide) ?_
    refine lv_iconst (v := 0) hx hb d_L_pages_15 (by decide) ?_
    exact vx_ret (pg_iret hC.1 hw (Or.inl ⟨rfl, k, hk, hmk, lo_of hn24 hLN hoL hto hg1⟩) d_L_pages_16)
set_option maxHeartbeats 4000000 in
set_option maxRecDepth 100000 in
theorem c_L_make (l : Launch) (hst : l.stackTraces = false) (D : va_G) (kc : Nat → ClassId) (L : List Nat) (f : Nat → va_E) (sz : Nat) (x ms cp : Nat) (gm : Nat → Option Nat) (hc : Nat → Int32) (tg : Nat → Nat × Nat) (nm : Nat) (mo : Nat → Int32) (om : Nat → Nat) (al : Nat) (bs : Nat → Nat → Nat) (hg : rootG kc L f tg x ms cp gm hc nm mo om al bs) (hs : stOK nm mo om al bs) (o : Nat) (g0 : Nat → Int64) (hoL : o ∈ L) (hto : tg o = (300, 0)) (hfo : f o = .inl (kc 5, 1, .inr (.inl g0))) (least most : Int32) : vx_Met l y_L_make w_L_make ({ frames := 7, cells := 2, slots := 1027, locals := 105 }) (PP D kc L f sz [.ref x, .int least, .int most, .ref o]) (Qi D L f sz (fun r u => (r = 0 ∧ okM least most ∧ nm < 24 ∧ al + uI least ≤ 16 ∧ LO kc L f tg x o (nm + 1) (va_up mo nm most) (appN om al nm) (al + uI least) bs (nI nm).toInt64 u) ∨ (((r = 1 ∧ ¬ okM least most) ∨ (r = 2 ∧ okM least most ∧ nm = 24) ∨ (r = 3 ∧ okM least most ∧ nm < 24 ∧ ¬ (al + uI least ≤ 16))) ∧ u = (L, f)))) (XX D L f sz (fun _ _ => False)) 2 1027 (pA L f sz) := by
  refine kx_metH (by decide) (Nat.le_of_ble_eq_true rfl) ?_
  intro p e s m below meth c hC hex hw hsz ls hl
  subst hsz
  have hl : lv_has ls 5 [(0, .ref x), (1, .int least), (2, .int most), (3, .ref o)] := hl
  obtain ⟨⟨⟨hx, hb, hml, hown, hts⟩, hret9, hlocks⟩, hK, hE, hA⟩ := id hC
  obtain ⟨⟨⟨hxL, htx, hfx⟩, ⟨hmsL, htms, hfms⟩, ⟨hcpL, htcp, hfcp⟩⟩, hgn, hgk9⟩ := id hg
  have hn24 := hs.1
  refine lv_aload_n hx hb d_L_make_0 rfl (lv_at hl 3 rfl) ?_
  refine lv_iconst (v := 0) hx hb d_L_make_1 (by decide) ?_
  refine lv_aload_n hx hb d_L_make_2 rfl (lv_at hl 0 rfl) ?_
  refine lv_iload_n hx hb d_L_make_3 rfl (lv_at hl 1 rfl) ?_
  refine lv_iload_n hx hb d_L_make_4 rfl (lv_at hl 2 rfl) ?_
  refine callXVi (As := [.int least, .int most]) (n9 := 2) hC hw (c_P_make l hst D kc _ _ _ x ms cp gm hc tg nm mo om al bs hg hs least most) k_co_P_make k_ml_L_7 k_im_P_make k_se_P_make k_in_P rfl rfl (by decide +kernel) rfl ⟨Nat.le_of_ble_eq_true rfl, Nat.le_of_ble_eq_true rfl⟩ hxL hfx rfl hl.1 rfl (Nat.le_of_ble_eq_true rfl) d_L_make_5 ⟨Nat.le_of_ble_eq_true rfl, Nat.le_of_ble_eq_true rfl⟩ (fun E ce q9 u H locs ho hw h1 h2 h3 => ?_) (fun r9 u H locs hp hw => ?_)
  · obtain ⟨ho, hu⟩ := ho
    subst hu
    rcases ho with ⟨rfl, ho⟩ | ⟨rfl, ho⟩ | ⟨rfl, ho⟩
    · refine catchE (hp := []) (z := (0, 10, 13, 13)) (hs := [(0, 10, 17, 15), (0, 10, 21, 17)]) (E := eIAE) hC hex rfl (fun _ h => nomatch h) (by decide) (by decide) k_cl_L_13 (by decide +kernel) h1 h2 h3 13 rfl ?_
      refine lv_astore (lv' := [(4, .ref q9), (0, .ref x), (1, .int least), (2, .int most), (3, .ref o)]) hx hb d_L_make_13 hl (by decide) rfl (fun ls hl => ?_)
      refine lv_iconst (v := 1) hx hb d_L_make_15 (by decide) ?_
      exact vx_ret (pg_iret hC.1 hw (Or.inr ⟨Or.inl ⟨rfl, ho⟩, rfl⟩) d_L_make_16)
    · refine catchE (hp := [(0, 10, 13, 13)]) (z := (0, 10, 17, 15)) (hs := [(0, 10, 21, 17)]) (E := eISE) hC hex rfl (fun y hy => by rcases List.mem_singleton.mp hy with rfl; exact ⟨by decide, _, k_cl_L_13, by decide⟩) (by decide) (by decide) k_cl_L_15 (by decide +kernel) h1 h2 h3 17 rfl ?_
      refine lv_astore (lv' := [(4, .ref q9), (0, .ref x), (1, .int least), (2, .int most), (3, .ref o)]) hx hb d_L_make_17 hl (by decide) rfl (fun ls hl => ?_)
      refine lv_iconst (v := 2) hx hb d_L_make_19 (by decide) ?_
      exact vx_ret (pg_iret hC.1 hw (Or.inr ⟨Or.inr (Or.inl ⟨rfl, ho⟩), rfl⟩) d_L_make_20)
    · refine catchE (hp := [(0, 10, 13, 13), (0, 10, 17, 15)]) (z := (0, 10, 21, 17)) (hs := []) (E := eUOE) hC hex rfl (fun y hy => by rcases List.mem_cons.mp hy with rfl | hy <;> first | (rcases List.mem_singleton.mp hy with rfl; exact ⟨by decide, _, k_cl_L_15, by decide⟩) | exact ⟨by decide, _, k_cl_L_13, by decide⟩) (by decide) (by decide) k_cl_L_17 (by decide +kernel) h1 h2 h3 21 rfl ?_
      refine lv_astore (lv' := [(4, .ref q9), (0, .ref x), (1, .int least), (2, .int most), (3, .ref o)]) hx hb d_L_make_21 hl (by decide) rfl (fun ls hl => ?_)
      refine lv_iconst (v := 3) hx hb d_L_make_23 (by decide) ?_
      exact vx_ret (pg_iret hC.1 hw (Or.inr ⟨Or.inr (Or.inr ⟨rfl, ho⟩), rfl⟩) d_L_make_24)
  · obtain ⟨q1, q2, q3, rfl, hLN0⟩ := hp
    refine lv_i2l hx hb d_L_make_8 rfl ?_
    have hLN := (show LN kc L f tg x (nm + 1) (va_up mo nm most) (appN om al nm) (al + uI least) bs u from hLN0)
    obtain ⟨hoU, hfU⟩ := lo_at hLN hoL hto hfo
    refine ast_J hC hw hoU hfU (by decide) d_L_make_9 (fun H locs g1 hg1 hw => ?_)
    refine lv_goto (tgt := 25) hx hb d_L_make_10 (by decide) ?_
    refine lv_iconst (v := 0) hx hb d_L_make_25 (by decide) ?_
    exact vx_ret (pg_iret hC.1 hw (Or.inl ⟨rfl, q1, q2, q3, lo_of (by omega) hLN hoL hto hg1⟩) d_L_make_26)
set_option maxHeartbeats 4000000 in
set_option maxRecDepth 100000 in
theorem c_L_grow (l : Launch) (hst : l.stackTraces = false) (D : va_G) (kc : Nat → ClassId) (L : List Nat) (f : Nat → va_E) (sz : Nat) (x ms cp : Nat) (gm : Nat → Option Nat) (hc : Nat → Int32) (tg : Nat → Nat × Nat) (nm : Nat) (mo : Nat → Int32) (om : Nat → Nat) (al : Nat) (bs : Nat → Nat → Nat) (hg : rootG kc L f tg x ms cp gm hc nm mo om al bs) (hs : stOK nm mo om al bs) (o : Nat) (g0 : Nat → Int64) (hoL : o ∈ L) (hto : tg o = (300, 0)) (hfo : f o = .inl (kc 5, 1, .inr (.inl g0))) (mm gn : Int32) : vx_Met l y_L_grow w_L_grow ({ frames := 8, cells := 1, slots := 6, locals := 129 }) (PP D kc L f sz [.ref x, .int mm, .int gn, .ref o]) (Qi D L f sz (fun r u => (r = 0 ∧ ∃ k, k < nm ∧ mm = nI k ∧ ∃ lim, limP (mo k) lim ∧ ((¬ (cnt om al k + uI gn ≤ lim ∧ al + uI gn ≤ 16) ∧ LO kc L f tg x o nm mo om al bs (-1 : Int32).toInt64 u) ∨ (cnt om al k + uI gn ≤ lim ∧ al + uI gn ≤ 16 ∧ LO kc L f tg x o nm mo (appN om al k) (al + uI gn) bs (nI (cnt om al k)).toInt64 u))) ∨ (r = 1 ∧ ¬ (∃ k, k < nm ∧ mm = nI k) ∧ u = (L, f)))) (XX D L f sz (fun _ _ => False)) 1 6 (pA L f sz) := by
  refine kx_metH (by decide) (Nat.le_of_ble_eq_true rfl) ?_
  intro p e s m below meth c hC hex hw hsz ls hl
  subst hsz
  have hl : lv_has ls 5 [(0, .ref x), (1, .int mm), (2, .int gn), (3, .ref o)] := hl
  obtain ⟨⟨⟨hx, hb, hml, hown, hts⟩, hret9, hlocks⟩, hK, hE, hA⟩ := id hC
  obtain ⟨⟨⟨hxL, htx, hfx⟩, ⟨hmsL, htms, hfms⟩, ⟨hcpL, htcp, hfcp⟩⟩, hgn, hgk9⟩ := id hg
  have hn24 := hs.1
  refine lv_aload_n hx hb d_L_grow_0 rfl (lv_at hl 3 rfl) ?_
  refine lv_iconst (v := 0) hx hb d_L_grow_1 (by decide) ?_
  refine lv_aload_n hx hb d_L_grow_2 rfl (lv_at hl 0 rfl) ?_
  refine lv_iload_n hx hb d_L_grow_3 rfl (lv_at hl 1 rfl) ?_
  refine lv_iload_n hx hb d_L_grow_4 rfl (lv_at hl 2 rfl) ?_
  refine callXVi (As := [.int mm, .int gn]) (n9 := 2) hC hw (c_P_grow l hst D kc _ _ _ x ms cp gm hc tg nm mo om al bs hg hs mm gn) k_co_P_grow k_ml_L_23 k_im_P_grow k_se_P_grow k_in_P rfl rfl (by decide +kernel) rfl ⟨Nat.le_of_ble_eq_true rfl, Nat.le_of_ble_eq_true rfl⟩ hxL hfx rfl hl.1 rfl (Nat.le_of_ble_eq_true rfl) d_L_grow_5 ⟨Nat.le_of_ble_eq_true rfl, Nat.le_of_ble_eq_true rfl⟩ (fun E ce q9 u H locs ho hw h1 h2 h3 => ?_) (fun r9 u H locs hp hw => ?_)
  · obtain ⟨rfl, ho, hu⟩ := ho
    subst hu
    refine catchE (hp := []) (z := (0, 10, 13, 13)) (hs := []) (E := eIAE) hC hex rfl (fun _ h => nomatch h) (by decide) (by decide) k_cl_L_13 (by decide +kernel) h1 h2 h3 13 rfl ?_
    refine lv_astore (lv' := [(4, .ref q9), (0, .ref x), (1, .int mm), (2, .int gn), (3, .ref o)]) hx hb d_L_grow_13 hl (by decide) rfl (fun ls hl => ?_)
    refine lv_iconst (v := 1) hx hb d_L_grow_15 (by decide) ?_
    exact vx_ret (pg_iret hC.1 hw (Or.inr ⟨rfl, ho, rfl⟩) d_L_grow_16)
  · obtain ⟨k, hk, hmk, lim, hlim, ⟨q1, rfl, rfl⟩ | ⟨q1, q2, rfl, hLN0⟩⟩ := hp
    · refine lv_i2l hx hb d_L_grow_8 rfl ?_
      have hLN := (⟨tg, ⟨ms, cp, gm, hc, hg⟩, Ext.rf⟩ : LN kc L f tg x nm mo om al bs (L, f))
      obtain ⟨hoU, hfU⟩ := lo_at hLN hoL hto hfo
      refine ast_J hC hw hoU hfU (by decide) d_L_grow_9 (fun H locs g1 hg1 hw => ?_)
      refine lv_goto (tgt := 17) hx hb d_L_grow_10 (by decide) ?_
      refine lv_iconst (v := 0) hx hb d_L_grow_17 (by decide) ?_
      exact vx_ret (pg_iret hC.1 hw (Or.inl ⟨rfl, k, hk, hmk, lim, hlim, Or.inl ⟨q1, lo_of hn24 hLN hoL hto hg1⟩⟩) d_L_grow_18)
    · refine lv_i2l hx hb d_L_grow_8 rfl ?_
      have hLN := (show LN kc L f tg x nm mo (appN om al k) (al + uI gn) bs u from hLN0)
      obtain ⟨hoU, hfU⟩ := lo_at hLN hoL hto hfo
      refine ast_J hC hw hoU hfU (by decide) d_L_grow_9 (fun H locs g1 hg1 hw => ?_)
      refine lv_goto (tgt := 17) hx hb d_L_grow_10 (by decide) ?_
      refine lv_iconst (v := 0) hx hb d_L_grow_17 (by decide) ?_
      exact vx_ret (pg_iret hC.1 hw (Or.inl ⟨rfl, k, hk, hmk, lim, hlim, Or.inr ⟨q1, q2, lo_of hn24 hLN hoL hto hg1⟩⟩) d_L_grow_18)
set_option maxHeartbeats 4000000 in
set_option maxRecDepth 100000 in
theorem c_L_fits (l : Launch) (hst : l.stackTraces = false) (D : va_G) (kc : Nat → ClassId) (L : List Nat) (f : Nat → va_E) (sz : Nat) (x ms cp : Nat) (gm : Nat → Option Nat) (hc : Nat → Int32) (tg : Nat → Nat × Nat) (nm : Nat) (mo : Nat → Int32) (om : Nat → Nat) (al : Nat) (bs : Nat → Nat → Nat) (hg : rootG kc L f tg x ms cp gm hc nm mo om al bs) (hs : stOK nm mo om al bs) (o : Nat) (g0 : Nat → Int64) (hoL : o ∈ L) (hto : tg o = (300, 0)) (hfo : f o = .inl (kc 5, 1, .inr (.inl g0))) (mm least most : Int32) : vx_Met l y_L_fits w_L_fits ({ frames := 8, cells := 1, slots := 6, locals := 127 }) (PP D kc L f sz [.ref x, .int mm, .int least, .int most, .ref o]) (Qi D L f sz (fun r u => (r = 0 ∧ ∃ k, k < nm ∧ mm = nI k ∧ LO kc L f tg x o nm mo om al bs (if fitV (nI (cnt om al k)) (mo k) least most = 0 then 0 else 1) u) ∨ (r = 1 ∧ ¬ (∃ k, k < nm ∧ mm = nI k) ∧ u = (L, f)))) (XX D L f sz (fun _ _ => False)) 1 6 (pA L f sz) := by
  refine kx_metH (by decide) (Nat.le_of_ble_eq_true rfl) ?_
  intro p e s m below meth c hC hex hw hsz ls hl
  subst hsz
  have hl : lv_has ls 6 [(0, .ref x), (1, .int mm), (2, .int least), (3, .int most), (4, .ref o)] := hl
  obtain ⟨⟨⟨hx, hb, hml, hown, hts⟩, hret9, hlocks⟩, hK, hE, hA⟩ := id hC
  obtain ⟨⟨⟨hxL, htx, hfx⟩, ⟨hmsL, htms, hfms⟩, ⟨hcpL, htcp, hfcp⟩⟩, hgn, hgk9⟩ := id hg
  have hn24 := hs.1
  refine lv_aload hx hb d_L_fits_0 (lv_at hl 4 rfl) ?_
  refine lv_iconst (v := 0) hx hb d_L_fits_2 (by decide) ?_
  refine lv_aload_n hx hb d_L_fits_3 rfl (lv_at hl 0 rfl) ?_
  refine lv_iload_n hx hb d_L_fits_4 rfl (lv_at hl 1 rfl) ?_
  refine lv_iload_n hx hb d_L_fits_5 rfl (lv_at hl 2 rfl) ?_
  refine lv_iload_n hx hb d_L_fits_6 rfl (lv_at hl 3 rfl) ?_
  refine callXVi (As := [.int mm, .int least, .int most]) (n9 := 3) hC hw (c_P_fits l hst D kc _ _ _ x ms cp gm hc tg nm mo om al bs hg hs mm least most) k_co_P_fits k_ml_L_26 k_im_P_fits k_se_P_fits k_in_P rfl rfl (by decide +kernel) rfl ⟨Nat.le_of_ble_eq_true rfl, Nat.le_of_ble_eq_true rfl⟩ hxL hfx rfl hl.1 rfl (Nat.le_of_ble_eq_true rfl) d_L_fits_7 ⟨Nat.le_of_ble_eq_true rfl, Nat.le_of_ble_eq_true rfl⟩ (fun E ce q9 u H locs ho hw h1 h2 h3 => ?_) (fun r9 u H locs hp hw => ?_)
  · obtain ⟨rfl, ho, hu⟩ := ho
    subst hu
    refine catchE (hp := []) (z := (0, 19, 22, 13)) (hs := []) (E := eIAE) hC hex rfl (fun _ h => nomatch h) (by decide) (by decide) k_cl_L_13 (by decide +kernel) h1 h2 h3 22 rfl ?_
    refine lv_astore (lv' := [(5, .ref q9), (0, .ref x), (1, .int mm), (2, .int least), (3, .int most), (4, .ref o)]) hx hb d_L_fits_22 hl (by decide) rfl (fun ls hl => ?_)
    refine lv_iconst (v := 1) hx hb d_L_fits_24 (by decide) ?_
    exact vx_ret (pg_iret hC.1 hw (Or.inr ⟨rfl, ho, rfl⟩) d_L_fits_25)
  · obtain ⟨k, hk, hmk, hr9, rfl⟩ := hp
    refine lv_if_eq (tgt := 17) hx hb d_L_fits_10 (by decide) (fun c1 => ?_) (fun c1 => ?_)
    · refine lv_lconst (v := 0) hx hb d_L_fits_17 (by decide) ?_
      have hLN := (⟨tg, ⟨ms, cp, gm, hc, hg⟩, Ext.rf⟩ : LN kc L f tg x nm mo om al bs (L, f))
      obtain ⟨hoU, hfU⟩ := lo_at hLN hoL hto hfo
      refine ast_J hC hw hoU hfU (by decide) d_L_fits_18 (fun H locs g1 hg1 hw => ?_)
      refine lv_goto (tgt := 26) hx hb d_L_fits_19 (by decide) ?_
      refine lv_iconst (v := 0) hx hb d_L_fits_26 (by decide) ?_
      exact vx_ret (pg_iret hC.1 hw (Or.inl ⟨rfl, k, hk, hmk, lo_of hn24 hLN hoL hto (hg1.trans (by rw [← hr9, if_pos c1]))⟩) d_L_fits_27)
    · refine lv_lconst (v := 1) hx hb d_L_fits_13 (by decide) ?_
      refine lv_goto (tgt := 18) hx hb d_L_fits_14 (by decide) ?_
      have hLN := (⟨tg, ⟨ms, cp, gm, hc, hg⟩, Ext.rf⟩ : LN kc L f tg x nm mo om al bs (L, f))
      obtain ⟨hoU, hfU⟩ := lo_at hLN hoL hto hfo
      refine ast_J hC hw hoU hfU (by decide) d_L_fits_18 (fun H locs g1 hg1 hw => ?_)
      refine lv_goto (tgt := 26) hx hb d_L_fits_19 (by decide) ?_
      refine lv_iconst (v := 0) hx hb d_L_fits_26 (by decide) ?_
      exact vx_ret (pg_iret hC.1 hw (Or.inl ⟨rfl, k, hk, hmk, lo_of hn24 hLN hoL hto (hg1.trans (by rw [← hr9, if_neg c1]))⟩) d_L_fits_27)
set_option maxHeartbeats 4000000 in
set_option maxRecDepth 100000 in
theorem c_L_load (l : Launch) (hst : l.stackTraces = false) (D : va_G) (kc : Nat → ClassId) (L : List Nat) (f : Nat → va_E) (sz : Nat) (x ms cp : Nat) (gm : Nat → Option Nat) (hc : Nat → Int32) (tg : Nat → Nat × Nat) (nm : Nat) (mo : Nat → Int32) (om : Nat → Nat) (al : Nat) (bs : Nat → Nat → Nat) (hg : rootG kc L f tg x ms cp gm hc nm mo om al bs) (hs : stOK nm mo om al bs) (o : Nat) (g0 : Nat → Int64) (hoL : o ∈ L) (hto : tg o = (300, 0)) (hfo : f o = .inl (kc 5, 1, .inr (.inl g0))) (mm op ad of : Int32) : vx_Met l y_L_load w_L_load ({ frames := 9, cells := 3, slots := 18, locals := 160 }) (PP D kc L f sz [.ref x, .int mm, .int op, .int ad, .int of, .ref o]) (Qi D L f sz (fun r u => (r = 0 ∧ ∃ k, k < nm ∧ mm = nI k ∧ ∃ kd, kd < 14 ∧ op = nI (40 + kd) ∧ uI ad + uI of + szL kd ≤ 65536 * cnt om al k ∧ LO kc L f tg x o nm mo om al bs (loadV kd (lN (leN (bs k) (uI ad + uI of) (szL kd)))) u) ∨ (((r = 1 ∧ ¬ ((∃ k, k < nm ∧ mm = nI k) ∧ ∃ kd, kd < 14 ∧ op = nI (40 + kd))) ∨ (r = 2 ∧ ∃ k, k < nm ∧ mm = nI k ∧ ∃ kd, kd < 14 ∧ op = nI (40 + kd) ∧ ¬ (uI ad + uI of + szL kd ≤ 65536 * cnt om al k))) ∧ u = (L, f)))) (XX D L f sz (fun _ _ => False)) 3 18 (pA L f sz) := by
  refine kx_metH (by decide) (Nat.le_of_ble_eq_true rfl) ?_
  intro p e s m below meth c hC hex hw hsz ls hl
  subst hsz
  have hl : lv_has ls 7 [(0, .ref x), (1, .int mm), (2, .int op), (3, .int ad), (4, .int of), (5, .ref o)] := hl
  obtain ⟨⟨⟨hx, hb, hml, hown, hts⟩, hret9, hlocks⟩, hK, hE, hA⟩ := id hC
  obtain ⟨⟨⟨hxL, htx, hfx⟩, ⟨hmsL, htms, hfms⟩, ⟨hcpL, htcp, hfcp⟩⟩, hgn, hgk9⟩ := id hg
  have hn24 := hs.1
  refine lv_aload hx hb d_L_load_0 (lv_at hl 5 rfl) ?_
  refine lv_iconst (v := 0) hx hb d_L_load_2 (by decide) ?_
  refine lv_aload_n hx hb d_L_load_3 rfl (lv_at hl 0 rfl) ?_
  refine lv_iload_n hx hb d_L_load_4 rfl (lv_at hl 1 rfl) ?_
  refine lv_iload_n hx hb d_L_load_5 rfl (lv_at hl 2 rfl) ?_
  refine lv_iload_n hx hb d_L_load_6 rfl (lv_at hl 3 rfl) ?_
  refine lv_iload hx hb d_L_load_7 (lv_at hl 4 rfl) ?_
  refine callXVl (As := [.int mm, .int op, .int ad, .int of]) (n9 := 4) hC hw (c_P_load l hst D kc _ _ _ x ms cp gm hc tg nm mo om al bs hg hs mm op ad of) k_co_P_load k_ml_L_30 k_im_P_load k_se_P_load k_in_P rfl rfl (by decide +kernel) rfl ⟨Nat.le_of_ble_eq_true rfl, Nat.le_of_ble_eq_true rfl⟩ hxL hfx rfl hl.1 rfl (Nat.le_of_ble_eq_true rfl) d_L_load_9 ⟨Nat.le_of_ble_eq_true rfl, Nat.le_of_ble_eq_true rfl⟩ (fun E ce q9 u H locs ho hw h1 h2 h3 => ?_) (fun r9 u H locs hp hw => ?_)
  · obtain ⟨ho, hu⟩ := ho
    subst hu
    rcases ho with ⟨rfl, ho⟩ | ⟨rfl, ho⟩
    · refine catchE (hp := []) (z := (0, 13, 16, 13)) (hs := [(0, 13, 20, 34)]) (E := eIAE) hC hex rfl (fun _ h => nomatch h) (by decide) (by decide) k_cl_L_13 (by decide +kernel) h1 h2 h3 16 rfl ?_
      refine lv_astore (lv' := [(6, .ref q9), (0, .ref x), (1, .int mm), (2, .int op), (3, .int ad), (4, .int of), (5, .ref o)]) hx hb d_L_load_16 hl (by decide) rfl (fun ls hl => ?_)
      refine lv_iconst (v := 1) hx hb d_L_load_18 (by decide) ?_
      exact vx_ret (pg_iret hC.1 hw (Or.inr ⟨Or.inl ⟨rfl, ho⟩, rfl⟩) d_L_load_19)
    · refine catchE (hp := [(0, 13, 16, 13)]) (z := (0, 13, 20, 34)) (hs := []) (E := eIOB) hC hex rfl (fun y hy => by rcases List.mem_singleton.mp hy with rfl; exact ⟨by decide, _, k_cl_L_13, by decide⟩) (by decide) (by decide) k_cl_L_34 (by decide +kernel) h1 h2 h3 20 rfl ?_
      refine lv_astore (lv' := [(6, .ref q9), (0, .ref x), (1, .int mm), (2, .int op), (3, .int ad), (4, .int of), (5, .ref o)]) hx hb d_L_load_20 hl (by decide) rfl (fun ls hl => ?_)
      refine lv_iconst (v := 2) hx hb d_L_load_22 (by decide) ?_
      exact vx_ret (pg_iret hC.1 hw (Or.inr ⟨Or.inr ⟨rfl, ho⟩, rfl⟩) d_L_load_23)
  · obtain ⟨k, hk, hmk, kd, hkd, hop, hin9, hr9, rfl⟩ := hp
    have hLN := (⟨tg, ⟨ms, cp, gm, hc, hg⟩, Ext.rf⟩ : LN kc L f tg x nm mo om al bs (L, f))
    obtain ⟨hoU, hfU⟩ := lo_at hLN hoL hto hfo
    refine ast_J hC hw hoU hfU (by decide) d_L_load_12 (fun H locs g1 hg1 hw => ?_)
    refine lv_goto (tgt := 24) hx hb d_L_load_13 (by decide) ?_
    refine lv_iconst (v := 0) hx hb d_L_load_24 (by decide) ?_
    exact vx_ret (pg_iret hC.1 hw (Or.inl ⟨rfl, k, hk, hmk, kd, hkd, hop, hin9, lo_of hn24 hLN hoL hto (hg1.trans hr9)⟩) d_L_load_25)
set_option maxHeartbeats 4000000 in
set_option maxRecDepth 100000 in
theorem c_L_store (l : Launch) (hst : l.stackTraces = false) (D : va_G) (kc : Nat → ClassId) (L : List Nat) (f : Nat → va_E) (sz : Nat) (x ms cp : Nat) (gm : Nat → Option Nat) (hc : Nat → Int32) (tg : Nat → Nat × Nat) (nm : Nat) (mo : Nat → Int32) (om : Nat → Nat) (al : Nat) (bs : Nat → Nat → Nat) (hg : rootG kc L f tg x ms cp gm hc nm mo om al bs) (hs : stOK nm mo om al bs) (mm op ad of : Int32) (vl : Int64) : vx_Met l y_L_store w_L_store ({ frames := 9, cells := 7, slots := 2068, locals := 159 }) (PP D kc L f sz [.ref x, .int mm, .int op, .int ad, .int of, .long vl]) (Qi D L f sz (fun r u => (r = 0 ∧ ∃ k, k < nm ∧ mm = nI k ∧ ∃ kd, kd < 9 ∧ op = nI (54 + kd) ∧ uI ad + uI of + szS kd ≤ 65536 * cnt om al k ∧ LN kc L f tg x nm mo om al (va_up bs k (putN (bs k) (uI ad + uI of) (uL vl) (szS kd))) u) ∨ (((r = 1 ∧ ¬ ((∃ k, k < nm ∧ mm = nI k) ∧ ∃ kd, kd < 9 ∧ op = nI (54 + kd))) ∨ (r = 2 ∧ ∃ k, k < nm ∧ mm = nI k ∧ ∃ kd, kd < 9 ∧ op = nI (54 + kd) ∧ ¬ (uI ad + uI of + szS kd ≤ 65536 * cnt om al k))) ∧ u = (L, f)))) (XX D L f sz (fun _ _ => False)) 7 2068 (pA L f sz) := by
  refine kx_metH (by decide) (Nat.le_of_ble_eq_true rfl) ?_
  intro p e s m below meth c hC hex hw hsz ls hl
  subst hsz
  have hl : lv_has ls 8 [(0, .ref x), (1, .int mm), (2, .int op), (3, .int ad), (4, .int of), (5, .long vl)] := hl
  obtain ⟨⟨⟨hx, hb, hml, hown, hts⟩, hret9, hlocks⟩, hK, hE, hA⟩ := id hC
  obtain ⟨⟨⟨hxL, htx, hfx⟩, ⟨hmsL, htms, hfms⟩, ⟨hcpL, htcp, hfcp⟩⟩, hgn, hgk9⟩ := id hg
  have hn24 := hs.1
  refine lv_aload_n hx hb d_L_store_0 rfl (lv_at hl 0 rfl) ?_
  refine lv_iload_n hx hb d_L_store_1 rfl (lv_at hl 1 rfl) ?_
  refine lv_iload_n hx hb d_L_store_2 rfl (lv_at hl 2 rfl) ?_
  refine lv_iload_n hx hb d_L_store_3 rfl (lv_at hl 3 rfl) ?_
  refine lv_iload hx hb d_L_store_4 (lv_at hl 4 rfl) ?_
  refine lv_lload hx hb d_L_store_6 (lv_at hl 5 rfl) ?_
  refine callXVv (As := [.int mm, .int op, .int ad, .int of, .long vl]) (n9 := 5) hC hw (c_P_store l hst D kc _ _ _ x ms cp gm hc tg nm mo om al bs hg hs mm op ad of vl) k_co_P_store k_ml_L_36 k_im_P_store k_se_P_store k_in_P rfl rfl (by decide +kernel) rfl ⟨Nat.le_of_ble_eq_true rfl, Nat.le_of_ble_eq_true rfl⟩ hxL hfx rfl hl.1 rfl (Nat.le_of_ble_eq_true rfl) d_L_store_8 ⟨Nat.le_of_ble_eq_true rfl, Nat.le_of_ble_eq_true rfl⟩ (fun E ce q9 u H locs ho hw h1 h2 h3 => ?_) (fun u H locs hp hw => ?_)
  · obtain ⟨ho, hu⟩ := ho
    subst hu
    rcases ho with ⟨rfl, ho⟩ | ⟨rfl, ho⟩
    · refine catchE (hp := []) (z := (0, 11, 14, 13)) (hs := [(0, 11, 18, 34)]) (E := eIAE) hC hex rfl (fun _ h => nomatch h) (by decide) (by decide) k_cl_L_13 (by decide +kernel) h1 h2 h3 14 rfl ?_
      refine lv_astore (lv' := [(7, .ref q9), (0, .ref x), (1, .int mm), (2, .int op), (3, .int ad), (4, .int of), (5, .long vl)]) hx hb d_L_store_14 hl (by decide) rfl (fun ls hl => ?_)
      refine lv_iconst (v := 1) hx hb d_L_store_16 (by decide) ?_
      exact vx_ret (pg_iret hC.1 hw (Or.inr ⟨Or.inl ⟨rfl, ho⟩, rfl⟩) d_L_store_17)
    · refine catchE (hp := [(0, 11, 14, 13)]) (z := (0, 11, 18, 34)) (hs := []) (E := eIOB) hC hex rfl (fun y hy => by rcases List.mem_singleton.mp hy with rfl; exact ⟨by decide, _, k_cl_L_13, by decide⟩) (by decide) (by decide) k_cl_L_34 (by decide +kernel) h1 h2 h3 18 rfl ?_
      refine lv_astore (lv' := [(7, .ref q9), (0, .ref x), (1, .int mm), (2, .int op), (3, .int ad), (4, .int of), (5, .long vl)]) hx hb d_L_store_18 hl (by decide) rfl (fun ls hl => ?_)
      refine lv_iconst (v := 2) hx hb d_L_store_20 (by decide) ?_
      exact vx_ret (pg_iret hC.1 hw (Or.inr ⟨Or.inr ⟨rfl, ho⟩, rfl⟩) d_L_store_21)
  · obtain ⟨k, hk, hmk, kd, hkd, hop, hin9, hLN⟩ := hp
    refine lv_goto (tgt := 22) hx hb d_L_store_11 (by decide) ?_
    refine lv_iconst (v := 0) hx hb d_L_store_22 (by decide) ?_
    exact vx_ret (pg_iret hC.1 hw (Or.inl ⟨rfl, k, hk, hmk, kd, hkd, hop, hin9, hLN⟩) d_L_store_23)
set_option maxHeartbeats 4000000 in
set_option maxRecDepth 100000 in
theorem c_L_copy (l : Launch) (hst : l.stackTraces = false) (D : va_G) (kc : Nat → ClassId) (L : List Nat) (f : Nat → va_E) (sz : Nat) (x ms cp : Nat) (gm : Nat → Option Nat) (hc : Nat → Int32) (tg : Nat → Nat × Nat) (nm : Nat) (mo : Nat → Int32) (om : Nat → Nat) (al : Nat) (bs : Nat → Nat → Nat) (hg : rootG kc L f tg x ms cp gm hc nm mo om al bs) (hs : stOK nm mo om al bs) (mm fr m2 to9 cn : Int32) : vx_Met l y_L_copy w_L_copy ({ frames := 8, cells := 15, slots := 5155, locals := 132 }) (PP D kc L f sz [.ref x, .int mm, .int fr, .int m2, .int to9, .int cn]) (Qi D L f sz (fun r u => (r = 0 ∧ ∃ k1, k1 < nm ∧ mm = nI k1 ∧ ∃ k2, k2 < nm ∧ m2 = nI k2 ∧ ∃ nb, nb ≤ 4096 ∧ cn = nI nb ∧ ((nb = 0 ∧ LN kc L f tg x nm mo om al bs u) ∨ (0 < nb ∧ ∃ P, fr = nI P ∧ P + nb ≤ 65536 * cnt om al k1 ∧ ∃ P2, to9 = nI P2 ∧ P2 + nb ≤ 65536 * cnt om al k2 ∧ LN kc L f tg x nm mo om al (va_up bs k2 (cpN (bs k2) P2 nb (fun j => bs k1 (P + j)))) u))) ∨ (((r = 1 ∧ ¬ ((∃ k, k < nm ∧ mm = nI k) ∧ (∃ k, k < nm ∧ m2 = nI k) ∧ ¬ cn < 0 ∧ cn ≤ 4096)) ∨ (r = 2 ∧ ∃ k1, k1 < nm ∧ mm = nI k1 ∧ ∃ k2, k2 < nm ∧ m2 = nI k2 ∧ ∃ nb, nb ≤ 4096 ∧ cn = nI nb ∧ 0 < nb ∧ ¬ ((∃ P, fr = nI P ∧ P + nb ≤ 65536 * cnt om al k1) ∧ ∃ P2, to9 = nI P2 ∧ P2 + nb ≤ 65536 * cnt om al k2))) ∧ u = (L, f)))) (XX D L f sz (fun _ _ => False)) 15 5155 (pA L f sz) := by
  refine kx_metH (by decide) (Nat.le_of_ble_eq_true rfl) ?_
  intro p e s m below meth c hC hex hw hsz ls hl
  subst hsz
  have hl : lv_has ls 7 [(0, .ref x), (1, .int mm), (2, .int fr), (3, .int m2), (4, .int to9), (5, .int cn)] := hl
  obtain ⟨⟨⟨hx, hb, hml, hown, hts⟩, hret9, hlocks⟩, hK, hE, hA⟩ := id hC
  obtain ⟨⟨⟨hxL, htx, hfx⟩, ⟨hmsL, htms, hfms⟩, ⟨hcpL, htcp, hfcp⟩⟩, hgn, hgk9⟩ := id hg
  have hn24 := hs.1
  refine lv_aload_n hx hb d_L_copy_0 rfl (lv_at hl 0 rfl) ?_
  refine lv_iload_n hx hb d_L_copy_1 rfl (lv_at hl 1 rfl) ?_
  refine lv_iload_n hx hb d_L_copy_2 rfl (lv_at hl 2 rfl) ?_
  refine lv_iload_n hx hb d_L_copy_3 rfl (lv_at hl 3 rfl) ?_
  refine lv_iload hx hb d_L_copy_4 (lv_at hl 4 rfl) ?_
  refine lv_iload hx hb d_L_copy_6 (lv_at hl 5 rfl) ?_
  refine callXVv (As := [.int mm, .int fr, .int m2, .int to9, .int cn]) (n9 := 5) hC hw (c_P_copy l hst D kc _ _ _ x ms cp gm hc tg nm mo om al bs hg hs mm fr m2 to9 cn) k_co_P_copy k_ml_L_40 k_im_P_copy k_se_P_copy k_in_P rfl rfl (by decide +kernel) rfl ⟨Nat.le_of_ble_eq_true rfl, Nat.le_of_ble_eq_true rfl⟩ hxL hfx rfl hl.1 rfl (Nat.le_of_ble_eq_true rfl) d_L_copy_8 ⟨Nat.le_of_ble_eq_true rfl, Nat.le_of_ble_eq_true rfl⟩ (fun E ce q9 u H locs ho hw h1 h2 h3 => ?_) (fun u H locs hp hw => ?_)
  · obtain ⟨ho, hu⟩ := ho
    subst hu
    rcases ho with ⟨rfl, ho⟩ | ⟨rfl, ho⟩
    · refine catchE (hp := []) (z := (0, 11, 14, 13)) (hs := [(0, 11, 18, 34)]) (E := eIAE) hC hex rfl (fun _ h => nomatch h) (by decide) (by decide) k_cl_L_13 (by decide +kernel) h1 h2 h3 14 rfl ?_
      refine lv_astore (lv' := [(6, .ref q9), (0, .ref x), (1, .int mm), (2, .int fr), (3, .int m2), (4, .int to9), (5, .int cn)]) hx hb d_L_copy_14 hl (by decide) rfl (fun ls hl => ?_)
      refine lv_iconst (v := 1) hx hb d_L_copy_16 (by decide) ?_
      exact vx_ret (pg_iret hC.1 hw (Or.inr ⟨Or.inl ⟨rfl, ho⟩, rfl⟩) d_L_copy_17)
    · refine catchE (hp := [(0, 11, 14, 13)]) (z := (0, 11, 18, 34)) (hs := []) (E := eIOB) hC hex rfl (fun y hy => by rcases List.mem_singleton.mp hy with rfl; exact ⟨by decide, _, k_cl_L_13, by decide⟩) (by decide) (by decide) k_cl_L_34 (by decide +kernel) h1 h2 h3 18 rfl ?_
      refine lv_astore (lv' := [(6, .ref q9), (0, .ref x), (1, .int mm), (2, .int fr), (3, .int m2), (4, .int to9), (5, .int cn)]) hx hb d_L_copy_18 hl (by decide) rfl (fun ls hl => ?_)
      refine lv_iconst (v := 2) hx hb d_L_copy_20 (by decide) ?_
      exact vx_ret (pg_iret hC.1 hw (Or.inr ⟨Or.inr ⟨rfl, ho⟩, rfl⟩) d_L_copy_21)
  · obtain ⟨k1, hk1, hmk1, k2, hk2, hmk2, nb, hnb, hcn, hp⟩ := hp
    refine lv_goto (tgt := 22) hx hb d_L_copy_11 (by decide) ?_
    refine lv_iconst (v := 0) hx hb d_L_copy_22 (by decide) ?_
    exact vx_ret (pg_iret hC.1 hw (Or.inl ⟨rfl, k1, hk1, hmk1, k2, hk2, hmk2, nb, hnb, hcn, hp.elim (fun q => Or.inl ⟨q.1, q.2 ▸ (⟨tg, ⟨ms, cp, gm, hc, hg⟩, Ext.rf⟩ : LN kc L f tg x nm mo om al bs (L, f))⟩) Or.inr⟩) d_L_copy_23)
set_option maxHeartbeats 4000000 in
set_option maxRecDepth 100000 in
theorem c_L_sum (l : Launch) (hst : l.stackTraces = false) (D : va_G) (kc : Nat → ClassId) (L : List Nat) (f : Nat → va_E) (sz : Nat) (x ms cp : Nat) (gm : Nat → Option Nat) (hc : Nat → Int32) (tg : Nat → Nat × Nat) (nm : Nat) (mo : Nat → Int32) (om : Nat → Nat) (al : Nat) (bs : Nat → Nat → Nat) (hg : rootG kc L f tg x ms cp gm hc nm mo om al bs) (hs : stOK nm mo om al bs) (o : Nat) (g0 : Nat → Int64) (hoL : o ∈ L) (hto : tg o = (300, 0)) (hfo : f o = .inl (kc 5, 1, .inr (.inl g0))) (mm fr cn : Int32) : vx_Met l y_L_sum w_L_sum ({ frames := 8, cells := 3, slots := 18, locals := 129 }) (PP D kc L f sz [.ref x, .int mm, .int fr, .int cn, .ref o]) (Qi D L f sz (fun r u => (r = 0 ∧ ∃ k, k < nm ∧ mm = nI k ∧ ∃ nb, nb ≤ 65536 ∧ cn = nI nb ∧ ∃ r9 : Int32, ((nb = 0 ∧ r9 = 0) ∨ (0 < nb ∧ ∃ P, fr = nI P ∧ P + nb ≤ 65536 * cnt om al k ∧ r9 = wsum (bs k) P (nI nb) nb)) ∧ LO kc L f tg x o nm mo om al bs r9.toInt64 u) ∨ (((r = 1 ∧ ¬ ((∃ k, k < nm ∧ mm = nI k) ∧ ¬ cn < 0 ∧ cn ≤ 65536)) ∨ (r = 2 ∧ ∃ k, k < nm ∧ mm = nI k ∧ ∃ nb, nb ≤ 65536 ∧ cn = nI nb ∧ 0 < nb ∧ ¬ (∃ P, fr = nI P ∧ P + nb ≤ 65536 * cnt om al k))) ∧ u = (L, f)))) (XX D L f sz (fun _ _ => False)) 3 18 (pA L f sz) := by
  refine kx_metH (by decide) (Nat.le_of_ble_eq_true rfl) ?_
  intro p e s m below meth c hC hex hw hsz ls hl
  subst hsz
  have hl : lv_has ls 6 [(0, .ref x), (1, .int mm), (2, .int fr), (3, .int cn), (4, .ref o)] := hl
  obtain ⟨⟨⟨hx, hb, hml, hown, hts⟩, hret9, hlocks⟩, hK, hE, hA⟩ := id hC
  obtain ⟨⟨⟨hxL, htx, hfx⟩, ⟨hmsL, htms, hfms⟩, ⟨hcpL, htcp, hfcp⟩⟩, hgn, hgk9⟩ := id hg
  have hn24 := hs.1
  refine lv_aload hx hb d_L_sum_0 (lv_at hl 4 rfl) ?_
  refine lv_iconst (v := 0) hx hb d_L_sum_2 (by decide) ?_
  refine lv_aload_n hx hb d_L_sum_3 rfl (lv_at hl 0 rfl) ?_
  refine lv_iload_n hx hb d_L_sum_4 rfl (lv_at hl 1 rfl) ?_
  refine lv_iload_n hx hb d_L_sum_5 rfl (lv_at hl 2 rfl) ?_
  refine lv_iload_n hx hb d_L_sum_6 rfl (lv_at hl 3 rfl) ?_
  refine callXVi (As := [.int mm, .int fr, .int cn]) (n9 := 3) hC hw (c_P_sum l hst D kc _ _ _ x ms cp gm hc tg nm mo om al bs hg hs mm fr cn) k_co_P_sum k_ml_L_44 k_im_P_sum k_se_P_sum k_in_P rfl rfl (by decide +kernel) rfl ⟨Nat.le_of_ble_eq_true rfl, Nat.le_of_ble_eq_true rfl⟩ hxL hfx rfl hl.1 rfl (Nat.le_of_ble_eq_true rfl) d_L_sum_7 ⟨Nat.le_of_ble_eq_true rfl, Nat.le_of_ble_eq_true rfl⟩ (fun E ce q9 u H locs ho hw h1 h2 h3 => ?_) (fun r9 u H locs hp hw => ?_)
  · obtain ⟨ho, hu⟩ := ho
    subst hu
    rcases ho with ⟨rfl, ho⟩ | ⟨rfl, ho⟩
    · refine catchE (hp := []) (z := (0, 12, 15, 13)) (hs := [(0, 12, 19, 34)]) (E := eIAE) hC hex rfl (fun _ h => nomatch h) (by decide) (by decide) k_cl_L_13 (by decide +kernel) h1 h2 h3 15 rfl ?_
      refine lv_astore (lv' := [(5, .ref q9), (0, .ref x), (1, .int mm), (2, .int fr), (3, .int cn), (4, .ref o)]) hx hb d_L_sum_15 hl (by decide) rfl (fun ls hl => ?_)
      refine lv_iconst (v := 1) hx hb d_L_sum_17 (by decide) ?_
      exact vx_ret (pg_iret hC.1 hw (Or.inr ⟨Or.inl ⟨rfl, ho⟩, rfl⟩) d_L_sum_18)
    · refine catchE (hp := [(0, 12, 15, 13)]) (z := (0, 12, 19, 34)) (hs := []) (E := eIOB) hC hex rfl (fun y hy => by rcases List.mem_singleton.mp hy with rfl; exact ⟨by decide, _, k_cl_L_13, by decide⟩) (by decide) (by decide) k_cl_L_34 (by decide +kernel) h1 h2 h3 19 rfl ?_
      refine lv_astore (lv' := [(5, .ref q9), (0, .ref x), (1, .int mm), (2, .int fr), (3, .int cn), (4, .ref o)]) hx hb d_L_sum_19 hl (by decide) rfl (fun ls hl => ?_)
      refine lv_iconst (v := 2) hx hb d_L_sum_21 (by decide) ?_
      exact vx_ret (pg_iret hC.1 hw (Or.inr ⟨Or.inr ⟨rfl, ho⟩, rfl⟩) d_L_sum_22)
  · obtain ⟨k, hk, hmk, nb, hnb, hcn, hr9, rfl⟩ := hp
    refine lv_i2l hx hb d_L_sum_10 rfl ?_
    have hLN := (⟨tg, ⟨ms, cp, gm, hc, hg⟩, Ext.rf⟩ : LN kc L f tg x nm mo om al bs (L, f))
    obtain ⟨hoU, hfU⟩ := lo_at hLN hoL hto hfo
    refine ast_J hC hw hoU hfU (by decide) d_L_sum_11 (fun H locs g1 hg1 hw => ?_)
    refine lv_goto (tgt := 23) hx hb d_L_sum_12 (by decide) ?_
    refine lv_iconst (v := 0) hx hb d_L_sum_23 (by decide) ?_
    exact vx_ret (pg_iret hC.1 hw (Or.inl ⟨rfl, k, hk, hmk, nb, hnb, hcn, r9, hr9, lo_of hn24 hLN hoL hto hg1⟩) d_L_sum_24)
