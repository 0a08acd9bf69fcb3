/-! THE LAW'S CASES -/
section LC
variable {D : va_G} {kc : Nat → ClassId} {L : List Nat} {f : Nat → va_E}
variable {p : Program} {l : Launch} {e : Env} {R : Room} {s : State} {m : MethodId} {args : Array Value} {below : List Frame} {meth : Method} {c : Code} {H : Heap} {locs : List Loc} {cells slots : Nat} {Q : State → Prop} {A : Nat → Prop}
variable {cc : ByteArray} {nL : Nat} {c0 : Cond} {own : String} {ret : Option FieldType} {pc : Nat} {ls : Array Slot} {rest : List Value}
/-- script[i + j] -/
theorem sld {b N : Nat} {xs : Nat → Int32} (hC : Kx p m c cc nL s args c0 own meth ret D kc A) (hX : va_X b N xs s s.heap) (hbl : b < s.heap.size) (hbA : ¬ A b) (hw : pw D Cls A s.heap H locs L f) {i j : Nat} {v : Int32} (hv : v = nI j) (hj : i + j < N) (hN : N ≤ 3584) (hdg : decode cc pc = .ok (.iaload, 1))
    (kk : W p l e R s m args below meth c H locs cells slots Q (F0 m (pc + 1) ls (.int (xs (i + j)) :: rest))) : W p l e R s m args below meth c H locs cells slots Q (F0 m pc ls (.int (nI i + v) :: .ref b :: rest)) := by
  subst hv
  rw [nI_add]
  refine va_sld hC.1.1.1 hC.1.1.2.1 hX hbl hbA hw.2.2 (vp_in_nI hj (by omega)) hdg ?_
  rw [nI_clamp (by omega)]
  exact kk
theorem sld0 {b N : Nat} {xs : Nat → Int32} (hC : Kx p m c cc nL s args c0 own meth ret D kc A) (hX : va_X b N xs s s.heap) (hbl : b < s.heap.size) (hbA : ¬ A b) (hw : pw D Cls A s.heap H locs L f) {i : Nat} (hj : i < N) (hN : N ≤ 3584) (hdg : decode cc pc = .ok (.iaload, 1))
    (kk : W p l e R s m args below meth c H locs cells slots Q (F0 m (pc + 1) ls (.int (xs i) :: rest))) : W p l e R s m args below meth c H locs cells slots Q (F0 m pc ls (.int (nI i) :: .ref b :: rest)) := by
  refine va_sld hC.1.1.1 hC.1.1.2.1 hX hbl hbA hw.2.2 (vp_in_nI hj (by omega)) hdg ?_
  rw [nI_clamp (by omega)]
  exact kk
end LC
theorem nSO200 : ¬ SO 200 := fun h => h.elim (fun h => h.elim (fun q => absurd q (by decide)) (fun q => absurd q (by decide))) (fun q => absurd q (by decide))
theorem rP_ext {kc : Nat → ClassId} {u u2 : pU} {tg tg2 : Nat → Nat × Nat} {x : Nat} {S : ST} (h : rP kc u tg x S) (hs : okS S) (he : Ext SD u.1 u.2 tg u2 tg2) : rP kc u2 tg2 x S := by
  obtain ⟨ms, cp, gm, hc, hg⟩ := h
  exact ⟨ms, cp, gm, hc, root_ext hg hs.1 he (fun i hi => by have : i = 200 := hi; omega)⟩
theorem oA_ext {kc : Nat → ClassId} {u u2 : pU} {tg tg2 : Nat → Nat × Nat} {o : Nat} {v : Int64} (h : OutA kc u.1 u.2 tg o v) (he : Ext SD u.1 u.2 tg u2 tg2) : OutA kc u2.1 u2.2 tg2 o v := by
  obtain ⟨h1, h2, g, h3, h4⟩ := h
  have h0 : ¬ SD (tg o).1 := by rw [h2]; intro q; exact absurd (show (300 : Nat) = 200 from q) (by decide)
  exact ⟨he.1 _ h1, (he.2.1 _ h1).trans h2, g, (he.2.2.1 _ h1 h0).trans h3, h4⟩
theorem oA_c {kc : Nat → ClassId} {L : List Nat} {f : Nat → va_E} {u2 : pU} {tg tg2 : Nat → Nat × Nat} {o : Nat} {v : Int64} (h : OutA kc L f tg o v) (he : Ext SC L f tg u2 tg2) : OutA kc u2.1 u2.2 tg2 o v := by
  obtain ⟨h1, h2, g, h3, h4⟩ := h
  exact ⟨he.1 _ h1, (he.2.1 _ h1).trans h2, g, (he.2.2.1 _ h1 (by rw [h2]; exact nSC300)).trans h3, h4⟩
theorem cmp_self (x : Int64) : lg_cmp x x = 0 := by
  unfold lg_cmp
  simp
theorem mid_make {kc : Nat → ClassId} {L : List Nat} {f : Nat → va_E} {tg : Nat → Nat × Nat} {x o : Nat} {nm : Nat} {mo : Nat → Int32} {om : Nat → Nat} {al : Nat} {bs : Nat → Nat → Nat} {v0 : Int64} {u : pU} {least : Int32} {most : Int32} {r : Int32} (hr : rP kc (L, f) tg x (nm, mo, om, al, bs)) (ho : OutA kc L f tg o v0) (hp : (r = 0 ∧ okM least most ∧ nm < 24 ∧ al + uI least ≤ 16 ∧ LO kc L f tg x o (nm + 1) (va_up mo nm most) (appN om al nm) (al + uI least) bs (nI nm).toInt64 u) ∨ (((r = 1 ∧ ¬ okM least most) ∨ (r = 2 ∧ okM least most ∧ nm = 24) ∨ (r = 3 ∧ okM least most ∧ nm < 24 ∧ ¬ (al + uI least ≤ 16))) ∧ u = (L, f))) : ∃ (tg1 : Nat → Nat × Nat) (S1 : ST) (v1 : Int64), rP kc u tg1 x S1 ∧ Ext SO L f tg u tg1 ∧ OutA kc u.1 u.2 tg1 o v1 ∧ AN_make nm mo om al bs least most r v1 S1 := by
  rcases hp with ⟨a, b, c, d, tg', h1, h2, h3⟩ | ⟨a | a | a, rfl⟩
  · exact ⟨tg', (_, _, _, _, _), _, h1, h2, h3, Or.inl ⟨a, b, c, d, rfl, rfl⟩⟩
  · exact ⟨tg, (nm, mo, om, al, bs), v0, hr, Ext.rf, ho, Or.inr (Or.inl ⟨a.1, a.2, rfl⟩)⟩
  · exact ⟨tg, (nm, mo, om, al, bs), v0, hr, Ext.rf, ho, Or.inr (Or.inr (Or.inl ⟨a.1, a.2.1, a.2.2, rfl⟩))⟩
  · exact ⟨tg, (nm, mo, om, al, bs), v0, hr, Ext.rf, ho, Or.inr (Or.inr (Or.inr ⟨a.1, a.2.1, a.2.2.1, a.2.2.2, rfl⟩))⟩
theorem end_make {kc : Nat → ClassId} {L : List Nat} {f : Nat → va_E} {tg : Nat → Nat × Nat} {d : Nat} {nm : Nat} {mo : Nat → Int32} {om : Nat → Nat} {al : Nat} {bs : Nat → Nat → Nat} {u : pU} {least : Int32} {most : Int32} {r : Int32} (hp : ∃ t9 tg', Ext SD L f tg u tg' ∧ ((t9 = 1 ∧ ¬ okM least most ∧ modP kc u.1 u.2 tg' d t9 nm mo om al bs) ∨ (t9 = 2 ∧ okM least most ∧ nm = 24 ∧ modP kc u.1 u.2 tg' d t9 nm mo om al bs) ∨ (t9 = 3 ∧ okM least most ∧ nm < 24 ∧ ¬ (al + uI least ≤ 16) ∧ modP kc u.1 u.2 tg' d t9 nm mo om al bs) ∨ (t9 = 0 ∧ okM least most ∧ nm < 24 ∧ al + uI least ≤ 16 ∧ r = nI nm ∧ modP kc u.1 u.2 tg' d t9 (nm + 1) (va_up mo nm most) (appN om al nm) (al + uI least) bs))) : ∃ (t9 : Int32) (tg2 : Nat → Nat × Nat) (S2 : ST), mP kc u tg2 d t9 S2 ∧ Ext SD L f tg u tg2 ∧ AN_make nm mo om al bs least most t9 r.toInt64 S2 := by
  obtain ⟨t9, tg', he, ⟨a, b, h⟩ | ⟨a, b, c, h⟩ | ⟨a, b, c, d, h⟩ | ⟨a, b, c, d, e, h⟩⟩ := hp
  · exact ⟨t9, tg', (_, _, _, _, _), h, he, Or.inr (Or.inl ⟨a, b, rfl⟩)⟩
  · exact ⟨t9, tg', (_, _, _, _, _), h, he, Or.inr (Or.inr (Or.inl ⟨a, b, c, rfl⟩))⟩
  · exact ⟨t9, tg', (_, _, _, _, _), h, he, Or.inr (Or.inr (Or.inr ⟨a, b, c, d, rfl⟩))⟩
  · subst e; exact ⟨t9, tg', (_, _, _, _, _), h, he, Or.inl ⟨a, b, c, d, rfl, rfl⟩⟩
set_option maxHeartbeats 4000000 in
set_option maxRecDepth 100000 in
theorem lc_make {p : Program} {l : Launch} {e : Env} {R : Room} {s : State} {m : MethodId} {args : Array Value} {below : List Frame} {meth : Method} {c : Code} {Q : State → Prop} {A : Nat → Prop} {D : va_G} {kc : Nat → ClassId} {c0 : Cond} {ret : Option FieldType} {b N : Nat} {xs : Nat → Int32} (hst : l.stackTraces = false) (hC : Kx p m c code 8 s args c0 R_L meth ret D kc A) (hRf : 12 ≤ R.frames) (hRl : 464 ≤ R.locals) (hX : va_X b N xs s s.heap) (hbl : b < s.heap.size) (hbA : ¬ A b) (hN : N ≤ 3584) {x d o i : Nat} (hi : i + 7 ≤ N) {L : List Nat} {f : Nat → va_E} {tg : Nat → Nat × Nat} {S : ST} {th : Int32} {v0 : Int64} {H : Heap} {locs : List Loc} {cells slots : Nat} {ls : Array Slot} (hcs : cells + 20 ≤ R.cells) (hss : slots + 10275 ≤ R.slots) (hr : rP kc (L, f) tg x S) (hm : mP kc (L, f) tg d th S) (ho : OutA kc L f tg o v0) (hs : okS S) (hw : pw D Cls A s.heap H locs L f) (hl : lv_has ls 8 [(0, .ref b), (1, .ref x), (2, .ref d), (3, .ref o), (4, .int (nI i))])
    (kont : ∀ (L : List Nat) (f : Nat → va_E) (tg : Nat → Nat × Nat) (S : ST) (th : Int32) (v0 : Int64) (H : Heap) (locs : List Loc) (cells1 slots1 : Nat) (ls : Array Slot), cells1 ≤ cells + 20 → slots1 ≤ slots + 10275 → rP kc (L, f) tg x S → mP kc (L, f) tg d th S → OutA kc L f tg o v0 → okS S → pw D Cls A s.heap H locs L f → lv_has ls 8 [(0, .ref b), (1, .ref x), (2, .ref d), (3, .ref o), (4, .int (nI i))] → W p l e R s m args below meth c H locs cells1 slots1 Q (F0 m 740 ls [])) : W p l e R s m args below meth c H locs cells slots Q (F0 m 88 ls []) := by
  obtain ⟨⟨⟨hx, hb, hml, hown, hts⟩, hret9, hlocks⟩, hK, hE, hA⟩ := id hC
  obtain ⟨nm, mo, om, al, bs⟩ := S
  obtain ⟨ms, cp, gm, hc, hg⟩ := id hr
  have hg : rootG kc L f tg x ms cp gm hc nm mo om al bs := hg
  obtain ⟨mst, ow, ix, bb, cpy, gb, hm9, ho9, hi9, hc9, hmg⟩ := hm
  have hmg : modG kc L f tg d mst ow ix bb cpy gb hm9 ho9 hi9 hc9 th nm mo om al bs := hmg
  obtain ⟨hoL, hto, g0, hfo, hg0⟩ := id ho
  have hs : stOK nm mo om al bs := hs
  refine lv_aload_n hx hb d_L_law_88 rfl (lv_at hl 1 rfl) ?_
  refine lv_aload_n hx hb d_L_law_89 rfl (lv_at hl 0 rfl) ?_
  refine lv_iload hx hb d_L_law_90 (lv_at hl 4 rfl) ?_
  refine lv_iconst (v := 1) hx hb d_L_law_92 (by decide) ?_
  refine lv_iadd hx hb d_L_law_93 ?_
  refine sld hC hX hbl hbA hw (j := 1) rfl (by omega) hN d_L_law_94 ?_
  refine lv_aload_n hx hb d_L_law_95 rfl (lv_at hl 0 rfl) ?_
  refine lv_iload hx hb d_L_law_96 (lv_at hl 4 rfl) ?_
  refine lv_iconst (v := 2) hx hb d_L_law_98 (by decide) ?_
  refine lv_iadd hx hb d_L_law_99 ?_
  refine sld hC hX hbl hbA hw (j := 2) rfl (by omega) hN d_L_law_100 ?_
  refine lv_aload_n hx hb d_L_law_101 rfl (lv_at hl 3 rfl) ?_
  refine callHi (As := [.ref x, .int (xs (i + 1)), .int (xs (i + 2)), .ref o]) (n9 := 4) hC hw (c_L_make l hst D kc _ _ _ x ms cp gm hc tg nm mo om al bs hg hs o g0 hoL hto hfo (xs (i + 1)) (xs (i + 2))) k_co_L_make k_ml_L_52 k_sm_L_make k_in_L rfl rfl (by decide +kernel) rfl ⟨Nat.le_trans (Nat.le_of_ble_eq_true rfl) hRf, Nat.le_trans (Nat.le_of_ble_eq_true rfl) hRl⟩ hl.1 rfl (Nat.le_of_ble_eq_true rfl) d_L_law_102 ⟨by omega, by omega⟩ (fun r u H locs hp hw => ?_)
  obtain ⟨tg1, S1, v1, hr1, he1, ho1, ha1⟩ := mid_make hr ho hp
  obtain ⟨L1, f1⟩ := u
  have hmg1 : modG kc L1 f1 tg1 d mst ow ix bb cpy gb hm9 ho9 hi9 hc9 th nm mo om al bs := mod_ext hmg he1 nSO200
  have hok : okS S1 := ok_make hs ha1
  refine lv_istore (lv' := [(5, .int r), (0, .ref b), (1, .ref x), (2, .ref d), (3, .ref o), (4, .int (nI i))]) hx hb d_L_law_105 hl (by decide) rfl (fun ls hl => ?_)
  refine lv_aload_n hx hb d_L_law_107 rfl (lv_at hl 3 rfl) ?_
  refine lv_aload_n hx hb d_L_law_108 rfl (lv_at hl 1 rfl) ?_
  refine lv_iload hx hb d_L_law_109 (lv_at hl 5 rfl) ?_
  refine lv_iconst (v := 1) hx hb d_L_law_111 (by decide) ?_
  refine lv_iadd hx hb d_L_law_112 ?_
  refine sld hC hX hbl hbA hw (j := 1) rfl (by omega) hN d_L_law_113 ?_
  refine lv_aload_n hx hb d_L_law_114 rfl (lv_at hl 1 rfl) ?_
  refine lv_iload hx hb d_L_law_115 (lv_at hl 5 rfl) ?_
  refine lv_iconst (v := 2) hx hb d_L_law_117 (by decide) ?_
  refine lv_iadd hx hb d_L_law_118 ?_
  refine sld hC hX hbl hbA hw (j := 2) rfl (by omega) hN d_L_law_119 ?_
  refine callVi (As := [.int (xs (i + 1)), .int (xs (i + 2))]) (n9 := 2) hC hw (c_D_make l D kc _ _ _ d mst ow ix bb cpy gb hm9 ho9 hi9 hc9 tg1 th nm mo om al bs hmg1 hs (xs (i + 1)) (xs (i + 2))) k_co_D_make k_ml_L_57 k_im_D_make k_se_D_make k_in_D rfl rfl (by decide +kernel) rfl ⟨Nat.le_trans (Nat.le_of_ble_eq_true rfl) hRf, Nat.le_trans (Nat.le_of_ble_eq_true rfl) hRl⟩ hmg1.1.1 hmg1.1.2.2 rfl hl.1 rfl (Nat.le_of_ble_eq_true rfl) d_L_law_120 ⟨by omega, by omega⟩ (fun r2 u H locs hp hw => ?_)
  obtain ⟨t9, tg2, S2, hm2, he2, ha2⟩ := end_make hp
  obtain ⟨L2, f2⟩ := u
  obtain ⟨e9, e8, hv⟩ := fn_make ha1 ha2
  subst e8
  subst e9
  have hr2 : rP kc (L2, f2) tg2 x S2 := rP_ext hr1 hok he2
  have ho2 : OutA kc L2 f2 tg2 o v1 := oA_ext ho1 he2
  obtain ⟨mst2, ow2, ix2, bb2, cpy2, gb2, hm92, ho92, hi92, hc92, hmg2⟩ := id hm2
  refine lv_istore (lv' := [(6, .int r2), (5, .int t9), (0, .ref b), (1, .ref x), (2, .ref d), (3, .ref o), (4, .int (nI i))]) hx hb d_L_law_123 hl (by decide) rfl (fun ls hl => ?_)
  refine lv_aload_n hx hb d_L_law_125 rfl (lv_at hl 4 rfl) ?_
  refine callVi (As := []) (n9 := 0) hC hw (c_D_thrown l D kc L2 f2 _ d mst2 ow2 ix2 bb2 cpy2 gb2 hm92 ho92 hi92 hc92 tg2 t9 S2.1 S2.2.1 S2.2.2.1 S2.2.2.2.1 S2.2.2.2.2 hmg2 hok) k_co_D_thrown k_ml_L_58 k_im_D_thrown k_se_D_thrown k_in_D rfl rfl (by decide +kernel) rfl ⟨Nat.le_trans (Nat.le_of_ble_eq_true rfl) hRf, Nat.le_trans (Nat.le_of_ble_eq_true rfl) hRl⟩ hmg2.1.1 hmg2.1.2.2 rfl hl.1 rfl (Nat.le_of_ble_eq_true rfl) d_L_law_126 ⟨by omega, by omega⟩ (fun r3 u H locs hp hw => ?_)
  obtain ⟨rfl, rfl⟩ := hp
  refine lv_iload hx hb d_L_law_129 (lv_at hl 1 rfl) ?_
  refine lv_icmp_eq (tgt := 136) hx hb d_L_law_131 (by decide) (fun c1 => ?_) (fun c1 => (c1 rfl).elim)
  refine lv_iload hx hb d_L_law_136 (lv_at hl 1 rfl) ?_
  refine lv_if_ne (tgt := 153) hx hb d_L_law_138 (by decide) (fun c2 => ?_) (fun c2 => ?_)
  · refine lv_goto (tgt := 740) hx hb d_L_law_153 (by decide) ?_
    exact kont L2 f2 tg2 S2 _ v1 _ _ _ _ _ (by omega) (by omega) hr2 hm2 ho2 hok hw (lv_sub hl [2, 3, 4, 5, 6] rfl)
  · obtain ⟨hoL2, hto2, g2, hfo2, hg2⟩ := id ho2
    have hv9 := hv c2
    refine lv_aload_n hx hb d_L_law_141 rfl (lv_at hl 5 rfl) ?_
    refine lv_iconst (v := 0) hx hb d_L_law_142 (by decide) ?_
    refine ald_J hC hw hoL2 hfo2 (by decide) d_L_law_143 ?_
    refine lv_iload hx hb d_L_law_144 (lv_at hl 0 rfl) ?_
    refine lv_i2l hx hb d_L_law_146 rfl ?_
    refine W.lcmp hx hb d_L_law_147 ?_
    refine lv_if_eq (tgt := 153) hx hb d_L_law_148 (by decide) (fun c4 => ?_) (fun c4 => (c4 (by rw [hg2, hv9]; exact cmp_self _)).elim)
    refine lv_goto (tgt := 740) hx hb d_L_law_153 (by decide) ?_
    exact kont L2 f2 tg2 S2 _ v1 _ _ _ _ _ (by omega) (by omega) hr2 hm2 ho2 hok hw (lv_sub hl [2, 3, 4, 5, 6] rfl)
theorem mid_pages {kc : Nat → ClassId} {L : List Nat} {f : Nat → va_E} {tg : Nat → Nat × Nat} {x o : Nat} {nm : Nat} {mo : Nat → Int32} {om : Nat → Nat} {al : Nat} {bs : Nat → Nat → Nat} {v0 : Int64} {u : pU} {mm : Int32} {r : Int32} (hr : rP kc (L, f) tg x (nm, mo, om, al, bs)) (ho : OutA kc L f tg o v0) (hp : (r = 0 ∧ ∃ k, k < nm ∧ mm = nI k ∧ LO kc L f tg x o nm mo om al bs (nI (cnt om al k)).toInt64 u) ∨ (r = 1 ∧ ¬ (∃ k, k < nm ∧ mm = nI k) ∧ u = (L, f))) : ∃ (tg1 : Nat → Nat × Nat) (S1 : ST) (v1 : Int64), rP kc u tg1 x S1 ∧ Ext SO L f tg u tg1 ∧ OutA kc u.1 u.2 tg1 o v1 ∧ AN_pages nm mo om al bs mm r v1 S1 := by
  rcases hp with ⟨a, k, b, c, tg', h1, h2, h3⟩ | ⟨a, b, rfl⟩
  · exact ⟨tg', (nm, mo, om, al, bs), _, h1, h2, h3, Or.inl ⟨a, k, b, c, rfl, rfl⟩⟩
  · exact ⟨tg, (nm, mo, om, al, bs), v0, hr, Ext.rf, ho, Or.inr ⟨a, b, rfl⟩⟩
theorem end_pages {kc : Nat → ClassId} {L : List Nat} {f : Nat → va_E} {tg : Nat → Nat × Nat} {d : Nat} {nm : Nat} {mo : Nat → Int32} {om : Nat → Nat} {al : Nat} {bs : Nat → Nat → Nat} {u : pU} {mm : Int32} {r : Int32} (hp : ∃ t9 tg', modP kc u.1 u.2 tg' d t9 nm mo om al bs ∧ Ext SD L f tg u tg' ∧ ((t9 = 0 ∧ ∃ k, k < nm ∧ mm = nI k ∧ r = nI (cnt om al k)) ∨ (t9 = 1 ∧ ¬ (∃ k, k < nm ∧ mm = nI k)))) : ∃ (t9 : Int32) (tg2 : Nat → Nat × Nat) (S2 : ST), mP kc u tg2 d t9 S2 ∧ Ext SD L f tg u tg2 ∧ AN_pages nm mo om al bs mm t9 r.toInt64 S2 := by
  obtain ⟨t9, tg', h, he, ⟨a, k, b, c, e⟩ | ⟨a, b⟩⟩ := hp
  · subst e; exact ⟨t9, tg', (nm, mo, om, al, bs), h, he, Or.inl ⟨a, k, b, c, rfl, rfl⟩⟩
  · exact ⟨t9, tg', (nm, mo, om, al, bs), h, he, Or.inr ⟨a, b, rfl⟩⟩
set_option maxHeartbeats 4000000 in
set_option maxRecDepth 100000 in
theorem lc_pages {p : Program} {l : Launch} {e : Env} {R : Room} {s : State} {m : MethodId} {args : Array Value} {below : List Frame} {meth : Method} {c : Code} {Q : State → Prop} {A : Nat → Prop} {D : va_G} {kc : Nat → ClassId} {c0 : Cond} {ret : Option FieldType} {b N : Nat} {xs : Nat → Int32} (hst : l.stackTraces = false) (hC : Kx p m c code 8 s args c0 R_L meth ret D kc A) (hRf : 12 ≤ R.frames) (hRl : 464 ≤ R.locals) (hX : va_X b N xs s s.heap) (hbl : b < s.heap.size) (hbA : ¬ A b) (hN : N ≤ 3584) {x d o i : Nat} (hi : i + 7 ≤ N) {L : List Nat} {f : Nat → va_E} {tg : Nat → Nat × Nat} {S : ST} {th : Int32} {v0 : Int64} {H : Heap} {locs : List Loc} {cells slots : Nat} {ls : Array Slot} (hcs : cells + 20 ≤ R.cells) (hss : slots + 10275 ≤ R.slots) (hr : rP kc (L, f) tg x S) (hm : mP kc (L, f) tg d th S) (ho : OutA kc L f tg o v0) (hs : okS S) (hw : pw D Cls A s.heap H locs L f) (hl : lv_has ls 8 [(0, .ref b), (1, .ref x), (2, .ref d), (3, .ref o), (4, .int (nI i))])
    (kont : ∀ (L : List Nat) (f : Nat → va_E) (tg : Nat → Nat × Nat) (S : ST) (th : Int32) (v0 : Int64) (H : Heap) (locs : List Loc) (cells1 slots1 : Nat) (ls : Array Slot), cells1 ≤ cells + 20 → slots1 ≤ slots + 10275 → rP kc (L, f) tg x S → mP kc (L, f) tg d th S → OutA kc L f tg o v0 → okS S → pw D Cls A s.heap H locs L f → lv_has ls 8 [(0, .ref b), (1, .ref x), (2, .ref d), (3, .ref o), (4, .int (nI i))] → W p l e R s m args below meth c H locs cells1 slots1 Q (F0 m 740 ls [])) : W p l e R s m args below meth c H locs cells slots Q (F0 m 156 ls []) := by
  obtain ⟨⟨⟨hx, hb, hml, hown, hts⟩, hret9, hlocks⟩, hK, hE, hA⟩ := id hC
  obtain ⟨nm, mo, om, al, bs⟩ := S
  obtain ⟨ms, cp, gm, hc, hg⟩ := id hr
  have hg : rootG kc L f tg x ms cp gm hc nm mo om al bs := hg
  obtain ⟨mst, ow, ix, bb, cpy, gb, hm9, ho9, hi9, hc9, hmg⟩ := hm
  have hmg : modG kc L f tg d mst ow ix bb cpy gb hm9 ho9 hi9 hc9 th nm mo om al bs := hmg
  obtain ⟨hoL, hto, g0, hfo, hg0⟩ := id ho
  have hs : stOK nm mo om al bs := hs
  refine lv_aload_n hx hb d_L_law_156 rfl (lv_at hl 1 rfl) ?_
  refine lv_aload_n hx hb d_L_law_157 rfl (lv_at hl 0 rfl) ?_
  refine lv_iload hx hb d_L_law_158 (lv_at hl 4 rfl) ?_
  refine lv_iconst (v := 1) hx hb d_L_law_160 (by decide) ?_
  refine lv_iadd hx hb d_L_law_161 ?_
  refine sld hC hX hbl hbA hw (j := 1) rfl (by omega) hN d_L_law_162 ?_
  refine lv_aload_n hx hb d_L_law_163 rfl (lv_at hl 3 rfl) ?_
  refine callHi (As := [.ref x, .int (xs (i + 1)), .ref o]) (n9 := 3) hC hw (c_L_pages l hst D kc _ _ _ x ms cp gm hc tg nm mo om al bs hg hs o g0 hoL hto hfo (xs (i + 1))) k_co_L_pages k_ml_L_62 k_sm_L_pages k_in_L rfl rfl (by decide +kernel) rfl ⟨Nat.le_trans (Nat.le_of_ble_eq_true rfl) hRf, Nat.le_trans (Nat.le_of_ble_eq_true rfl) hRl⟩ hl.1 rfl (Nat.le_of_ble_eq_true rfl) d_L_law_164 ⟨by omega, by omega⟩ (fun r u H locs hp hw => ?_)
  obtain ⟨tg1, S1, v1, hr1, he1, ho1, ha1⟩ := mid_pages hr ho hp
  obtain ⟨L1, f1⟩ := u
  have hmg1 : modG kc L1 f1 tg1 d mst ow ix bb cpy gb hm9 ho9 hi9 hc9 th nm mo om al bs := mod_ext hmg he1 nSO200
  have hok : okS S1 := ok_pages hs ha1
  refine lv_istore (lv' := [(5, .int r), (0, .ref b), (1, .ref x), (2, .ref d), (3, .ref o), (4, .int (nI i))]) hx hb d_L_law_167 hl (by decide) rfl (fun ls hl => ?_)
  refine lv_aload_n hx hb d_L_law_169 rfl (lv_at hl 3 rfl) ?_
  refine lv_aload_n hx hb d_L_law_170 rfl (lv_at hl 1 rfl) ?_
  refine lv_iload hx hb d_L_law_171 (lv_at hl 5 rfl) ?_
  refine lv_iconst (v := 1) hx hb d_L_law_173 (by decide) ?_
  refine lv_iadd hx hb d_L_law_174 ?_
  refine sld hC hX hbl hbA hw (j := 1) rfl (by omega) hN d_L_law_175 ?_
  refine callVi (As := [.int (xs (i + 1))]) (n9 := 1) hC hw (c_D_pages l D kc _ _ _ d mst ow ix bb cpy gb hm9 ho9 hi9 hc9 tg1 th nm mo om al bs hmg1 hs (xs (i + 1))) k_co_D_pages k_ml_L_65 k_im_D_pages k_se_D_pages k_in_D rfl rfl (by decide +kernel) rfl ⟨Nat.le_trans (Nat.le_of_ble_eq_true rfl) hRf, Nat.le_trans (Nat.le_of_ble_eq_true rfl) hRl⟩ hmg1.1.1 hmg1.1.2.2 rfl hl.1 rfl (Nat.le_of_ble_eq_true rfl) d_L_law_176 ⟨by omega, by omega⟩ (fun r2 u H locs hp hw => ?_)
  obtain ⟨t9, tg2, S2, hm2, he2, ha2⟩ := end_pages hp
  obtain ⟨L2, f2⟩ := u
  obtain ⟨e9, e8, hv⟩ := fn_pages hs.1 ha1 ha2
  subst e8
  subst e9
  have hr2 : rP kc (L2, f2) tg2 x S2 := rP_ext hr1 hok he2
  have ho2 : OutA kc L2 f2 tg2 o v1 := oA_ext ho1 he2
  obtain ⟨mst2, ow2, ix2, bb2, cpy2, gb2, hm92, ho92, hi92, hc92, hmg2⟩ := id hm2
  refine lv_istore (lv' := [(6, .int r2), (5, .int t9), (0, .ref b), (1, .ref x), (2, .ref d), (3, .ref o), (4, .int (nI i))]) hx hb d_L_law_179 hl (by decide) rfl (fun ls hl => ?_)
  refine lv_aload_n hx hb d_L_law_181 rfl (lv_at hl 4 rfl) ?_
  refine callVi (As := []) (n9 := 0) hC hw (c_D_thrown l D kc L2 f2 _ d mst2 ow2 ix2 bb2 cpy2 gb2 hm92 ho92 hi92 hc92 tg2 t9 S2.1 S2.2.1 S2.2.2.1 S2.2.2.2.1 S2.2.2.2.2 hmg2 hok) k_co_D_thrown k_ml_L_58 k_im_D_thrown k_se_D_thrown k_in_D rfl rfl (by decide +kernel) rfl ⟨Nat.le_trans (Nat.le_of_ble_eq_true rfl) hRf, Nat.le_trans (Nat.le_of_ble_eq_true rfl) hRl⟩ hmg2.1.1 hmg2.1.2.2 rfl hl.1 rfl (Nat.le_of_ble_eq_true rfl) d_L_law_182 ⟨by omega, by omega⟩ (fun r3 u H locs hp hw => ?_)
  obtain ⟨rfl, rfl⟩ := hp
  refine lv_iload hx hb d_L_law_185 (lv_at hl 1 rfl) ?_
  refine lv_icmp_eq (tgt := 192) hx hb d_L_law_187 (by decide) (fun c1 => ?_) (fun c1 => (c1 rfl).elim)
  refine lv_iload hx hb d_L_law_192 (lv_at hl 1 rfl) ?_
  refine lv_if_ne (tgt := 209) hx hb d_L_law_194 (by decide) (fun c2 => ?_) (fun c2 => ?_)
  · refine lv_goto (tgt := 740) hx hb d_L_law_209 (by decide) ?_
    exact kont L2 f2 tg2 S2 _ v1 _ _ _ _ _ (by omega) (by omega) hr2 hm2 ho2 hok hw (lv_sub hl [2, 3, 4, 5, 6] rfl)
  · obtain ⟨hoL2, hto2, g2, hfo2, hg2⟩ := id ho2
    have hv9 := hv c2
    refine lv_aload_n hx hb d_L_law_197 rfl (lv_at hl 5 rfl) ?_
    refine lv_iconst (v := 0) hx hb d_L_law_198 (by decide) ?_
    refine ald_J hC hw hoL2 hfo2 (by decide) d_L_law_199 ?_
    refine lv_iload hx hb d_L_law_200 (lv_at hl 0 rfl) ?_
    refine lv_i2l hx hb d_L_law_202 rfl ?_
    refine W.lcmp hx hb d_L_law_203 ?_
    refine lv_if_eq (tgt := 209) hx hb d_L_law_204 (by decide) (fun c4 => ?_) (fun c4 => (c4 (by rw [hg2, hv9]; exact cmp_self _)).elim)
    refine lv_goto (tgt := 740) hx hb d_L_law_209 (by decide) ?_
    exact kont L2 f2 tg2 S2 _ v1 _ _ _ _ _ (by omega) (by omega) hr2 hm2 ho2 hok hw (lv_sub hl [2, 3, 4, 5, 6] rfl)
theorem mid_grow {kc : Nat → ClassId} {L : List Nat} {f : Nat → va_E} {tg : Nat → Nat × Nat} {x o : Nat} {nm : Nat} {mo : Nat → Int32} {om : Nat → Nat} {al : Nat} {bs : Nat → Nat → Nat} {v0 : Int64} {u : pU} {mm : Int32} {gn : Int32} {r : Int32} (hr : rP kc (L, f) tg x (nm, mo, om, al, bs)) (ho : OutA kc L f tg o v0) (hp : (r = 0 ∧ ∃ k, k < nm ∧ mm = nI k ∧ ∃ lim, limP (mo k) lim ∧ ((¬ (cnt om al k + uI gn ≤ lim ∧ al + uI gn ≤ 16) ∧ LO kc L f tg x o nm mo om al bs (-1 : Int32).toInt64 u) ∨ (cnt om al k + uI gn ≤ lim ∧ al + uI gn ≤ 16 ∧ LO kc L f tg x o nm mo (appN om al k) (al + uI gn) bs (nI (cnt om al k)).toInt64 u))) ∨ (r = 1 ∧ ¬ (∃ k, k < nm ∧ mm = nI k) ∧ u = (L, f))) : ∃ (tg1 : Nat → Nat × Nat) (S1 : ST) (v1 : Int64), rP kc u tg1 x S1 ∧ Ext SO L f tg u tg1 ∧ OutA kc u.1 u.2 tg1 o v1 ∧ AN_grow nm mo om al bs mm gn r v1 S1 := by
  rcases hp with ⟨a, k, b, c, lim, hl, ⟨q1, tg', h1, h2, h3⟩ | ⟨q1, q2, tg', h1, h2, h3⟩⟩ | ⟨a, b, rfl⟩
  · exact ⟨tg', (nm, mo, om, al, bs), _, h1, h2, h3, Or.inl ⟨a, k, b, c, lim, hl, Or.inl ⟨q1, rfl, rfl⟩⟩⟩
  · exact ⟨tg', (_, _, _, _, _), _, h1, h2, h3, Or.inl ⟨a, k, b, c, lim, hl, Or.inr ⟨q1, q2, rfl, rfl⟩⟩⟩
  · exact ⟨tg, (nm, mo, om, al, bs), v0, hr, Ext.rf, ho, Or.inr ⟨a, b, rfl⟩⟩
theorem end_grow {kc : Nat → ClassId} {L : List Nat} {f : Nat → va_E} {tg : Nat → Nat × Nat} {d : Nat} {nm : Nat} {mo : Nat → Int32} {om : Nat → Nat} {al : Nat} {bs : Nat → Nat → Nat} {u : pU} {mm : Int32} {gn : Int32} {r : Int32} (hp : ∃ t9 tg', Ext SD L f tg u tg' ∧ ((t9 = 1 ∧ ¬ (∃ k, k < nm ∧ mm = nI k) ∧ modP kc u.1 u.2 tg' d t9 nm mo om al bs) ∨ (t9 = 0 ∧ ∃ k, k < nm ∧ mm = nI k ∧ ∃ lim, limP (mo k) lim ∧ ((¬ (cnt om al k + uI gn ≤ lim ∧ al + uI gn ≤ 16) ∧ r = -1 ∧ modP kc u.1 u.2 tg' d t9 nm mo om al bs) ∨ (cnt om al k + uI gn ≤ lim ∧ al + uI gn ≤ 16 ∧ r = nI (cnt om al k) ∧ modP kc u.1 u.2 tg' d t9 nm mo (appN om al k) (al + uI gn) bs))))) : ∃ (t9 : Int32) (tg2 : Nat → Nat × Nat) (S2 : ST), mP kc u tg2 d t9 S2 ∧ Ext SD L f tg u tg2 ∧ AN_grow nm mo om al bs mm gn t9 r.toInt64 S2 := by
  obtain ⟨t9, tg', he, ⟨a, b, h⟩ | ⟨a, k, b, c, lim, hl, ⟨q1, e, h⟩ | ⟨q1, q2, e, h⟩⟩⟩ := hp
  · exact ⟨t9, tg', (nm, mo, om, al, bs), h, he, Or.inr ⟨a, b, rfl⟩⟩
  · subst e; exact ⟨t9, tg', (nm, mo, om, al, bs), h, he, Or.inl ⟨a, k, b, c, lim, hl, Or.inl ⟨q1, rfl, rfl⟩⟩⟩
  · subst e; exact ⟨t9, tg', (_, _, _, _, _), h, he, Or.inl ⟨a, k, b, c, lim, hl, Or.inr ⟨q1, q2, rfl, rfl⟩⟩⟩
set_option maxHeartbeats 4000000 in
set_option maxRecDepth 100000 in
theorem lc_grow {p : Program} {l : Launch} {e : Env} {R : Room} {s : State} {m : MethodId} {args : Array Value} {below : List Frame} {meth : Method} {c : Code} {Q : State → Prop} {A : Nat → Prop} {D : va_G} {kc : Nat → ClassId} {c0 : Cond} {ret : Option FieldType} {b N : Nat} {xs : Nat → Int32} (hst : l.stackTraces = false) (hC : Kx p m c code 8 s args c0 R_L meth ret D kc A) (hRf : 12 ≤ R.frames) (hRl : 464 ≤ R.locals) (hX : va_X b N xs s s.heap) (hbl : b < s.heap.size) (hbA : ¬ A b) (hN : N ≤ 3584) {x d o i : Nat} (hi : i + 7 ≤ N) {L : List Nat} {f : Nat → va_E} {tg : Nat → Nat × Nat} {S : ST} {th : Int32} {v0 : Int64} {H : Heap} {locs : List Loc} {cells slots : Nat} {ls : Array Slot} (hcs : cells + 20 ≤ R.cells) (hss : slots + 10275 ≤ R.slots) (hr : rP kc (L, f) tg x S) (hm : mP kc (L, f) tg d th S) (ho : OutA kc L f tg o v0) (hs : okS S) (hw : pw D Cls A s.heap H locs L f) (hl : lv_has ls 8 [(0, .ref b), (1, .ref x), (2, .ref d), (3, .ref o), (4, .int (nI i))])
    (kont : ∀ (L : List Nat) (f : Nat → va_E) (tg : Nat → Nat × Nat) (S : ST) (th : Int32) (v0 : Int64) (H : Heap) (locs : List Loc) (cells1 slots1 : Nat) (ls : Array Slot), cells1 ≤ cells + 20 → slots1 ≤ slots + 10275 → rP kc (L, f) tg x S → mP kc (L, f) tg d th S → OutA kc L f tg o v0 → okS S → pw D Cls A s.heap H locs L f → lv_has ls 8 [(0, .ref b), (1, .ref x), (2, .ref d), (3, .ref o), (4, .int (nI i))] → W p l e R s m args below meth c H locs cells1 slots1 Q (F0 m 740 ls [])) : W p l e R s m args below meth c H locs cells slots Q (F0 m 212 ls []) := by
  obtain ⟨⟨⟨hx, hb, hml, hown, hts⟩, hret9, hlocks⟩, hK, hE, hA⟩ := id hC
  obtain ⟨nm, mo, om, al, bs⟩ := S
  obtain ⟨ms, cp, gm, hc, hg⟩ := id hr
  have hg : rootG kc L f tg x ms cp gm hc nm mo om al bs := hg
  obtain ⟨mst, ow, ix, bb, cpy, gb, hm9, ho9, hi9, hc9, hmg⟩ := hm
  have hmg : modG kc L f tg d mst ow ix bb cpy gb hm9 ho9 hi9 hc9 th nm mo om al bs := hmg
  obtain ⟨hoL, hto, g0, hfo, hg0⟩ := id ho
  have hs : stOK nm mo om al bs := hs
  refine lv_aload_n hx hb d_L_law_212 rfl (lv_at hl 1 rfl) ?_
  refine lv_aload_n hx hb d_L_law_213 rfl (lv_at hl 0 rfl) ?_
  refine lv_iload hx hb d_L_law_214 (lv_at hl 4 rfl) ?_
  refine lv_iconst (v := 1) hx hb d_L_law_216 (by decide) ?_
  refine lv_iadd hx hb d_L_law_217 ?_
  refine sld hC hX hbl hbA hw (j := 1) rfl (by omega) hN d_L_law_218 ?_
  refine lv_aload_n hx hb d_L_law_219 rfl (lv_at hl 0 rfl) ?_
  refine lv_iload hx hb d_L_law_220 (lv_at hl 4 rfl) ?_
  refine lv_iconst (v := 2) hx hb d_L_law_222 (by decide) ?_
  refine lv_iadd hx hb d_L_law_223 ?_
  refine sld hC hX hbl hbA hw (j := 2) rfl (by omega) hN d_L_law_224 ?_
  refine lv_aload_n hx hb d_L_law_225 rfl (lv_at hl 3 rfl) ?_
  refine callHi (As := [.ref x, .int (xs (i + 1)), .int (xs (i + 2)), .ref o]) (n9 := 4) hC hw (c_L_grow l hst D kc _ _ _ x ms cp gm hc tg nm mo om al bs hg hs o g0 hoL hto hfo (xs (i + 1)) (xs (i + 2))) k_co_L_grow k_ml_L_66 k_sm_L_grow k_in_L rfl rfl (by decide +kernel) rfl ⟨Nat.le_trans (Nat.le_of_ble_eq_true rfl) hRf, Nat.le_trans (Nat.le_of_ble_eq_true rfl) hRl⟩ hl.1 rfl (Nat.le_of_ble_eq_true rfl) d_L_law_226 ⟨by omega, by omega⟩ (fun r u H locs hp hw => ?_)
  obtain ⟨tg1, S1, v1, hr1, he1, ho1, ha1⟩ := mid_grow hr ho hp
  obtain ⟨L1, f1⟩ := u
  have hmg1 : modG kc L1 f1 tg1 d mst ow ix bb cpy gb hm9 ho9 hi9 hc9 th nm mo om al bs := mod_ext hmg he1 nSO200
  have hok : okS S1 := ok_grow hs ha1
  refine lv_istore (lv' := [(5, .int r), (0, .ref b), (1, .ref x), (2, .ref d), (3, .ref o), (4, .int (nI i))]) hx hb d_L_law_229 hl (by decide) rfl (fun ls hl => ?_)
  refine lv_aload_n hx hb d_L_law_231 rfl (lv_at hl 3 rfl) ?_
  refine lv_aload_n hx hb d_L_law_232 rfl (lv_at hl 1 rfl) ?_
  refine lv_iload hx hb d_L_law_233 (lv_at hl 5 rfl) ?_
  refine lv_iconst (v := 1) hx hb d_L_law_235 (by decide) ?_
  refine lv_iadd hx hb d_L_law_236 ?_
  refine sld hC hX hbl hbA hw (j := 1) rfl (by omega) hN d_L_law_237 ?_
  refine lv_aload_n hx hb d_L_law_238 rfl (lv_at hl 1 rfl) ?_
  refine lv_iload hx hb d_L_law_239 (lv_at hl 5 rfl) ?_
  refine lv_iconst (v := 2) hx hb d_L_law_241 (by decide) ?_
  refine lv_iadd hx hb d_L_law_242 ?_
  refine sld hC hX hbl hbA hw (j := 2) rfl (by omega) hN d_L_law_243 ?_
  refine callVi (As := [.int (xs (i + 1)), .int (xs (i + 2))]) (n9 := 2) hC hw (c_D_grow l D kc _ _ _ d mst ow ix bb cpy gb hm9 ho9 hi9 hc9 tg1 th nm mo om al bs hmg1 hs (xs (i + 1)) (xs (i + 2))) k_co_D_grow k_ml_L_68 k_im_D_grow k_se_D_grow k_in_D rfl rfl (by decide +kernel) rfl ⟨Nat.le_trans (Nat.le_of_ble_eq_true rfl) hRf, Nat.le_trans (Nat.le_of_ble_eq_true rfl) hRl⟩ hmg1.1.1 hmg1.1.2.2 rfl hl.1 rfl (Nat.le_of_ble_eq_true rfl) d_L_law_244 ⟨by omega, by omega⟩ (fun r2 u H locs hp hw => ?_)
  obtain ⟨t9, tg2, S2, hm2, he2, ha2⟩ := end_grow hp
  obtain ⟨L2, f2⟩ := u
  obtain ⟨e9, e8, hv⟩ := fn_grow hs.1 ha1 ha2
  subst e8
  subst e9
  have hr2 : rP kc (L2, f2) tg2 x S2 := rP_ext hr1 hok he2
  have ho2 : OutA kc L2 f2 tg2 o v1 := oA_ext ho1 he2
  obtain ⟨mst2, ow2, ix2, bb2, cpy2, gb2, hm92, ho92, hi92, hc92, hmg2⟩ := id hm2
  refine lv_istore (lv' := [(6, .int r2), (5, .int t9), (0, .ref b), (1, .ref x), (2, .ref d), (3, .ref o), (4, .int (nI i))]) hx hb d_L_law_247 hl (by decide) rfl (fun ls hl => ?_)
  refine lv_aload_n hx hb d_L_law_249 rfl (lv_at hl 4 rfl) ?_
  refine callVi (As := []) (n9 := 0) hC hw (c_D_thrown l D kc L2 f2 _ d mst2 ow2 ix2 bb2 cpy2 gb2 hm92 ho92 hi92 hc92 tg2 t9 S2.1 S2.2.1 S2.2.2.1 S2.2.2.2.1 S2.2.2.2.2 hmg2 hok) k_co_D_thrown k_ml_L_58 k_im_D_thrown k_se_D_thrown k_in_D rfl rfl (by decide +kernel) rfl ⟨Nat.le_trans (Nat.le_of_ble_eq_true rfl) hRf, Nat.le_trans (Nat.le_of_ble_eq_true rfl) hRl⟩ hmg2.1.1 hmg2.1.2.2 rfl hl.1 rfl (Nat.le_of_ble_eq_true rfl) d_L_law_250 ⟨by omega, by omega⟩ (fun r3 u H locs hp hw => ?_)
  obtain ⟨rfl, rfl⟩ := hp
  refine lv_iload hx hb d_L_law_253 (lv_at hl 1 rfl) ?_
  refine lv_icmp_eq (tgt := 260) hx hb d_L_law_255 (by decide) (fun c1 => ?_) (fun c1 => (c1 rfl).elim)
  refine lv_iload hx hb d_L_law_260 (lv_at hl 1 rfl) ?_
  refine lv_if_ne (tgt := 277) hx hb d_L_law_262 (by decide) (fun c2 => ?_) (fun c2 => ?_)
  · refine lv_goto (tgt := 740) hx hb d_L_law_277 (by decide) ?_
    exact kont L2 f2 tg2 S2 _ v1 _ _ _ _ _ (by omega) (by omega) hr2 hm2 ho2 hok hw (lv_sub hl [2, 3, 4, 5, 6] rfl)
  · obtain ⟨hoL2, hto2, g2, hfo2, hg2⟩ := id ho2
    have hv9 := hv c2
    refine lv_aload_n hx hb d_L_law_265 rfl (lv_at hl 5 rfl) ?_
    refine lv_iconst (v := 0) hx hb d_L_law_266 (by decide) ?_
    refine ald_J hC hw hoL2 hfo2 (by decide) d_L_law_267 ?_
    refine lv_iload hx hb d_L_law_268 (lv_at hl 0 rfl) ?_
    refine lv_i2l hx hb d_L_law_270 rfl ?_
    refine W.lcmp hx hb d_L_law_271 ?_
    refine lv_if_eq (tgt := 277) hx hb d_L_law_272 (by decide) (fun c4 => ?_) (fun c4 => (c4 (by rw [hg2, hv9]; exact cmp_self _)).elim)
    refine lv_goto (tgt := 740) hx hb d_L_law_277 (by decide) ?_
    exact kont L2 f2 tg2 S2 _ v1 _ _ _ _ _ (by omega) (by omega) hr2 hm2 ho2 hok hw (lv_sub hl [2, 3, 4, 5, 6] rfl)
theorem mid_fits {kc : Nat → ClassId} {L : List Nat} {f : Nat → va_E} {tg : Nat → Nat × Nat} {x o : Nat} {nm : Nat} {mo : Nat → Int32} {om : Nat → Nat} {al : Nat} {bs : Nat → Nat → Nat} {v0 : Int64} {u : pU} {mm : Int32} {least : Int32} {most : Int32} {r : Int32} (hr : rP kc (L, f) tg x (nm, mo, om, al, bs)) (ho : OutA kc L f tg o v0) (hp : (r = 0 ∧ ∃ k, k < nm ∧ mm = nI k ∧ LO kc L f tg x o nm mo om al bs (if fitV (nI (cnt om al k)) (mo k) least most = 0 then 0 else 1) u) ∨ (r = 1 ∧ ¬ (∃ k, k < nm ∧ mm = nI k) ∧ u = (L, f))) : ∃ (tg1 : Nat → Nat × Nat) (S1 : ST) (v1 : Int64), rP kc u tg1 x S1 ∧ Ext SO L f tg u tg1 ∧ OutA kc u.1 u.2 tg1 o v1 ∧ AN_fits nm mo om al bs mm least most r v1 S1 := by
  rcases hp with ⟨a, k, b, c, tg', h1, h2, h3⟩ | ⟨a, b, rfl⟩
  · exact ⟨tg', (nm, mo, om, al, bs), _, h1, h2, h3, Or.inl ⟨a, k, b, c, rfl, rfl⟩⟩
  · exact ⟨tg, (nm, mo, om, al, bs), v0, hr, Ext.rf, ho, Or.inr ⟨a, b, rfl⟩⟩
theorem end_fits {kc : Nat → ClassId} {L : List Nat} {f : Nat → va_E} {tg : Nat → Nat × Nat} {d : Nat} {nm : Nat} {mo : Nat → Int32} {om : Nat → Nat} {al : Nat} {bs : Nat → Nat → Nat} {u : pU} {mm : Int32} {least : Int32} {most : Int32} {r : Int32} (hp : ∃ t9 tg', modP kc u.1 u.2 tg' d t9 nm mo om al bs ∧ Ext SD L f tg u tg' ∧ ((t9 = 0 ∧ ∃ k, k < nm ∧ mm = nI k ∧ r = fitV (nI (cnt om al k)) (mo k) least most) ∨ (t9 = 1 ∧ ¬ (∃ k, k < nm ∧ mm = nI k)))) : ∃ (t9 : Int32) (tg2 : Nat → Nat × Nat) (S2 : ST), mP kc u tg2 d t9 S2 ∧ Ext SD L f tg u tg2 ∧ AN_fits nm mo om al bs mm least most t9 (if r = 0 then 0 else 1) S2 := by
  obtain ⟨t9, tg', h, he, ⟨a, k, b, c, e⟩ | ⟨a, b⟩⟩ := hp
  · subst e; exact ⟨t9, tg', (nm, mo, om, al, bs), h, he, Or.inl ⟨a, k, b, c, rfl, rfl⟩⟩
  · exact ⟨t9, tg', (nm, mo, om, al, bs), h, he, Or.inr ⟨a, b, rfl⟩⟩
set_option maxHeartbeats 4000000 in
set_option maxRecDepth 100000 in
theorem lc_fits {p : Program} {l : Launch} {e : Env} {R : Room} {s : State} {m : MethodId} {args : Array Value} {below : List Frame} {meth : Method} {c : Code} {Q : State → Prop} {A : Nat → Prop} {D : va_G} {kc : Nat → ClassId} {c0 : Cond} {ret : Option FieldType} {b N : Nat} {xs : Nat → Int32} (hst : l.stackTraces = false) (hC : Kx p m c code 8 s args c0 R_L meth ret D kc A) (hRf : 12 ≤ R.frames) (hRl : 464 ≤ R.locals) (hX : va_X b N xs s s.heap) (hbl : b < s.heap.size) (hbA : ¬ A b) (hN : N ≤ 3584) {x d o i : Nat} (hi : i + 7 ≤ N) {L : List Nat} {f : Nat → va_E} {tg : Nat → Nat × Nat} {S : ST} {th : Int32} {v0 : Int64} {H : Heap} {locs : List Loc} {cells slots : Nat} {ls : Array Slot} (hcs : cells + 20 ≤ R.cells) (hss : slots + 10275 ≤ R.slots) (hr : rP kc (L, f) tg x S) (hm : mP kc (L, f) tg d th S) (ho : OutA kc L f tg o v0) (hs : okS S) (hw : pw D Cls A s.heap H locs L f) (hl : lv_has ls 8 [(0, .ref b), (1, .ref x), (2, .ref d), (3, .ref o), (4, .int (nI i))])
    (kont : ∀ (L : List Nat) (f : Nat → va_E) (tg : Nat → Nat × Nat) (S : ST) (th : Int32) (v0 : Int64) (H : Heap) (locs : List Loc) (cells1 slots1 : Nat) (ls : Array Slot), cells1 ≤ cells + 20 → slots1 ≤ slots + 10275 → rP kc (L, f) tg x S → mP kc (L, f) tg d th S → OutA kc L f tg o v0 → okS S → pw D Cls A s.heap H locs L f → lv_has ls 8 [(0, .ref b), (1, .ref x), (2, .ref d), (3, .ref o), (4, .int (nI i))] → W p l e R s m args below meth c H locs cells1 slots1 Q (F0 m 740 ls [])) : W p l e R s m args below meth c H locs cells slots Q (F0 m 280 ls []) := by
  obtain ⟨⟨⟨hx, hb, hml, hown, hts⟩, hret9, hlocks⟩, hK, hE, hA⟩ := id hC
  obtain ⟨nm, mo, om, al, bs⟩ := S
  obtain ⟨ms, cp, gm, hc, hg⟩ := id hr
  have hg : rootG kc L f tg x ms cp gm hc nm mo om al bs := hg
  obtain ⟨mst, ow, ix, bb, cpy, gb, hm9, ho9, hi9, hc9, hmg⟩ := hm
  have hmg : modG kc L f tg d mst ow ix bb cpy gb hm9 ho9 hi9 hc9 th nm mo om al bs := hmg
  obtain ⟨hoL, hto, g0, hfo, hg0⟩ := id ho
  have hs : stOK nm mo om al bs := hs
  refine lv_aload_n hx hb d_L_law_280 rfl (lv_at hl 1 rfl) ?_
  refine lv_aload_n hx hb d_L_law_281 rfl (lv_at hl 0 rfl) ?_
  refine lv_iload hx hb d_L_law_282 (lv_at hl 4 rfl) ?_
  refine lv_iconst (v := 1) hx hb d_L_law_284 (by decide) ?_
  refine lv_iadd hx hb d_L_law_285 ?_
  refine sld hC hX hbl hbA hw (j := 1) rfl (by omega) hN d_L_law_286 ?_
  refine lv_aload_n hx hb d_L_law_287 rfl (lv_at hl 0 rfl) ?_
  refine lv_iload hx hb d_L_law_288 (lv_at hl 4 rfl) ?_
  refine lv_iconst (v := 2) hx hb d_L_law_290 (by decide) ?_
  refine lv_iadd hx hb d_L_law_291 ?_
  refine sld hC hX hbl hbA hw (j := 2) rfl (by omega) hN d_L_law_292 ?_
  refine lv_aload_n hx hb d_L_law_293 rfl (lv_at hl 0 rfl) ?_
  refine lv_iload hx hb d_L_law_294 (lv_at hl 4 rfl) ?_
  refine lv_iconst (v := 3) hx hb d_L_law_296 (by decide) ?_
  refine lv_iadd hx hb d_L_law_297 ?_
  refine sld hC hX hbl hbA hw (j := 3) rfl (by omega) hN d_L_law_298 ?_
  refine lv_aload_n hx hb d_L_law_299 rfl (lv_at hl 3 rfl) ?_
  refine callHi (As := [.ref x, .int (xs (i + 1)), .int (xs (i + 2)), .int (xs (i + 3)), .ref o]) (n9 := 5) hC hw (c_L_fits l hst D kc _ _ _ x ms cp gm hc tg nm mo om al bs hg hs o g0 hoL hto hfo (xs (i + 1)) (xs (i + 2)) (xs (i + 3))) k_co_L_fits k_ml_L_69 k_sm_L_fits k_in_L rfl rfl (by decide +kernel) rfl ⟨Nat.le_trans (Nat.le_of_ble_eq_true rfl) hRf, Nat.le_trans (Nat.le_of_ble_eq_true rfl) hRl⟩ hl.1 rfl (Nat.le_of_ble_eq_true rfl) d_L_law_300 ⟨by omega, by omega⟩ (fun r u H locs hp hw => ?_)
  obtain ⟨tg1, S1, v1, hr1, he1, ho1, ha1⟩ := mid_fits hr ho hp
  obtain ⟨L1, f1⟩ := u
  have hmg1 : modG kc L1 f1 tg1 d mst ow ix bb cpy gb hm9 ho9 hi9 hc9 th nm mo om al bs := mod_ext hmg he1 nSO200
  have hok : okS S1 := ok_fits hs ha1
  refine lv_istore (lv' := [(5, .int r), (0, .ref b), (1, .ref x), (2, .ref d), (3, .ref o), (4, .int (nI i))]) hx hb d_L_law_303 hl (by decide) rfl (fun ls hl => ?_)
  refine lv_aload_n hx hb d_L_law_305 rfl (lv_at hl 3 rfl) ?_
  refine lv_aload_n hx hb d_L_law_306 rfl (lv_at hl 1 rfl) ?_
  refine lv_iload hx hb d_L_law_307 (lv_at hl 5 rfl) ?_
  refine lv_iconst (v := 1) hx hb d_L_law_309 (by decide) ?_
  refine lv_iadd hx hb d_L_law_310 ?_
  refine sld hC hX hbl hbA hw (j := 1) rfl (by omega) hN d_L_law_311 ?_
  refine lv_aload_n hx hb d_L_law_312 rfl (lv_at hl 1 rfl) ?_
  refine lv_iload hx hb d_L_law_313 (lv_at hl 5 rfl) ?_
  refine lv_iconst (v := 2) hx hb d_L_law_315 (by decide) ?_
  refine lv_iadd hx hb d_L_law_316 ?_
  refine sld hC hX hbl hbA hw (j := 2) rfl (by omega) hN d_L_law_317 ?_
  refine lv_aload_n hx hb d_L_law_318 rfl (lv_at hl 1 rfl) ?_
  refine lv_iload hx hb d_L_law_319 (lv_at hl 5 rfl) ?_
  refine lv_iconst (v := 3) hx hb d_L_law_321 (by decide) ?_
  refine lv_iadd hx hb d_L_law_322 ?_
  refine sld hC hX hbl hbA hw (j := 3) rfl (by omega) hN d_L_law_323 ?_
  refine callVi (As := [.int (xs (i + 1)), .int (xs (i + 2)), .int (xs (i + 3))]) (n9 := 3) hC hw (c_D_fits l D kc _ _ _ d mst ow ix bb cpy gb hm9 ho9 hi9 hc9 tg1 th nm mo om al bs hmg1 hs (xs (i + 1)) (xs (i + 2)) (xs (i + 3))) k_co_D_fits k_ml_L_72 k_im_D_fits k_se_D_fits k_in_D rfl rfl (by decide +kernel) rfl ⟨Nat.le_trans (Nat.le_of_ble_eq_true rfl) hRf, Nat.le_trans (Nat.le_of_ble_eq_true rfl) hRl⟩ hmg1.1.1 hmg1.1.2.2 rfl hl.1 rfl (Nat.le_of_ble_eq_true rfl) d_L_law_324 ⟨by omega, by omega⟩ (fun r2 u H locs hp hw => ?_)
  obtain ⟨t9, tg2, S2, hm2, he2, ha2⟩ := end_fits hp
  obtain ⟨L2, f2⟩ := u
  obtain ⟨e9, e8, hv⟩ := fn_fits hs.1 ha1 ha2
  subst e8
  subst e9
  have hr2 : rP kc (L2, f2) tg2 x S2 := rP_ext hr1 hok he2
  have ho2 : OutA kc L2 f2 tg2 o v1 := oA_ext ho1 he2
  obtain ⟨mst2, ow2, ix2, bb2, cpy2, gb2, hm92, ho92, hi92, hc92, hmg2⟩ := id hm2
  refine lv_istore (lv' := [(6, .int r2), (5, .int t9), (0, .ref b), (1, .ref x), (2, .ref d), (3, .ref o), (4, .int (nI i))]) hx hb d_L_law_327 hl (by decide) rfl (fun ls hl => ?_)
  refine lv_aload_n hx hb d_L_law_329 rfl (lv_at hl 4 rfl) ?_
  refine callVi (As := []) (n9 := 0) hC hw (c_D_thrown l D kc L2 f2 _ d mst2 ow2 ix2 bb2 cpy2 gb2 hm92 ho92 hi92 hc92 tg2 t9 S2.1 S2.2.1 S2.2.2.1 S2.2.2.2.1 S2.2.2.2.2 hmg2 hok) k_co_D_thrown k_ml_L_58 k_im_D_thrown k_se_D_thrown k_in_D rfl rfl (by decide +kernel) rfl ⟨Nat.le_trans (Nat.le_of_ble_eq_true rfl) hRf, Nat.le_trans (Nat.le_of_ble_eq_true rfl) hRl⟩ hmg2.1.1 hmg2.1.2.2 rfl hl.1 rfl (Nat.le_of_ble_eq_true rfl) d_L_law_330 ⟨by omega, by omega⟩ (fun r3 u H locs hp hw => ?_)
  obtain ⟨rfl, rfl⟩ := hp
  refine lv_iload hx hb d_L_law_333 (lv_at hl 1 rfl) ?_
  refine lv_icmp_eq (tgt := 340) hx hb d_L_law_335 (by decide) (fun c1 => ?_) (fun c1 => (c1 rfl).elim)
  refine lv_iload hx hb d_L_law_340 (lv_at hl 1 rfl) ?_
  refine lv_if_ne (tgt := 364) hx hb d_L_law_342 (by decide) (fun c2 => ?_) (fun c2 => ?_)
  · refine lv_goto (tgt := 740) hx hb d_L_law_364 (by decide) ?_
    exact kont L2 f2 tg2 S2 _ v1 _ _ _ _ _ (by omega) (by omega) hr2 hm2 ho2 hok hw (lv_sub hl [2, 3, 4, 5, 6] rfl)
  · obtain ⟨hoL2, hto2, g2, hfo2, hg2⟩ := id ho2
    have hv9 := hv c2
    refine lv_aload_n hx hb d_L_law_345 rfl (lv_at hl 5 rfl) ?_
    refine lv_iconst (v := 0) hx hb d_L_law_346 (by decide) ?_
    refine ald_J hC hw hoL2 hfo2 (by decide) d_L_law_347 ?_
    refine lv_iload hx hb d_L_law_348 (lv_at hl 0 rfl) ?_
    refine lv_if_eq (tgt := 357) hx hb d_L_law_350 (by decide) (fun c3 => ?_) (fun c3 => ?_)
    · refine lv_lconst (v := 0) hx hb d_L_law_357 (by decide) ?_
      refine W.lcmp hx hb d_L_law_358 ?_
      rw [if_pos c3] at hv9
      refine lv_if_eq (tgt := 364) hx hb d_L_law_359 (by decide) (fun c4 => ?_) (fun c4 => (c4 (by rw [hg2, hv9]; decide)).elim)
      refine lv_goto (tgt := 740) hx hb d_L_law_364 (by decide) ?_
      exact kont L2 f2 tg2 S2 _ v1 _ _ _ _ _ (by omega) (by omega) hr2 hm2 ho2 hok hw (lv_sub hl [2, 3, 4, 5, 6] rfl)
    · refine lv_lconst (v := 1) hx hb d_L_law_353 (by decide) ?_
      refine lv_goto (tgt := 358) hx hb d_L_law_354 (by decide) ?_
      refine W.lcmp hx hb d_L_law_358 ?_
      rw [if_neg c3] at hv9
      refine lv_if_eq (tgt := 364) hx hb d_L_law_359 (by decide) (fun c4 => ?_) (fun c4 => (c4 (by rw [hg2, hv9]; decide)).elim)
      refine lv_goto (tgt := 740) hx hb d_L_law_364 (by decide) ?_
      exact kont L2 f2 tg2 S2 _ v1 _ _ _ _ _ (by omega) (by omega) hr2 hm2 ho2 hok hw (lv_sub hl [2, 3, 4, 5, 6] rfl)
theorem mid_load {kc : Nat → ClassId} {L : List Nat} {f : Nat → va_E} {tg : Nat → Nat × Nat} {x o : Nat} {nm : Nat} {mo : Nat → Int32} {om : Nat → Nat} {al : Nat} {bs : Nat → Nat → Nat} {v0 : Int64} {u : pU} {mm : Int32} {op : Int32} {ad : Int32} {of : Int32} {r : Int32} (hr : rP kc (L, f) tg x (nm, mo, om, al, bs)) (ho : OutA kc L f tg o v0) (hp : (r = 0 ∧ ∃ k, k < nm ∧ mm = nI k ∧ ∃ kd, kd < 14 ∧ op = nI (40 + kd) ∧ uI ad + uI of + szL kd ≤ 65536 * cnt om al k ∧ LO kc L f tg x o nm mo om al bs (loadV kd (lN (leN (bs k) (uI ad + uI of) (szL kd)))) u) ∨ (((r = 1 ∧ ¬ ((∃ k, k < nm ∧ mm = nI k) ∧ ∃ kd, kd < 14 ∧ op = nI (40 + kd))) ∨ (r = 2 ∧ ∃ k, k < nm ∧ mm = nI k ∧ ∃ kd, kd < 14 ∧ op = nI (40 + kd) ∧ ¬ (uI ad + uI of + szL kd ≤ 65536 * cnt om al k))) ∧ u = (L, f))) : ∃ (tg1 : Nat → Nat × Nat) (S1 : ST) (v1 : Int64), rP kc u tg1 x S1 ∧ Ext SO L f tg u tg1 ∧ OutA kc u.1 u.2 tg1 o v1 ∧ AN_load nm mo om al bs mm op ad of r v1 S1 := by
  rcases hp with ⟨a, k, b, c, kd, d1, d2, d3, tg', h1, h2, h3⟩ | ⟨a | a, rfl⟩
  · exact ⟨tg', (nm, mo, om, al, bs), _, h1, h2, h3, Or.inl ⟨a, k, b, c, kd, d1, d2, d3, rfl, rfl⟩⟩
  · exact ⟨tg, (nm, mo, om, al, bs), v0, hr, Ext.rf, ho, Or.inr (Or.inl ⟨a.1, a.2, rfl⟩)⟩
  · exact ⟨tg, (nm, mo, om, al, bs), v0, hr, Ext.rf, ho, Or.inr (Or.inr ⟨a.1, a.2, rfl⟩)⟩
theorem end_load {kc : Nat → ClassId} {L : List Nat} {f : Nat → va_E} {tg : Nat → Nat × Nat} {d : Nat} {nm : Nat} {mo : Nat → Int32} {om : Nat → Nat} {al : Nat} {bs : Nat → Nat → Nat} {u : pU} {mm : Int32} {op : Int32} {ad : Int32} {of : Int32} {r : Int64} (hp : ∃ t9 tg', modP kc u.1 u.2 tg' d t9 nm mo om al bs ∧ Ext SD L f tg u tg' ∧ ((t9 = 1 ∧ ¬ ((∃ k, k < nm ∧ mm = nI k) ∧ ∃ kd, kd < 14 ∧ op = nI (40 + kd))) ∨ (t9 = 2 ∧ ∃ k, k < nm ∧ mm = nI k ∧ ∃ kd, kd < 14 ∧ op = nI (40 + kd) ∧ ¬ (uI ad + uI of + szL kd ≤ 65536 * cnt om al k)) ∨ (t9 = 0 ∧ ∃ k, k < nm ∧ mm = nI k ∧ ∃ kd, kd < 14 ∧ op = nI (40 + kd) ∧ uI ad + uI of + szL kd ≤ 65536 * cnt om al k ∧ r = loadV kd (lN (leN (bs k) (uI ad + uI of) (szL kd)))))) : ∃ (t9 : Int32) (tg2 : Nat → Nat × Nat) (S2 : ST), mP kc u tg2 d t9 S2 ∧ Ext SD L f tg u tg2 ∧ AN_load nm mo om al bs mm op ad of t9 r S2 := by
  obtain ⟨t9, tg', h, he, ⟨a, b⟩ | ⟨a, b⟩ | ⟨a, k, b, c, kd, d1, d2, d3, e⟩⟩ := hp
  · exact ⟨t9, tg', (nm, mo, om, al, bs), h, he, Or.inr (Or.inl ⟨a, b, rfl⟩)⟩
  · exact ⟨t9, tg', (nm, mo, om, al, bs), h, he, Or.inr (Or.inr ⟨a, b, rfl⟩)⟩
  · subst e; exact ⟨t9, tg', (nm, mo, om, al, bs), h, he, Or.inl ⟨a, k, b, c, kd, d1, d2, d3, rfl, rfl⟩⟩
set_option maxHeartbeats 4000000 in
set_option maxRecDepth 100000 in
theorem lc_load {p : Program} {l : Launch} {e : Env} {R : Room} {s : State} {m : MethodId} {args : Array Value} {below : List Frame} {meth : Method} {c : Code} {Q : State → Prop} {A : Nat → Prop} {D : va_G} {kc : Nat → ClassId} {c0 : Cond} {ret : Option FieldType} {b N : Nat} {xs : Nat → Int32} (hst : l.stackTraces = false) (hC : Kx p m c code 8 s args c0 R_L meth ret D kc A) (hRf : 12 ≤ R.frames) (hRl : 464 ≤ R.locals) (hX : va_X b N xs s s.heap) (hbl : b < s.heap.size) (hbA : ¬ A b) (hN : N ≤ 3584) {x d o i : Nat} (hi : i + 7 ≤ N) {L : List Nat} {f : Nat → va_E} {tg : Nat → Nat × Nat} {S : ST} {th : Int32} {v0 : Int64} {H : Heap} {locs : List Loc} {cells slots : Nat} {ls : Array Slot} (hcs : cells + 20 ≤ R.cells) (hss : slots + 10275 ≤ R.slots) (hr : rP kc (L, f) tg x S) (hm : mP kc (L, f) tg d th S) (ho : OutA kc L f tg o v0) (hs : okS S) (hw : pw D Cls A s.heap H locs L f) (hl : lv_has ls 8 [(0, .ref b), (1, .ref x), (2, .ref d), (3, .ref o), (4, .int (nI i))])
    (kont : ∀ (L : List Nat) (f : Nat → va_E) (tg : Nat → Nat × Nat) (S : ST) (th : Int32) (v0 : Int64) (H : Heap) (locs : List Loc) (cells1 slots1 : Nat) (ls : Array Slot), cells1 ≤ cells + 20 → slots1 ≤ slots + 10275 → rP kc (L, f) tg x S → mP kc (L, f) tg d th S → OutA kc L f tg o v0 → okS S → pw D Cls A s.heap H locs L f → lv_has ls 8 [(0, .ref b), (1, .ref x), (2, .ref d), (3, .ref o), (4, .int (nI i))] → W p l e R s m args below meth c H locs cells1 slots1 Q (F0 m 740 ls [])) : W p l e R s m args below meth c H locs cells slots Q (F0 m 367 ls []) := by
  obtain ⟨⟨⟨hx, hb, hml, hown, hts⟩, hret9, hlocks⟩, hK, hE, hA⟩ := id hC
  obtain ⟨nm, mo, om, al, bs⟩ := S
  obtain ⟨ms, cp, gm, hc, hg⟩ := id hr
  have hg : rootG kc L f tg x ms cp gm hc nm mo om al bs := hg
  obtain ⟨mst, ow, ix, bb, cpy, gb, hm9, ho9, hi9, hc9, hmg⟩ := hm
  have hmg : modG kc L f tg d mst ow ix bb cpy gb hm9 ho9 hi9 hc9 th nm mo om al bs := hmg
  obtain ⟨hoL, hto, g0, hfo, hg0⟩ := id ho
  have hs : stOK nm mo om al bs := hs
  refine lv_aload_n hx hb d_L_law_367 rfl (lv_at hl 1 rfl) ?_
  refine lv_aload_n hx hb d_L_law_368 rfl (lv_at hl 0 rfl) ?_
  refine lv_iload hx hb d_L_law_369 (lv_at hl 4 rfl) ?_
  refine lv_iconst (v := 1) hx hb d_L_law_371 (by decide) ?_
  refine lv_iadd hx hb d_L_law_372 ?_
  refine sld hC hX hbl hbA hw (j := 1) rfl (by omega) hN d_L_law_373 ?_
  refine lv_aload_n hx hb d_L_law_374 rfl (lv_at hl 0 rfl) ?_
  refine lv_iload hx hb d_L_law_375 (lv_at hl 4 rfl) ?_
  refine lv_iconst (v := 2) hx hb d_L_law_377 (by decide) ?_
  refine lv_iadd hx hb d_L_law_378 ?_
  refine sld hC hX hbl hbA hw (j := 2) rfl (by omega) hN d_L_law_379 ?_
  refine lv_aload_n hx hb d_L_law_380 rfl (lv_at hl 0 rfl) ?_
  refine lv_iload hx hb d_L_law_381 (lv_at hl 4 rfl) ?_
  refine lv_iconst (v := 3) hx hb d_L_law_383 (by decide) ?_
  refine lv_iadd hx hb d_L_law_384 ?_
  refine sld hC hX hbl hbA hw (j := 3) rfl (by omega) hN d_L_law_385 ?_
  refine lv_aload_n hx hb d_L_law_386 rfl (lv_at hl 0 rfl) ?_
  refine lv_iload hx hb d_L_law_387 (lv_at hl 4 rfl) ?_
  refine lv_iconst (v := 4) hx hb d_L_law_389 (by decide) ?_
  refine lv_iadd hx hb d_L_law_390 ?_
  refine sld hC hX hbl hbA hw (j := 4) rfl (by omega) hN d_L_law_391 ?_
  refine lv_aload_n hx hb d_L_law_392 rfl (lv_at hl 3 rfl) ?_
  refine callHi (As := [.ref x, .int (xs (i + 1)), .int (xs (i + 2)), .int (xs (i + 3)), .int (xs (i + 4)), .ref o]) (n9 := 6) hC hw (c_L_load l hst D kc _ _ _ x ms cp gm hc tg nm mo om al bs hg hs o g0 hoL hto hfo (xs (i + 1)) (xs (i + 2)) (xs (i + 3)) (xs (i + 4))) k_co_L_load k_ml_L_73 k_sm_L_load k_in_L rfl rfl (by decide +kernel) rfl ⟨Nat.le_trans (Nat.le_of_ble_eq_true rfl) hRf, Nat.le_trans (Nat.le_of_ble_eq_true rfl) hRl⟩ hl.1 rfl (Nat.le_of_ble_eq_true rfl) d_L_law_393 ⟨by omega, by omega⟩ (fun r u H locs hp hw => ?_)
  obtain ⟨tg1, S1, v1, hr1, he1, ho1, ha1⟩ := mid_load hr ho hp
  obtain ⟨L1, f1⟩ := u
  have hmg1 : modG kc L1 f1 tg1 d mst ow ix bb cpy gb hm9 ho9 hi9 hc9 th nm mo om al bs := mod_ext hmg he1 nSO200
  have hok : okS S1 := ok_load hs ha1
  refine lv_istore (lv' := [(5, .int r), (0, .ref b), (1, .ref x), (2, .ref d), (3, .ref o), (4, .int (nI i))]) hx hb d_L_law_396 hl (by decide) rfl (fun ls hl => ?_)
  refine lv_aload_n hx hb d_L_law_398 rfl (lv_at hl 3 rfl) ?_
  refine lv_aload_n hx hb d_L_law_399 rfl (lv_at hl 1 rfl) ?_
  refine lv_iload hx hb d_L_law_400 (lv_at hl 5 rfl) ?_
  refine lv_iconst (v := 1) hx hb d_L_law_402 (by decide) ?_
  refine lv_iadd hx hb d_L_law_403 ?_
  refine sld hC hX hbl hbA hw (j := 1) rfl (by omega) hN d_L_law_404 ?_
  refine lv_aload_n hx hb d_L_law_405 rfl (lv_at hl 1 rfl) ?_
  refine lv_iload hx hb d_L_law_406 (lv_at hl 5 rfl) ?_
  refine lv_iconst (v := 2) hx hb d_L_law_408 (by decide) ?_
  refine lv_iadd hx hb d_L_law_409 ?_
  refine sld hC hX hbl hbA hw (j := 2) rfl (by omega) hN d_L_law_410 ?_
  refine lv_aload_n hx hb d_L_law_411 rfl (lv_at hl 1 rfl) ?_
  refine lv_iload hx hb d_L_law_412 (lv_at hl 5 rfl) ?_
  refine lv_iconst (v := 3) hx hb d_L_law_414 (by decide) ?_
  refine lv_iadd hx hb d_L_law_415 ?_
  refine sld hC hX hbl hbA hw (j := 3) rfl (by omega) hN d_L_law_416 ?_
  refine lv_aload_n hx hb d_L_law_417 rfl (lv_at hl 1 rfl) ?_
  refine lv_iload hx hb d_L_law_418 (lv_at hl 5 rfl) ?_
  refine lv_iconst (v := 4) hx hb d_L_law_420 (by decide) ?_
  refine lv_iadd hx hb d_L_law_421 ?_
  refine sld hC hX hbl hbA hw (j := 4) rfl (by omega) hN d_L_law_422 ?_
  refine callVl (As := [.int (xs (i + 1)), .int (xs (i + 2)), .int (xs (i + 3)), .int (xs (i + 4))]) (n9 := 4) hC hw (c_D_load l D kc _ _ _ d mst ow ix bb cpy gb hm9 ho9 hi9 hc9 tg1 th nm mo om al bs hmg1 hs (xs (i + 1)) (xs (i + 2)) (xs (i + 3)) (xs (i + 4))) k_co_D_load k_ml_L_76 k_im_D_load k_se_D_load k_in_D rfl rfl (by decide +kernel) rfl ⟨Nat.le_trans (Nat.le_of_ble_eq_true rfl) hRf, Nat.le_trans (Nat.le_of_ble_eq_true rfl) hRl⟩ hmg1.1.1 hmg1.1.2.2 rfl hl.1 rfl (Nat.le_of_ble_eq_true rfl) d_L_law_423 ⟨by omega, by omega⟩ (fun r2 u H locs hp hw => ?_)
  obtain ⟨t9, tg2, S2, hm2, he2, ha2⟩ := end_load hp
  obtain ⟨L2, f2⟩ := u
  obtain ⟨e9, e8, hv⟩ := fn_load hs.1 ha1 ha2
  subst e8
  subst e9
  have hr2 : rP kc (L2, f2) tg2 x S2 := rP_ext hr1 hok he2
  have ho2 : OutA kc L2 f2 tg2 o v1 := oA_ext ho1 he2
  obtain ⟨mst2, ow2, ix2, bb2, cpy2, gb2, hm92, ho92, hi92, hc92, hmg2⟩ := id hm2
  refine lv_lstore (lv' := [(6, .long r2), (5, .int t9), (0, .ref b), (1, .ref x), (2, .ref d), (3, .ref o), (4, .int (nI i))]) hx hb d_L_law_426 hl (by decide) rfl (fun ls hl => ?_)
  refine lv_aload_n hx hb d_L_law_428 rfl (lv_at hl 4 rfl) ?_
  refine callVi (As := []) (n9 := 0) hC hw (c_D_thrown l D kc L2 f2 _ d mst2 ow2 ix2 bb2 cpy2 gb2 hm92 ho92 hi92 hc92 tg2 t9 S2.1 S2.2.1 S2.2.2.1 S2.2.2.2.1 S2.2.2.2.2 hmg2 hok) k_co_D_thrown k_ml_L_58 k_im_D_thrown k_se_D_thrown k_in_D rfl rfl (by decide +kernel) rfl ⟨Nat.le_trans (Nat.le_of_ble_eq_true rfl) hRf, Nat.le_trans (Nat.le_of_ble_eq_true rfl) hRl⟩ hmg2.1.1 hmg2.1.2.2 rfl hl.1 rfl (Nat.le_of_ble_eq_true rfl) d_L_law_429 ⟨by omega, by omega⟩ (fun r3 u H locs hp hw => ?_)
  obtain ⟨rfl, rfl⟩ := hp
  refine lv_iload hx hb d_L_law_432 (lv_at hl 1 rfl) ?_
  refine lv_icmp_eq (tgt := 439) hx hb d_L_law_434 (by decide) (fun c1 => ?_) (fun c1 => (c1 rfl).elim)
  refine lv_iload hx hb d_L_law_439 (lv_at hl 1 rfl) ?_
  refine lv_if_ne (tgt := 455) hx hb d_L_law_441 (by decide) (fun c2 => ?_) (fun c2 => ?_)
  · refine lv_goto (tgt := 740) hx hb d_L_law_455 (by decide) ?_
    exact kont L2 f2 tg2 S2 _ v1 _ _ _ _ _ (by omega) (by omega) hr2 hm2 ho2 hok hw (lv_sub hl [2, 3, 4, 5, 6] rfl)
  · obtain ⟨hoL2, hto2, g2, hfo2, hg2⟩ := id ho2
    have hv9 := hv c2
    refine lv_aload_n hx hb d_L_law_444 rfl (lv_at hl 5 rfl) ?_
    refine lv_iconst (v := 0) hx hb d_L_law_445 (by decide) ?_
    refine ald_J hC hw hoL2 hfo2 (by decide) d_L_law_446 ?_
    refine lv_lload hx hb d_L_law_447 (lv_at hl 0 rfl) ?_
    refine W.lcmp hx hb d_L_law_449 ?_
    refine lv_if_eq (tgt := 455) hx hb d_L_law_450 (by decide) (fun c4 => ?_) (fun c4 => (c4 (by rw [hg2, hv9]; exact cmp_self _)).elim)
    refine lv_goto (tgt := 740) hx hb d_L_law_455 (by decide) ?_
    exact kont L2 f2 tg2 S2 _ v1 _ _ _ _ _ (by omega) (by omega) hr2 hm2 ho2 hok hw (lv_sub hl [2, 3, 4, 5, 6] rfl)
theorem mid_store {kc : Nat → ClassId} {L : List Nat} {f : Nat → va_E} {tg : Nat → Nat × Nat} {x o : Nat} {nm : Nat} {mo : Nat → Int32} {om : Nat → Nat} {al : Nat} {bs : Nat → Nat → Nat} {v0 : Int64} {u : pU} {mm : Int32} {op : Int32} {ad : Int32} {of : Int32} {vl : Int64} {r : Int32} (hr : rP kc (L, f) tg x (nm, mo, om, al, bs)) (ho : OutA kc L f tg o v0) (hp : (r = 0 ∧ ∃ k, k < nm ∧ mm = nI k ∧ ∃ kd, kd < 9 ∧ op = nI (54 + kd) ∧ uI ad + uI of + szS kd ≤ 65536 * cnt om al k ∧ LN kc L f tg x nm mo om al (va_up bs k (putN (bs k) (uI ad + uI of) (uL vl) (szS kd))) u) ∨ (((r = 1 ∧ ¬ ((∃ k, k < nm ∧ mm = nI k) ∧ ∃ kd, kd < 9 ∧ op = nI (54 + kd))) ∨ (r = 2 ∧ ∃ k, k < nm ∧ mm = nI k ∧ ∃ kd, kd < 9 ∧ op = nI (54 + kd) ∧ ¬ (uI ad + uI of + szS kd ≤ 65536 * cnt om al k))) ∧ u = (L, f))) : ∃ (tg1 : Nat → Nat × Nat) (S1 : ST) (v1 : Int64), rP kc u tg1 x S1 ∧ Ext SO L f tg u tg1 ∧ OutA kc u.1 u.2 tg1 o v1 ∧ AN_store nm mo om al bs mm op ad of vl r v1 S1 := by
  rcases hp with ⟨a, k, b, c, kd, d1, d2, d3, tg', h1, h2⟩ | ⟨a | a, rfl⟩
  · exact ⟨tg', (_, _, _, _, _), v0, h1, h2.mono (fun i hi => Or.inl hi), oA_c ho h2, Or.inl ⟨a, k, b, c, kd, d1, d2, d3, rfl⟩⟩
  · exact ⟨tg, (nm, mo, om, al, bs), v0, hr, Ext.rf, ho, Or.inr (Or.inl ⟨a.1, a.2, rfl⟩)⟩
  · exact ⟨tg, (nm, mo, om, al, bs), v0, hr, Ext.rf, ho, Or.inr (Or.inr ⟨a.1, a.2, rfl⟩)⟩
theorem end_store {kc : Nat → ClassId} {L : List Nat} {f : Nat → va_E} {tg : Nat → Nat × Nat} {d : Nat} {nm : Nat} {mo : Nat → Int32} {om : Nat → Nat} {al : Nat} {bs : Nat → Nat → Nat} {u : pU} {mm : Int32} {op : Int32} {ad : Int32} {of : Int32} {vl : Int64} (hp : ∃ t9 tg', Ext SD L f tg u tg' ∧ ((t9 = 1 ∧ ¬ ((∃ k, k < nm ∧ mm = nI k) ∧ ∃ kd, kd < 9 ∧ op = nI (54 + kd)) ∧ modP kc u.1 u.2 tg' d t9 nm mo om al bs) ∨ (t9 = 2 ∧ ∃ k, k < nm ∧ mm = nI k ∧ ∃ kd, kd < 9 ∧ op = nI (54 + kd) ∧ ¬ (uI ad + uI of + szS kd ≤ 65536 * cnt om al k) ∧ modP kc u.1 u.2 tg' d t9 nm mo om al bs) ∨ (t9 = 0 ∧ ∃ k, k < nm ∧ mm = nI k ∧ ∃ kd, kd < 9 ∧ op = nI (54 + kd) ∧ uI ad + uI of + szS kd ≤ 65536 * cnt om al k ∧ modP kc u.1 u.2 tg' d t9 nm mo om al (va_up bs k (putN (bs k) (uI ad + uI of) (uL vl) (szS kd)))))) : ∃ (t9 : Int32) (tg2 : Nat → Nat × Nat) (S2 : ST), mP kc u tg2 d t9 S2 ∧ Ext SD L f tg u tg2 ∧ AN_store nm mo om al bs mm op ad of vl t9 0 S2 := by
  obtain ⟨t9, tg', he, ⟨a, b, h⟩ | ⟨a, k, b, c, kd, d1, d2, d3, h⟩ | ⟨a, k, b, c, kd, d1, d2, d3, h⟩⟩ := hp
  · exact ⟨t9, tg', (nm, mo, om, al, bs), h, he, Or.inr (Or.inl ⟨a, b, rfl⟩)⟩
  · exact ⟨t9, tg', (nm, mo, om, al, bs), h, he, Or.inr (Or.inr ⟨a, ⟨k, b, c, kd, d1, d2, d3⟩, rfl⟩)⟩
  · exact ⟨t9, tg', (_, _, _, _, _), h, he, Or.inl ⟨a, k, b, c, kd, d1, d2, d3, rfl⟩⟩
set_option maxHeartbeats 4000000 in
set_option maxRecDepth 100000 in
theorem lc_store {p : Program} {l : Launch} {e : Env} {R : Room} {s : State} {m : MethodId} {args : Array Value} {below : List Frame} {meth : Method} {c : Code} {Q : State → Prop} {A : Nat → Prop} {D : va_G} {kc : Nat → ClassId} {c0 : Cond} {ret : Option FieldType} {b N : Nat} {xs : Nat → Int32} (hst : l.stackTraces = false) (hC : Kx p m c code 8 s args c0 R_L meth ret D kc A) (hRf : 12 ≤ R.frames) (hRl : 464 ≤ R.locals) (hX : va_X b N xs s s.heap) (hbl : b < s.heap.size) (hbA : ¬ A b) (hN : N ≤ 3584) {x d o i : Nat} (hi : i + 7 ≤ N) {L : List Nat} {f : Nat → va_E} {tg : Nat → Nat × Nat} {S : ST} {th : Int32} {v0 : Int64} {H : Heap} {locs : List Loc} {cells slots : Nat} {ls : Array Slot} (hcs : cells + 20 ≤ R.cells) (hss : slots + 10275 ≤ R.slots) (hr : rP kc (L, f) tg x S) (hm : mP kc (L, f) tg d th S) (ho : OutA kc L f tg o v0) (hs : okS S) (hw : pw D Cls A s.heap H locs L f) (hl : lv_has ls 8 [(0, .ref b), (1, .ref x), (2, .ref d), (3, .ref o), (4, .int (nI i))])
    (kont : ∀ (L : List Nat) (f : Nat → va_E) (tg : Nat → Nat × Nat) (S : ST) (th : Int32) (v0 : Int64) (H : Heap) (locs : List Loc) (cells1 slots1 : Nat) (ls : Array Slot), cells1 ≤ cells + 20 → slots1 ≤ slots + 10275 → rP kc (L, f) tg x S → mP kc (L, f) tg d th S → OutA kc L f tg o v0 → okS S → pw D Cls A s.heap H locs L f → lv_has ls 8 [(0, .ref b), (1, .ref x), (2, .ref d), (3, .ref o), (4, .int (nI i))] → W p l e R s m args below meth c H locs cells1 slots1 Q (F0 m 740 ls [])) : W p l e R s m args below meth c H locs cells slots Q (F0 m 458 ls []) := by
  obtain ⟨⟨⟨hx, hb, hml, hown, hts⟩, hret9, hlocks⟩, hK, hE, hA⟩ := id hC
  obtain ⟨nm, mo, om, al, bs⟩ := S
  obtain ⟨ms, cp, gm, hc, hg⟩ := id hr
  have hg : rootG kc L f tg x ms cp gm hc nm mo om al bs := hg
  obtain ⟨mst, ow, ix, bb, cpy, gb, hm9, ho9, hi9, hc9, hmg⟩ := hm
  have hmg : modG kc L f tg d mst ow ix bb cpy gb hm9 ho9 hi9 hc9 th nm mo om al bs := hmg
  obtain ⟨hoL, hto, g0, hfo, hg0⟩ := id ho
  have hs : stOK nm mo om al bs := hs
  refine lv_aload_n hx hb d_L_law_458 rfl (lv_at hl 1 rfl) ?_
  refine lv_aload_n hx hb d_L_law_459 rfl (lv_at hl 0 rfl) ?_
  refine lv_iload hx hb d_L_law_460 (lv_at hl 4 rfl) ?_
  refine lv_iconst (v := 1) hx hb d_L_law_462 (by decide) ?_
  refine lv_iadd hx hb d_L_law_463 ?_
  refine sld hC hX hbl hbA hw (j := 1) rfl (by omega) hN d_L_law_464 ?_
  refine lv_aload_n hx hb d_L_law_465 rfl (lv_at hl 0 rfl) ?_
  refine lv_iload hx hb d_L_law_466 (lv_at hl 4 rfl) ?_
  refine lv_iconst (v := 2) hx hb d_L_law_468 (by decide) ?_
  refine lv_iadd hx hb d_L_law_469 ?_
  refine sld hC hX hbl hbA hw (j := 2) rfl (by omega) hN d_L_law_470 ?_
  refine lv_aload_n hx hb d_L_law_471 rfl (lv_at hl 0 rfl) ?_
  refine lv_iload hx hb d_L_law_472 (lv_at hl 4 rfl) ?_
  refine lv_iconst (v := 3) hx hb d_L_law_474 (by decide) ?_
  refine lv_iadd hx hb d_L_law_475 ?_
  refine sld hC hX hbl hbA hw (j := 3) rfl (by omega) hN d_L_law_476 ?_
  refine lv_aload_n hx hb d_L_law_477 rfl (lv_at hl 0 rfl) ?_
  refine lv_iload hx hb d_L_law_478 (lv_at hl 4 rfl) ?_
  refine lv_iconst (v := 4) hx hb d_L_law_480 (by decide) ?_
  refine lv_iadd hx hb d_L_law_481 ?_
  refine sld hC hX hbl hbA hw (j := 4) rfl (by omega) hN d_L_law_482 ?_
  refine lv_aload_n hx hb d_L_law_483 rfl (lv_at hl 0 rfl) ?_
  refine lv_iload hx hb d_L_law_484 (lv_at hl 4 rfl) ?_
  refine lv_iconst (v := 5) hx hb d_L_law_486 (by decide) ?_
  refine lv_iadd hx hb d_L_law_487 ?_
  refine sld hC hX hbl hbA hw (j := 5) rfl (by omega) hN d_L_law_488 ?_
  refine lv_i2l hx hb d_L_law_489 rfl ?_
  refine lv_bipush (v := 32) hx hb d_L_law_490 (by decide) ?_
  refine lv_lshl hx hb d_L_law_492 rfl ?_
  refine lv_aload_n hx hb d_L_law_493 rfl (lv_at hl 0 rfl) ?_
  refine lv_iload hx hb d_L_law_494 (lv_at hl 4 rfl) ?_
  refine lv_bipush (v := 6) hx hb d_L_law_496 (by decide) ?_
  refine lv_iadd hx hb d_L_law_498 ?_
  refine sld hC hX hbl hbA hw (j := 6) rfl (by omega) hN d_L_law_499 ?_
  refine lv_i2l hx hb d_L_law_500 rfl ?_
  refine lv_ldc2 (v := 4294967295) hx hb hown (hts _ (gg_mem k_cn_L_77)) d_L_law_501 ?_
  refine lv_land hx hb d_L_law_504 ?_
  refine lv_lor hx hb d_L_law_505 ?_
  refine callHi (As := [.ref x, .int (xs (i + 1)), .int (xs (i + 2)), .int (xs (i + 3)), .int (xs (i + 4)), .long ((((xs (i + 5)).toInt64) <<< ((32 : Int32).toInt64 &&& 63)) ||| (((xs (i + 6)).toInt64) &&& 4294967295))]) (n9 := 6) hC hw (c_L_store l hst D kc _ _ _ x ms cp gm hc tg nm mo om al bs hg hs (xs (i + 1)) (xs (i + 2)) (xs (i + 3)) (xs (i + 4)) ((((xs (i + 5)).toInt64) <<< ((32 : Int32).toInt64 &&& 63)) ||| (((xs (i + 6)).toInt64) &&& 4294967295))) k_co_L_store k_ml_L_79 k_sm_L_store k_in_L rfl rfl (by decide +kernel) rfl ⟨Nat.le_trans (Nat.le_of_ble_eq_true rfl) hRf, Nat.le_trans (Nat.le_of_ble_eq_true rfl) hRl⟩ hl.1 rfl (Nat.le_of_ble_eq_true rfl) d_L_law_506 ⟨by omega, by omega⟩ (fun r u H locs hp hw => ?_)
  obtain ⟨tg1, S1, v1, hr1, he1, ho1, ha1⟩ := mid_store hr ho hp
  obtain ⟨L1, f1⟩ := u
  have hmg1 : modG kc L1 f1 tg1 d mst ow ix bb cpy gb hm9 ho9 hi9 hc9 th nm mo om al bs := mod_ext hmg he1 nSO200
  have hok : okS S1 := ok_store hs ha1
  refine lv_istore (lv' := [(5, .int r), (0, .ref b), (1, .ref x), (2, .ref d), (3, .ref o), (4, .int (nI i))]) hx hb d_L_law_509 hl (by decide) rfl (fun ls hl => ?_)
  refine lv_aload_n hx hb d_L_law_511 rfl (lv_at hl 3 rfl) ?_
  refine lv_aload_n hx hb d_L_law_512 rfl (lv_at hl 1 rfl) ?_
  refine lv_iload hx hb d_L_law_513 (lv_at hl 5 rfl) ?_
  refine lv_iconst (v := 1) hx hb d_L_law_515 (by decide) ?_
  refine lv_iadd hx hb d_L_law_516 ?_
  refine sld hC hX hbl hbA hw (j := 1) rfl (by omega) hN d_L_law_517 ?_
  refine lv_aload_n hx hb d_L_law_518 rfl (lv_at hl 1 rfl) ?_
  refine lv_iload hx hb d_L_law_519 (lv_at hl 5 rfl) ?_
  refine lv_iconst (v := 2) hx hb d_L_law_521 (by decide) ?_
  refine lv_iadd hx hb d_L_law_522 ?_
  refine sld hC hX hbl hbA hw (j := 2) rfl (by omega) hN d_L_law_523 ?_
  refine lv_aload_n hx hb d_L_law_524 rfl (lv_at hl 1 rfl) ?_
  refine lv_iload hx hb d_L_law_525 (lv_at hl 5 rfl) ?_
  refine lv_iconst (v := 3) hx hb d_L_law_527 (by decide) ?_
  refine lv_iadd hx hb d_L_law_528 ?_
  refine sld hC hX hbl hbA hw (j := 3) rfl (by omega) hN d_L_law_529 ?_
  refine lv_aload_n hx hb d_L_law_530 rfl (lv_at hl 1 rfl) ?_
  refine lv_iload hx hb d_L_law_531 (lv_at hl 5 rfl) ?_
  refine lv_iconst (v := 4) hx hb d_L_law_533 (by decide) ?_
  refine lv_iadd hx hb d_L_law_534 ?_
  refine sld hC hX hbl hbA hw (j := 4) rfl (by omega) hN d_L_law_535 ?_
  refine lv_aload_n hx hb d_L_law_536 rfl (lv_at hl 1 rfl) ?_
  refine lv_iload hx hb d_L_law_537 (lv_at hl 5 rfl) ?_
  refine lv_iconst (v := 5) hx hb d_L_law_539 (by decide) ?_
  refine lv_iadd hx hb d_L_law_540 ?_
  refine sld hC hX hbl hbA hw (j := 5) rfl (by omega) hN d_L_law_541 ?_
  refine lv_i2l hx hb d_L_law_542 rfl ?_
  refine lv_bipush (v := 32) hx hb d_L_law_543 (by decide) ?_
  refine lv_lshl hx hb d_L_law_545 rfl ?_
  refine lv_aload_n hx hb d_L_law_546 rfl (lv_at hl 1 rfl) ?_
  refine lv_iload hx hb d_L_law_547 (lv_at hl 5 rfl) ?_
  refine lv_bipush (v := 6) hx hb d_L_law_549 (by decide) ?_
  refine lv_iadd hx hb d_L_law_551 ?_
  refine sld hC hX hbl hbA hw (j := 6) rfl (by omega) hN d_L_law_552 ?_
  refine lv_i2l hx hb d_L_law_553 rfl ?_
  refine lv_ldc2 (v := 4294967295) hx hb hown (hts _ (gg_mem k_cn_L_77)) d_L_law_554 ?_
  refine lv_land hx hb d_L_law_557 ?_
  refine lv_lor hx hb d_L_law_558 ?_
  refine callVv (As := [.int (xs (i + 1)), .int (xs (i + 2)), .int (xs (i + 3)), .int (xs (i + 4)), .long ((((xs (i + 5)).toInt64) <<< ((32 : Int32).toInt64 &&& 63)) ||| (((xs (i + 6)).toInt64) &&& 4294967295))]) (n9 := 5) hC hw (c_D_store l D kc _ _ _ d mst ow ix bb cpy gb hm9 ho9 hi9 hc9 tg1 th nm mo om al bs hmg1 hs (xs (i + 1)) (xs (i + 2)) (xs (i + 3)) (xs (i + 4)) ((((xs (i + 5)).toInt64) <<< ((32 : Int32).toInt64 &&& 63)) ||| (((xs (i + 6)).toInt64) &&& 4294967295))) k_co_D_store k_ml_L_82 k_im_D_store k_se_D_store k_in_D rfl rfl (by decide +kernel) rfl ⟨Nat.le_trans (Nat.le_of_ble_eq_true rfl) hRf, Nat.le_trans (Nat.le_of_ble_eq_true rfl) hRl⟩ hmg1.1.1 hmg1.1.2.2 rfl hl.1 rfl (Nat.le_of_ble_eq_true rfl) d_L_law_559 ⟨by omega, by omega⟩ (fun u H locs hp hw => ?_)
  obtain ⟨t9, tg2, S2, hm2, he2, ha2⟩ := end_store hp
  obtain ⟨L2, f2⟩ := u
  obtain ⟨e9, e8⟩ := fn_store hs.1 ha1 ha2
  subst e8
  subst e9
  have hr2 : rP kc (L2, f2) tg2 x S2 := rP_ext hr1 hok he2
  have ho2 : OutA kc L2 f2 tg2 o v1 := oA_ext ho1 he2
  obtain ⟨mst2, ow2, ix2, bb2, cpy2, gb2, hm92, ho92, hi92, hc92, hmg2⟩ := id hm2
  refine lv_aload_n hx hb d_L_law_562 rfl (lv_at hl 3 rfl) ?_
  refine callVi (As := []) (n9 := 0) hC hw (c_D_thrown l D kc L2 f2 _ d mst2 ow2 ix2 bb2 cpy2 gb2 hm92 ho92 hi92 hc92 tg2 t9 S2.1 S2.2.1 S2.2.2.1 S2.2.2.2.1 S2.2.2.2.2 hmg2 hok) k_co_D_thrown k_ml_L_58 k_im_D_thrown k_se_D_thrown k_in_D rfl rfl (by decide +kernel) rfl ⟨Nat.le_trans (Nat.le_of_ble_eq_true rfl) hRf, Nat.le_trans (Nat.le_of_ble_eq_true rfl) hRl⟩ hmg2.1.1 hmg2.1.2.2 rfl hl.1 rfl (Nat.le_of_ble_eq_true rfl) d_L_law_563 ⟨by omega, by omega⟩ (fun r3 u H locs hp hw => ?_)
  obtain ⟨rfl, rfl⟩ := hp
  refine lv_iload hx hb d_L_law_566 (lv_at hl 0 rfl) ?_
  refine lv_icmp_eq (tgt := 573) hx hb d_L_law_568 (by decide) (fun c1 => ?_) (fun c1 => (c1 rfl).elim)
  refine lv_goto (tgt := 740) hx hb d_L_law_573 (by decide) ?_
  exact kont L2 f2 tg2 S2 _ v1 _ _ _ _ _ (by omega) (by omega) hr2 hm2 ho2 hok hw (lv_sub hl [1, 2, 3, 4, 5] rfl)
theorem mid_copy {kc : Nat → ClassId} {L : List Nat} {f : Nat → va_E} {tg : Nat → Nat × Nat} {x o : Nat} {nm : Nat} {mo : Nat → Int32} {om : Nat → Nat} {al : Nat} {bs : Nat → Nat → Nat} {v0 : Int64} {u : pU} {mm : Int32} {fr : Int32} {m2 : Int32} {to9 : Int32} {cn : Int32} {r : Int32} (hr : rP kc (L, f) tg x (nm, mo, om, al, bs)) (ho : OutA kc L f tg o v0) (hp : (r = 0 ∧ ∃ k1, k1 < nm ∧ mm = nI k1 ∧ ∃ k2, k2 < nm ∧ m2 = nI k2 ∧ ∃ nb, nb ≤ 4096 ∧ cn = nI nb ∧ ((nb = 0 ∧ LN kc L f tg x nm mo om al bs u) ∨ (0 < nb ∧ ∃ P, fr = nI P ∧ P + nb ≤ 65536 * cnt om al k1 ∧ ∃ P2, to9 = nI P2 ∧ P2 + nb ≤ 65536 * cnt om al k2 ∧ LN kc L f tg x nm mo om al (va_up bs k2 (cpN (bs k2) P2 nb (fun j => bs k1 (P + j)))) u))) ∨ (((r = 1 ∧ ¬ ((∃ k, k < nm ∧ mm = nI k) ∧ (∃ k, k < nm ∧ m2 = nI k) ∧ ¬ cn < 0 ∧ cn ≤ 4096)) ∨ (r = 2 ∧ ∃ k1, k1 < nm ∧ mm = nI k1 ∧ ∃ k2, k2 < nm ∧ m2 = nI k2 ∧ ∃ nb, nb ≤ 4096 ∧ cn = nI nb ∧ 0 < nb ∧ ¬ ((∃ P, fr = nI P ∧ P + nb ≤ 65536 * cnt om al k1) ∧ ∃ P2, to9 = nI P2 ∧ P2 + nb ≤ 65536 * cnt om al k2))) ∧ u = (L, f))) : ∃ (tg1 : Nat → Nat × Nat) (S1 : ST) (v1 : Int64), rP kc u tg1 x S1 ∧ Ext SO L f tg u tg1 ∧ OutA kc u.1 u.2 tg1 o v1 ∧ AN_copy nm mo om al bs mm fr m2 to9 cn r v1 S1 := by
  rcases hp with ⟨a, k, b, c, k2, b2, c2, nb, d1, d2, ⟨d3, tg', h1, h2⟩ | ⟨d3, P, e1, e2, P2, e3, e4, tg', h1, h2⟩⟩ | ⟨a | a, rfl⟩
  · exact ⟨tg', (nm, mo, om, al, bs), v0, h1, h2.mono (fun i hi => Or.inl hi), oA_c ho h2, Or.inl ⟨a, k, b, c, k2, b2, c2, nb, d1, d2, Or.inl ⟨d3, rfl⟩⟩⟩
  · exact ⟨tg', (_, _, _, _, _), v0, h1, h2.mono (fun i hi => Or.inl hi), oA_c ho h2, Or.inl ⟨a, k, b, c, k2, b2, c2, nb, d1, d2, Or.inr ⟨d3, P, e1, e2, P2, e3, e4, rfl⟩⟩⟩
  · exact ⟨tg, (nm, mo, om, al, bs), v0, hr, Ext.rf, ho, Or.inr (Or.inl ⟨a.1, a.2, rfl⟩)⟩
  · exact ⟨tg, (nm, mo, om, al, bs), v0, hr, Ext.rf, ho, Or.inr (Or.inr ⟨a.1, a.2, rfl⟩)⟩
theorem end_copy {kc : Nat → ClassId} {L : List Nat} {f : Nat → va_E} {tg : Nat → Nat × Nat} {d : Nat} {nm : Nat} {mo : Nat → Int32} {om : Nat → Nat} {al : Nat} {bs : Nat → Nat → Nat} {u : pU} {mm : Int32} {fr : Int32} {m2 : Int32} {to9 : Int32} {cn : Int32} (hp : ∃ t9 tg', Ext SD L f tg u tg' ∧ ((t9 = 1 ∧ ¬ ((∃ k, k < nm ∧ mm = nI k) ∧ (∃ k, k < nm ∧ m2 = nI k) ∧ ¬ cn < 0 ∧ cn ≤ 4096) ∧ modP kc u.1 u.2 tg' d t9 nm mo om al bs) ∨ (t9 = 2 ∧ ∃ k1, k1 < nm ∧ mm = nI k1 ∧ ∃ k2, k2 < nm ∧ m2 = nI k2 ∧ ∃ nb, nb ≤ 4096 ∧ cn = nI nb ∧ 0 < nb ∧ ¬ ((∃ P, fr = nI P ∧ P + nb ≤ 65536 * cnt om al k1) ∧ ∃ P2, to9 = nI P2 ∧ P2 + nb ≤ 65536 * cnt om al k2) ∧ modP kc u.1 u.2 tg' d t9 nm mo om al bs) ∨ (t9 = 0 ∧ ∃ k1, k1 < nm ∧ mm = nI k1 ∧ ∃ k2, k2 < nm ∧ m2 = nI k2 ∧ ∃ nb, nb ≤ 4096 ∧ cn = nI nb ∧ ((nb = 0 ∧ modP kc u.1 u.2 tg' d t9 nm mo om al bs) ∨ (0 < nb ∧ ∃ P, fr = nI P ∧ P + nb ≤ 65536 * cnt om al k1 ∧ ∃ P2, to9 = nI P2 ∧ P2 + nb ≤ 65536 * cnt om al k2 ∧ modP kc u.1 u.2 tg' d t9 nm mo om al (va_up bs k2 (cpN (bs k2) P2 nb (fun j => bs k1 (P + j))))))))) : ∃ (t9 : Int32) (tg2 : Nat → Nat × Nat) (S2 : ST), mP kc u tg2 d t9 S2 ∧ Ext SD L f tg u tg2 ∧ AN_copy nm mo om al bs mm fr m2 to9 cn t9 0 S2 := by
  obtain ⟨t9, tg', he, ⟨a, b, h⟩ | ⟨a, k, b, c, k2, b2, c2, nb, d1, d2, d3, d4, h⟩ | ⟨a, k, b, c, k2, b2, c2, nb, d1, d2, ⟨d3, h⟩ | ⟨d3, P, e1, e2, P2, e3, e4, h⟩⟩⟩ := hp
  · exact ⟨t9, tg', (nm, mo, om, al, bs), h, he, Or.inr (Or.inl ⟨a, b, rfl⟩)⟩
  · exact ⟨t9, tg', (nm, mo, om, al, bs), h, he, Or.inr (Or.inr ⟨a, ⟨k, b, c, k2, b2, c2, nb, d1, d2, d3, d4⟩, rfl⟩)⟩
  · exact ⟨t9, tg', (nm, mo, om, al, bs), h, he, Or.inl ⟨a, k, b, c, k2, b2, c2, nb, d1, d2, Or.inl ⟨d3, rfl⟩⟩⟩
  · exact ⟨t9, tg', (_, _, _, _, _), h, he, Or.inl ⟨a, k, b, c, k2, b2, c2, nb, d1, d2, Or.inr ⟨d3, P, e1, e2, P2, e3, e4, rfl⟩⟩⟩
set_option maxHeartbeats 4000000 in
set_option maxRecDepth 100000 in
theorem lc_copy {p : Program} {l : Launch} {e : Env} {R : Room} {s : State} {m : MethodId} {args : Array Value} {below : List Frame} {meth : Method} {c : Code} {Q : State → Prop} {A : Nat → Prop} {D : va_G} {kc : Nat → ClassId} {c0 : Cond} {ret : Option FieldType} {b N : Nat} {xs : Nat → Int32} (hst : l.stackTraces = false) (hC : Kx p m c code 8 s args c0 R_L meth ret D kc A) (hRf : 12 ≤ R.frames) (hRl : 464 ≤ R.locals) (hX : va_X b N xs s s.heap) (hbl : b < s.heap.size) (hbA : ¬ A b) (hN : N ≤ 3584) {x d o i : Nat} (hi : i + 7 ≤ N) {L : List Nat} {f : Nat → va_E} {tg : Nat → Nat × Nat} {S : ST} {th : Int32} {v0 : Int64} {H : Heap} {locs : List Loc} {cells slots : Nat} {ls : Array Slot} (hcs : cells + 20 ≤ R.cells) (hss : slots + 10275 ≤ R.slots) (hr : rP kc (L, f) tg x S) (hm : mP kc (L, f) tg d th S) (ho : OutA kc L f tg o v0) (hs : okS S) (hw : pw D Cls A s.heap H locs L f) (hl : lv_has ls 8 [(0, .ref b), (1, .ref x), (2, .ref d), (3, .ref o), (4, .int (nI i))])
    (kont : ∀ (L : List Nat) (f : Nat → va_E) (tg : Nat → Nat × Nat) (S : ST) (th : Int32) (v0 : Int64) (H : Heap) (locs : List Loc) (cells1 slots1 : Nat) (ls : Array Slot), cells1 ≤ cells + 20 → slots1 ≤ slots + 10275 → rP kc (L, f) tg x S → mP kc (L, f) tg d th S → OutA kc L f tg o v0 → okS S → pw D Cls A s.heap H locs L f → lv_has ls 8 [(0, .ref b), (1, .ref x), (2, .ref d), (3, .ref o), (4, .int (nI i))] → W p l e R s m args below meth c H locs cells1 slots1 Q (F0 m 740 ls [])) : W p l e R s m args below meth c H locs cells slots Q (F0 m 576 ls []) := by
  obtain ⟨⟨⟨hx, hb, hml, hown, hts⟩, hret9, hlocks⟩, hK, hE, hA⟩ := id hC
  obtain ⟨nm, mo, om, al, bs⟩ := S
  obtain ⟨ms, cp, gm, hc, hg⟩ := id hr
  have hg : rootG kc L f tg x ms cp gm hc nm mo om al bs := hg
  obtain ⟨mst, ow, ix, bb, cpy, gb, hm9, ho9, hi9, hc9, hmg⟩ := hm
  have hmg : modG kc L f tg d mst ow ix bb cpy gb hm9 ho9 hi9 hc9 th nm mo om al bs := hmg
  obtain ⟨hoL, hto, g0, hfo, hg0⟩ := id ho
  have hs : stOK nm mo om al bs := hs
  refine lv_aload_n hx hb d_L_law_576 rfl (lv_at hl 1 rfl) ?_
  refine lv_aload_n hx hb d_L_law_577 rfl (lv_at hl 0 rfl) ?_
  refine lv_iload hx hb d_L_law_578 (lv_at hl 4 rfl) ?_
  refine lv_iconst (v := 1) hx hb d_L_law_580 (by decide) ?_
  refine lv_iadd hx hb d_L_law_581 ?_
  refine sld hC hX hbl hbA hw (j := 1) rfl (by omega) hN d_L_law_582 ?_
  refine lv_aload_n hx hb d_L_law_583 rfl (lv_at hl 0 rfl) ?_
  refine lv_iload hx hb d_L_law_584 (lv_at hl 4 rfl) ?_
  refine lv_iconst (v := 2) hx hb d_L_law_586 (by decide) ?_
  refine lv_iadd hx hb d_L_law_587 ?_
  refine sld hC hX hbl hbA hw (j := 2) rfl (by omega) hN d_L_law_588 ?_
  refine lv_aload_n hx hb d_L_law_589 rfl (lv_at hl 0 rfl) ?_
  refine lv_iload hx hb d_L_law_590 (lv_at hl 4 rfl) ?_
  refine lv_iconst (v := 3) hx hb d_L_law_592 (by decide) ?_
  refine lv_iadd hx hb d_L_law_593 ?_
  refine sld hC hX hbl hbA hw (j := 3) rfl (by omega) hN d_L_law_594 ?_
  refine lv_aload_n hx hb d_L_law_595 rfl (lv_at hl 0 rfl) ?_
  refine lv_iload hx hb d_L_law_596 (lv_at hl 4 rfl) ?_
  refine lv_iconst (v := 4) hx hb d_L_law_598 (by decide) ?_
  refine lv_iadd hx hb d_L_law_599 ?_
  refine sld hC hX hbl hbA hw (j := 4) rfl (by omega) hN d_L_law_600 ?_
  refine lv_aload_n hx hb d_L_law_601 rfl (lv_at hl 0 rfl) ?_
  refine lv_iload hx hb d_L_law_602 (lv_at hl 4 rfl) ?_
  refine lv_iconst (v := 5) hx hb d_L_law_604 (by decide) ?_
  refine lv_iadd hx hb d_L_law_605 ?_
  refine sld hC hX hbl hbA hw (j := 5) rfl (by omega) hN d_L_law_606 ?_
  refine callHi (As := [.ref x, .int (xs (i + 1)), .int (xs (i + 2)), .int (xs (i + 3)), .int (xs (i + 4)), .int (xs (i + 5))]) (n9 := 6) hC hw (c_L_copy l hst D kc _ _ _ x ms cp gm hc tg nm mo om al bs hg hs (xs (i + 1)) (xs (i + 2)) (xs (i + 3)) (xs (i + 4)) (xs (i + 5))) k_co_L_copy k_ml_L_83 k_sm_L_copy k_in_L rfl rfl (by decide +kernel) rfl ⟨Nat.le_trans (Nat.le_of_ble_eq_true rfl) hRf, Nat.le_trans (Nat.le_of_ble_eq_true rfl) hRl⟩ hl.1 rfl (Nat.le_of_ble_eq_true rfl) d_L_law_607 ⟨by omega, by omega⟩ (fun r u H locs hp hw => ?_)
  obtain ⟨tg1, S1, v1, hr1, he1, ho1, ha1⟩ := mid_copy hr ho hp
  obtain ⟨L1, f1⟩ := u
  have hmg1 : modG kc L1 f1 tg1 d mst ow ix bb cpy gb hm9 ho9 hi9 hc9 th nm mo om al bs := mod_ext hmg he1 nSO200
  have hok : okS S1 := ok_copy hs ha1
  refine lv_istore (lv' := [(5, .int r), (0, .ref b), (1, .ref x), (2, .ref d), (3, .ref o), (4, .int (nI i))]) hx hb d_L_law_610 hl (by decide) rfl (fun ls hl => ?_)
  refine lv_aload_n hx hb d_L_law_612 rfl (lv_at hl 3 rfl) ?_
  refine lv_aload_n hx hb d_L_law_613 rfl (lv_at hl 1 rfl) ?_
  refine lv_iload hx hb d_L_law_614 (lv_at hl 5 rfl) ?_
  refine lv_iconst (v := 1) hx hb d_L_law_616 (by decide) ?_
  refine lv_iadd hx hb d_L_law_617 ?_
  refine sld hC hX hbl hbA hw (j := 1) rfl (by omega) hN d_L_law_618 ?_
  refine lv_aload_n hx hb d_L_law_619 rfl (lv_at hl 1 rfl) ?_
  refine lv_iload hx hb d_L_law_620 (lv_at hl 5 rfl) ?_
  refine lv_iconst (v := 2) hx hb d_L_law_622 (by decide) ?_
  refine lv_iadd hx hb d_L_law_623 ?_
  refine sld hC hX hbl hbA hw (j := 2) rfl (by omega) hN d_L_law_624 ?_
  refine lv_aload_n hx hb d_L_law_625 rfl (lv_at hl 1 rfl) ?_
  refine lv_iload hx hb d_L_law_626 (lv_at hl 5 rfl) ?_
  refine lv_iconst (v := 3) hx hb d_L_law_628 (by decide) ?_
  refine lv_iadd hx hb d_L_law_629 ?_
  refine sld hC hX hbl hbA hw (j := 3) rfl (by omega) hN d_L_law_630 ?_
  refine lv_aload_n hx hb d_L_law_631 rfl (lv_at hl 1 rfl) ?_
  refine lv_iload hx hb d_L_law_632 (lv_at hl 5 rfl) ?_
  refine lv_iconst (v := 4) hx hb d_L_law_634 (by decide) ?_
  refine lv_iadd hx hb d_L_law_635 ?_
  refine sld hC hX hbl hbA hw (j := 4) rfl (by omega) hN d_L_law_636 ?_
  refine lv_aload_n hx hb d_L_law_637 rfl (lv_at hl 1 rfl) ?_
  refine lv_iload hx hb d_L_law_638 (lv_at hl 5 rfl) ?_
  refine lv_iconst (v := 5) hx hb d_L_law_640 (by decide) ?_
  refine lv_iadd hx hb d_L_law_641 ?_
  refine sld hC hX hbl hbA hw (j := 5) rfl (by omega) hN d_L_law_642 ?_
  refine callVv (As := [.int (xs (i + 1)), .int (xs (i + 2)), .int (xs (i + 3)), .int (xs (i + 4)), .int (xs (i + 5))]) (n9 := 5) hC hw (c_D_copy l D kc _ _ _ d mst ow ix bb cpy gb hm9 ho9 hi9 hc9 tg1 th nm mo om al bs hmg1 hs (xs (i + 1)) (xs (i + 2)) (xs (i + 3)) (xs (i + 4)) (xs (i + 5))) k_co_D_copy k_ml_L_86 k_im_D_copy k_se_D_copy k_in_D rfl rfl (by decide +kernel) rfl ⟨Nat.le_trans (Nat.le_of_ble_eq_true rfl) hRf, Nat.le_trans (Nat.le_of_ble_eq_true rfl) hRl⟩ hmg1.1.1 hmg1.1.2.2 rfl hl.1 rfl (Nat.le_of_ble_eq_true rfl) d_L_law_643 ⟨by omega, by omega⟩ (fun u H locs hp hw => ?_)
  obtain ⟨t9, tg2, S2, hm2, he2, ha2⟩ := end_copy hp
  obtain ⟨L2, f2⟩ := u
  obtain ⟨e9, e8⟩ := fn_copy hs ha1 ha2
  subst e8
  subst e9
  have hr2 : rP kc (L2, f2) tg2 x S2 := rP_ext hr1 hok he2
  have ho2 : OutA kc L2 f2 tg2 o v1 := oA_ext ho1 he2
  obtain ⟨mst2, ow2, ix2, bb2, cpy2, gb2, hm92, ho92, hi92, hc92, hmg2⟩ := id hm2
  refine lv_aload_n hx hb d_L_law_646 rfl (lv_at hl 3 rfl) ?_
  refine callVi (As := []) (n9 := 0) hC hw (c_D_thrown l D kc L2 f2 _ d mst2 ow2 ix2 bb2 cpy2 gb2 hm92 ho92 hi92 hc92 tg2 t9 S2.1 S2.2.1 S2.2.2.1 S2.2.2.2.1 S2.2.2.2.2 hmg2 hok) k_co_D_thrown k_ml_L_58 k_im_D_thrown k_se_D_thrown k_in_D rfl rfl (by decide +kernel) rfl ⟨Nat.le_trans (Nat.le_of_ble_eq_true rfl) hRf, Nat.le_trans (Nat.le_of_ble_eq_true rfl) hRl⟩ hmg2.1.1 hmg2.1.2.2 rfl hl.1 rfl (Nat.le_of_ble_eq_true rfl) d_L_law_647 ⟨by omega, by omega⟩ (fun r3 u H locs hp hw => ?_)
  obtain ⟨rfl, rfl⟩ := hp
  refine lv_iload hx hb d_L_law_650 (lv_at hl 0 rfl) ?_
  refine lv_icmp_eq (tgt := 657) hx hb d_L_law_652 (by decide) (fun c1 => ?_) (fun c1 => (c1 rfl).elim)
  refine lv_goto (tgt := 740) hx hb d_L_law_657 (by decide) ?_
  exact kont L2 f2 tg2 S2 _ v1 _ _ _ _ _ (by omega) (by omega) hr2 hm2 ho2 hok hw (lv_sub hl [1, 2, 3, 4, 5] rfl)
theorem mid_sum {kc : Nat → ClassId} {L : List Nat} {f : Nat → va_E} {tg : Nat → Nat × Nat} {x o : Nat} {nm : Nat} {mo : Nat → Int32} {om : Nat → Nat} {al : Nat} {bs : Nat → Nat → Nat} {v0 : Int64} {u : pU} {mm : Int32} {fr : Int32} {cn : Int32} {r : Int32} (hr : rP kc (L, f) tg x (nm, mo, om, al, bs)) (ho : OutA kc L f tg o v0) (hp : (r = 0 ∧ ∃ k, k < nm ∧ mm = nI k ∧ ∃ nb, nb ≤ 65536 ∧ cn = nI nb ∧ ∃ r9 : Int32, ((nb = 0 ∧ r9 = 0) ∨ (0 < nb ∧ ∃ P, fr = nI P ∧ P + nb ≤ 65536 * cnt om al k ∧ r9 = wsum (bs k) P (nI nb) nb)) ∧ LO kc L f tg x o nm mo om al bs r9.toInt64 u) ∨ (((r = 1 ∧ ¬ ((∃ k, k < nm ∧ mm = nI k) ∧ ¬ cn < 0 ∧ cn ≤ 65536)) ∨ (r = 2 ∧ ∃ k, k < nm ∧ mm = nI k ∧ ∃ nb, nb ≤ 65536 ∧ cn = nI nb ∧ 0 < nb ∧ ¬ (∃ P, fr = nI P ∧ P + nb ≤ 65536 * cnt om al k))) ∧ u = (L, f))) : ∃ (tg1 : Nat → Nat × Nat) (S1 : ST) (v1 : Int64), rP kc u tg1 x S1 ∧ Ext SO L f tg u tg1 ∧ OutA kc u.1 u.2 tg1 o v1 ∧ AN_sum nm mo om al bs mm fr cn r v1 S1 := by
  rcases hp with ⟨a, k, b, c, nb, d1, d2, r9, d3, tg', h1, h2, h3⟩ | ⟨a | a, rfl⟩
  · exact ⟨tg', (nm, mo, om, al, bs), _, h1, h2, h3, Or.inl ⟨a, k, b, c, nb, d1, d2, ⟨r9, d3, rfl⟩, rfl⟩⟩
  · exact ⟨tg, (nm, mo, om, al, bs), v0, hr, Ext.rf, ho, Or.inr (Or.inl ⟨a.1, a.2, rfl⟩)⟩
  · exact ⟨tg, (nm, mo, om, al, bs), v0, hr, Ext.rf, ho, Or.inr (Or.inr ⟨a.1, a.2, rfl⟩)⟩
theorem end_sum {kc : Nat → ClassId} {L : List Nat} {f : Nat → va_E} {tg : Nat → Nat × Nat} {d : Nat} {nm : Nat} {mo : Nat → Int32} {om : Nat → Nat} {al : Nat} {bs : Nat → Nat → Nat} {u : pU} {mm : Int32} {fr : Int32} {cn : Int32} {r : Int32} (hp : ∃ t9 tg', modP kc u.1 u.2 tg' d t9 nm mo om al bs ∧ Ext SD L f tg u tg' ∧ ((t9 = 1 ∧ ¬ ((∃ k, k < nm ∧ mm = nI k) ∧ ¬ cn < 0 ∧ cn ≤ 65536)) ∨ (t9 = 2 ∧ ∃ k, k < nm ∧ mm = nI k ∧ ∃ nb, nb ≤ 65536 ∧ cn = nI nb ∧ 0 < nb ∧ ¬ (∃ P, fr = nI P ∧ P + nb ≤ 65536 * cnt om al k)) ∨ (t9 = 0 ∧ ∃ k, k < nm ∧ mm = nI k ∧ ∃ nb, nb ≤ 65536 ∧ cn = nI nb ∧ ((nb = 0 ∧ r = 0) ∨ (0 < nb ∧ ∃ P, fr = nI P ∧ P + nb ≤ 65536 * cnt om al k ∧ r = wsum (bs k) P (nI nb) nb))))) : ∃ (t9 : Int32) (tg2 : Nat → Nat × Nat) (S2 : ST), mP kc u tg2 d t9 S2 ∧ Ext SD L f tg u tg2 ∧ AN_sum nm mo om al bs mm fr cn t9 r.toInt64 S2 := by
  obtain ⟨t9, tg', h, he, ⟨a, b⟩ | ⟨a, b⟩ | ⟨a, k, b, c, nb, d1, d2, d3⟩⟩ := hp
  · exact ⟨t9, tg', (nm, mo, om, al, bs), h, he, Or.inr (Or.inl ⟨a, b, rfl⟩)⟩
  · exact ⟨t9, tg', (nm, mo, om, al, bs), h, he, Or.inr (Or.inr ⟨a, b, rfl⟩)⟩
  · exact ⟨t9, tg', (nm, mo, om, al, bs), h, he, Or.inl ⟨a, k, b, c, nb, d1, d2, ⟨r, d3, rfl⟩, rfl⟩⟩
set_option maxHeartbeats 4000000 in
set_option maxRecDepth 100000 in
theorem lc_sum {p : Program} {l : Launch} {e : Env} {R : Room} {s : State} {m : MethodId} {args : Array Value} {below : List Frame} {meth : Method} {c : Code} {Q : State → Prop} {A : Nat → Prop} {D : va_G} {kc : Nat → ClassId} {c0 : Cond} {ret : Option FieldType} {b N : Nat} {xs : Nat → Int32} (hst : l.stackTraces = false) (hC : Kx p m c code 8 s args c0 R_L meth ret D kc A) (hRf : 12 ≤ R.frames) (hRl : 464 ≤ R.locals) (hX : va_X b N xs s s.heap) (hbl : b < s.heap.size) (hbA : ¬ A b) (hN : N ≤ 3584) {x d o i : Nat} (hi : i + 7 ≤ N) {L : List Nat} {f : Nat → va_E} {tg : Nat → Nat × Nat} {S : ST} {th : Int32} {v0 : Int64} {H : Heap} {locs : List Loc} {cells slots : Nat} {ls : Array Slot} (hcs : cells + 20 ≤ R.cells) (hss : slots + 10275 ≤ R.slots) (hr : rP kc (L, f) tg x S) (hm : mP kc (L, f) tg d th S) (ho : OutA kc L f tg o v0) (hs : okS S) (hw : pw D Cls A s.heap H locs L f) (hl : lv_has ls 8 [(0, .ref b), (1, .ref x), (2, .ref d), (3, .ref o), (4, .int (nI i))])
    (kont : ∀ (L : List Nat) (f : Nat → va_E) (tg : Nat → Nat × Nat) (S : ST) (th : Int32) (v0 : Int64) (H : Heap) (locs : List Loc) (cells1 slots1 : Nat) (ls : Array Slot), cells1 ≤ cells + 20 → slots1 ≤ slots + 10275 → rP kc (L, f) tg x S → mP kc (L, f) tg d th S → OutA kc L f tg o v0 → okS S → pw D Cls A s.heap H locs L f → lv_has ls 8 [(0, .ref b), (1, .ref x), (2, .ref d), (3, .ref o), (4, .int (nI i))] → W p l e R s m args below meth c H locs cells1 slots1 Q (F0 m 740 ls [])) : W p l e R s m args below meth c H locs cells slots Q (F0 m 660 ls []) := by
  obtain ⟨⟨⟨hx, hb, hml, hown, hts⟩, hret9, hlocks⟩, hK, hE, hA⟩ := id hC
  obtain ⟨nm, mo, om, al, bs⟩ := S
  obtain ⟨ms, cp, gm, hc, hg⟩ := id hr
  have hg : rootG kc L f tg x ms cp gm hc nm mo om al bs := hg
  obtain ⟨mst, ow, ix, bb, cpy, gb, hm9, ho9, hi9, hc9, hmg⟩ := hm
  have hmg : modG kc L f tg d mst ow ix bb cpy gb hm9 ho9 hi9 hc9 th nm mo om al bs := hmg
  obtain ⟨hoL, hto, g0, hfo, hg0⟩ := id ho
  have hs : stOK nm mo om al bs := hs
  refine lv_aload_n hx hb d_L_law_660 rfl (lv_at hl 1 rfl) ?_
  refine lv_aload_n hx hb d_L_law_661 rfl (lv_at hl 0 rfl) ?_
  refine lv_iload hx hb d_L_law_662 (lv_at hl 4 rfl) ?_
  refine lv_iconst (v := 1) hx hb d_L_law_664 (by decide) ?_
  refine lv_iadd hx hb d_L_law_665 ?_
  refine sld hC hX hbl hbA hw (j := 1) rfl (by omega) hN d_L_law_666 ?_
  refine lv_aload_n hx hb d_L_law_667 rfl (lv_at hl 0 rfl) ?_
  refine lv_iload hx hb d_L_law_668 (lv_at hl 4 rfl) ?_
  refine lv_iconst (v := 2) hx hb d_L_law_670 (by decide) ?_
  refine lv_iadd hx hb d_L_law_671 ?_
  refine sld hC hX hbl hbA hw (j := 2) rfl (by omega) hN d_L_law_672 ?_
  refine lv_aload_n hx hb d_L_law_673 rfl (lv_at hl 0 rfl) ?_
  refine lv_iload hx hb d_L_law_674 (lv_at hl 4 rfl) ?_
  refine lv_iconst (v := 3) hx hb d_L_law_676 (by decide) ?_
  refine lv_iadd hx hb d_L_law_677 ?_
  refine sld hC hX hbl hbA hw (j := 3) rfl (by omega) hN d_L_law_678 ?_
  refine lv_aload_n hx hb d_L_law_679 rfl (lv_at hl 3 rfl) ?_
  refine callHi (As := [.ref x, .int (xs (i + 1)), .int (xs (i + 2)), .int (xs (i + 3)), .ref o]) (n9 := 5) hC hw (c_L_sum l hst D kc _ _ _ x ms cp gm hc tg nm mo om al bs hg hs o g0 hoL hto hfo (xs (i + 1)) (xs (i + 2)) (xs (i + 3))) k_co_L_sum k_ml_L_87 k_sm_L_sum k_in_L rfl rfl (by decide +kernel) rfl ⟨Nat.le_trans (Nat.le_of_ble_eq_true rfl) hRf, Nat.le_trans (Nat.le_of_ble_eq_true rfl) hRl⟩ hl.1 rfl (Nat.le_of_ble_eq_true rfl) d_L_law_680 ⟨by omega, by omega⟩ (fun r u H locs hp hw => ?_)
  obtain ⟨tg1, S1, v1, hr1, he1, ho1, ha1⟩ := mid_sum hr ho hp
  obtain ⟨L1, f1⟩ := u
  have hmg1 : modG kc L1 f1 tg1 d mst ow ix bb cpy gb hm9 ho9 hi9 hc9 th nm mo om al bs := mod_ext hmg he1 nSO200
  have hok : okS S1 := ok_sum hs ha1
  refine lv_istore (lv' := [(5, .int r), (0, .ref b), (1, .ref x), (2, .ref d), (3, .ref o), (4, .int (nI i))]) hx hb d_L_law_683 hl (by decide) rfl (fun ls hl => ?_)
  refine lv_aload_n hx hb d_L_law_685 rfl (lv_at hl 3 rfl) ?_
  refine lv_aload_n hx hb d_L_law_686 rfl (lv_at hl 1 rfl) ?_
  refine lv_iload hx hb d_L_law_687 (lv_at hl 5 rfl) ?_
  refine lv_iconst (v := 1) hx hb d_L_law_689 (by decide) ?_
  refine lv_iadd hx hb d_L_law_690 ?_
  refine sld hC hX hbl hbA hw (j := 1) rfl (by omega) hN d_L_law_691 ?_
  refine lv_aload_n hx hb d_L_law_692 rfl (lv_at hl 1 rfl) ?_
  refine lv_iload hx hb d_L_law_693 (lv_at hl 5 rfl) ?_
  refine lv_iconst (v := 2) hx hb d_L_law_695 (by decide) ?_
  refine lv_iadd hx hb d_L_law_696 ?_
  refine sld hC hX hbl hbA hw (j := 2) rfl (by omega) hN d_L_law_697 ?_
  refine lv_aload_n hx hb d_L_law_698 rfl (lv_at hl 1 rfl) ?_
  refine lv_iload hx hb d_L_law_699 (lv_at hl 5 rfl) ?_
  refine lv_iconst (v := 3) hx hb d_L_law_701 (by decide) ?_
  refine lv_iadd hx hb d_L_law_702 ?_
  refine sld hC hX hbl hbA hw (j := 3) rfl (by omega) hN d_L_law_703 ?_
  refine callVi (As := [.int (xs (i + 1)), .int (xs (i + 2)), .int (xs (i + 3))]) (n9 := 3) hC hw (c_D_sum l D kc _ _ _ d mst ow ix bb cpy gb hm9 ho9 hi9 hc9 tg1 th nm mo om al bs hmg1 hs (xs (i + 1)) (xs (i + 2)) (xs (i + 3))) k_co_D_sum k_ml_L_89 k_im_D_sum k_se_D_sum k_in_D rfl rfl (by decide +kernel) rfl ⟨Nat.le_trans (Nat.le_of_ble_eq_true rfl) hRf, Nat.le_trans (Nat.le_of_ble_eq_true rfl) hRl⟩ hmg1.1.1 hmg1.1.2.2 rfl hl.1 rfl (Nat.le_of_ble_eq_true rfl) d_L_law_704 ⟨by omega, by omega⟩ (fun r2 u H locs hp hw => ?_)
  obtain ⟨t9, tg2, S2, hm2, he2, ha2⟩ := end_sum hp
  obtain ⟨L2, f2⟩ := u
  obtain ⟨e9, e8, hv⟩ := fn_sum hs ha1 ha2
  subst e8
  subst e9
  have hr2 : rP kc (L2, f2) tg2 x S2 := rP_ext hr1 hok he2
  have ho2 : OutA kc L2 f2 tg2 o v1 := oA_ext ho1 he2
  obtain ⟨mst2, ow2, ix2, bb2, cpy2, gb2, hm92, ho92, hi92, hc92, hmg2⟩ := id hm2
  refine lv_istore (lv' := [(6, .int r2), (5, .int t9), (0, .ref b), (1, .ref x), (2, .ref d), (3, .ref o), (4, .int (nI i))]) hx hb d_L_law_707 hl (by decide) rfl (fun ls hl => ?_)
  refine lv_aload_n hx hb d_L_law_709 rfl (lv_at hl 4 rfl) ?_
  refine callVi (As := []) (n9 := 0) hC hw (c_D_thrown l D kc L2 f2 _ d mst2 ow2 ix2 bb2 cpy2 gb2 hm92 ho92 hi92 hc92 tg2 t9 S2.1 S2.2.1 S2.2.2.1 S2.2.2.2.1 S2.2.2.2.2 hmg2 hok) k_co_D_thrown k_ml_L_58 k_im_D_thrown k_se_D_thrown k_in_D rfl rfl (by decide +kernel) rfl ⟨Nat.le_trans (Nat.le_of_ble_eq_true rfl) hRf, Nat.le_trans (Nat.le_of_ble_eq_true rfl) hRl⟩ hmg2.1.1 hmg2.1.2.2 rfl hl.1 rfl (Nat.le_of_ble_eq_true rfl) d_L_law_710 ⟨by omega, by omega⟩ (fun r3 u H locs hp hw => ?_)
  obtain ⟨rfl, rfl⟩ := hp
  refine lv_iload hx hb d_L_law_713 (lv_at hl 1 rfl) ?_
  refine lv_icmp_eq (tgt := 720) hx hb d_L_law_715 (by decide) (fun c1 => ?_) (fun c1 => (c1 rfl).elim)
  refine lv_iload hx hb d_L_law_720 (lv_at hl 1 rfl) ?_
  refine lv_if_ne (tgt := 737) hx hb d_L_law_722 (by decide) (fun c2 => ?_) (fun c2 => ?_)
  · refine lv_goto (tgt := 740) hx hb d_L_law_737 (by decide) ?_
    exact kont L2 f2 tg2 S2 _ v1 _ _ _ _ _ (by omega) (by omega) hr2 hm2 ho2 hok hw (lv_sub hl [2, 3, 4, 5, 6] rfl)
  · obtain ⟨hoL2, hto2, g2, hfo2, hg2⟩ := id ho2
    have hv9 := hv c2
    refine lv_aload_n hx hb d_L_law_725 rfl (lv_at hl 5 rfl) ?_
    refine lv_iconst (v := 0) hx hb d_L_law_726 (by decide) ?_
    refine ald_J hC hw hoL2 hfo2 (by decide) d_L_law_727 ?_
    refine lv_iload hx hb d_L_law_728 (lv_at hl 0 rfl) ?_
    refine lv_i2l hx hb d_L_law_730 rfl ?_
    refine W.lcmp hx hb d_L_law_731 ?_
    refine lv_if_eq (tgt := 737) hx hb d_L_law_732 (by decide) (fun c4 => ?_) (fun c4 => (c4 (by rw [hg2, hv9]; exact cmp_self _)).elim)
    refine lv_goto (tgt := 740) hx hb d_L_law_737 (by decide) ?_
    exact kont L2 f2 tg2 S2 _ v1 _ _ _ _ _ (by omega) (by omega) hr2 hm2 ho2 hok hw (lv_sub hl [2, 3, 4, 5, 6] rfl)
