/-! The reference: its leaves -/
set_option maxHeartbeats 4000000 in
set_option maxRecDepth 100000 in
theorem c_D_thrown (l : Launch) (D : va_G) (kc : Nat → ClassId) (L : List Nat) (f : Nat → va_E) (sz : Nat) (d mst ow ix bb cpy : Nat) (gb : Nat → Option Nat) (hm9 ho9 hi9 hc9 : Nat → Int32) (tg : Nat → Nat × Nat) (th : Int32) (nm : Nat) (mo : Nat → Int32) (om : Nat → Nat) (al : Nat) (bs : Nat → Nat → Nat) (hg : modG kc L f tg d mst ow ix bb cpy gb hm9 ho9 hi9 hc9 th nm mo om al bs) (hs : stOK nm mo om al bs) : Met l y_D_thrown w_D_thrown ({ frames := 0, cells := 0, slots := 0, locals := 0 }) (PP D kc L f sz [.ref d]) (Qi D L f sz (fun r u => r = th ∧ u = (L, f))) 0 0 (pA L f sz) := by
  refine kx_met (by decide) (Nat.le_of_ble_eq_true rfl) ?_
  intro p e s m below meth c hC hnm hw hsz ls hl
  subst hsz
  have hl : lv_has ls 1 [(0, .ref d)] := hl
  obtain ⟨⟨⟨hx, hb, hml, hown, hts⟩, hret9, hlocks⟩, hK, hE, hA⟩ := id hC
  obtain ⟨⟨hdL, htd, hfd⟩, ⟨hmL, htm, hfm⟩, ⟨hoL, hto, hfo⟩, ⟨hiL, hti, hfi⟩, ⟨hbL, htb, hfb⟩, ⟨hcL, htc, hfc⟩, hk1, hk2, hk3⟩ := id hg
  refine lv_aload_n hx hb d_D_thrown_0 rfl (lv_at hl 0 rfl) ?_
  refine get_D hC hw hdL hfd 0 (by decide) k_fl_D_28 rfl d_D_thrown_1 ?_
  exact pg_iret hC.1 hw (⟨rfl, rfl⟩) d_D_thrown_4
set_option maxHeartbeats 4000000 in
set_option maxRecDepth 100000 in
theorem c_D_isMemory (l : Launch) (D : va_G) (kc : Nat → ClassId) (L : List Nat) (f : Nat → va_E) (sz : Nat) (d mst ow ix bb cpy : Nat) (gb : Nat → Option Nat) (hm9 ho9 hi9 hc9 : Nat → Int32) (tg : Nat → Nat × Nat) (th : Int32) (nm : Nat) (mo : Nat → Int32) (om : Nat → Nat) (al : Nat) (bs : Nat → Nat → Nat) (hg : modG kc L f tg d mst ow ix bb cpy gb hm9 ho9 hi9 hc9 th nm mo om al bs) (hs : stOK nm mo om al bs) (mm : Int32) : Met l y_D_isMemory w_D_isMemory ({ frames := 0, cells := 0, slots := 0, locals := 0 }) (PP D kc L f sz [.ref d, .int mm]) (Qi D L f sz (fun r u => ((r = 1 ∧ ∃ k, k < nm ∧ mm = nI k) ∨ (r = 0 ∧ ¬ (∃ k, k < nm ∧ mm = nI k))) ∧ u = (L, f))) 0 0 (pA L f sz) := by
  refine kx_met (by decide) (Nat.le_of_ble_eq_true rfl) ?_
  intro p e s m below meth c hC hnm hw hsz ls hl
  subst hsz
  have hl : lv_has ls 2 [(0, .ref d), (1, .int mm)] := hl
  obtain ⟨⟨⟨hx, hb, hml, hown, hts⟩, hret9, hlocks⟩, hK, hE, hA⟩ := id hC
  obtain ⟨⟨hdL, htd, hfd⟩, ⟨hmL, htm, hfm⟩, ⟨hoL, hto, hfo⟩, ⟨hiL, hti, hfi⟩, ⟨hbL, htb, hfb⟩, ⟨hcL, htc, hfc⟩, hk1, hk2, hk3⟩ := id hg
  obtain ⟨hs1, hs2, hs3, hs4, hs5, hs6⟩ := id hs
  refine lv_iload_n hx hb d_D_isMemory_0 rfl (lv_at hl 1 rfl) ?_
  refine lv_if_lt (tgt := 16) hx hb d_D_isMemory_1 (by decide) (fun c1 => ?_) (fun c1 => ?_)
  · refine lv_iconst (v := 0) hx hb d_D_isMemory_16 (by decide) ?_
    exact pg_zret hC.1 hw (by decide) (⟨Or.inr ⟨rfl, fun h => by obtain ⟨k, h1, rfl⟩ := h; exact nI_pos (by omega) c1⟩, rfl⟩) d_D_isMemory_17
  · refine lv_iload_n hx hb d_D_isMemory_4 rfl (lv_at hl 1 rfl) ?_
    refine lv_aload_n hx hb d_D_isMemory_5 rfl (lv_at hl 0 rfl) ?_
    refine get_D hC hw hdL hfd 1 (by decide) k_fl_D_32 rfl d_D_isMemory_6 ?_
    refine lv_icmp_ge (tgt := 16) hx hb d_D_isMemory_9 (by decide) (fun c2 => ?_) (fun c2 => ?_)
    · refine lv_iconst (v := 0) hx hb d_D_isMemory_16 (by decide) ?_
      exact pg_zret hC.1 hw (by decide) (⟨Or.inr ⟨rfl, fun h => by obtain ⟨k, h1, rfl⟩ := h; exact nI_ge h1 (by omega) c2⟩, rfl⟩) d_D_isMemory_17
    · refine lv_iconst (v := 1) hx hb d_D_isMemory_12 (by decide) ?_
      refine lv_goto (tgt := 17) hx hb d_D_isMemory_13 (by decide) ?_
      obtain ⟨j, h1, h2, -⟩ := pk_mu (L := nm) c1 c2 (by omega)
      exact pg_zret hC.1 hw (by decide) (⟨Or.inl ⟨rfl, j, h1, h2⟩, rfl⟩) d_D_isMemory_17
set_option maxHeartbeats 4000000 in
set_option maxRecDepth 100000 in
theorem lp_count {p : Program} {l : Launch} {e : Env} {R : Room} {s : State} {m : MethodId} {args : Array Value} {below : List Frame} {meth : Method} {c : Code} {Q : State → Prop} {A : Nat → Prop} {D : va_G} {kc : Nat → ClassId} {c0 : Cond} {ret : Option FieldType} {L : List Nat} {f : Nat → va_E} {d mst ow ix bb cpy : Nat} {gb : Nat → Option Nat} {hm9 ho9 hi9 hc9 : Nat → Int32} {tg : Nat → Nat × Nat} {th : Int32} {nm : Nat} {mo : Nat → Int32} {om : Nat → Nat} {al : Nat} {bs : Nat → Nat → Nat} (hg : modG kc L f tg d mst ow ix bb cpy gb hm9 ho9 hi9 hc9 th nm mo om al bs) (hs : stOK nm mo om al bs) {cells slots : Nat} (k : Nat) (hk : k < nm) (hC : Kx p m c b_D_count 4 s args c0 R_D meth ret D kc A) (hRf : 0 ≤ R.frames) (hRl : 0 ≤ R.locals)
    (kont : ∀ (H : Heap) (locs : List Loc) (ls : Array Slot), pw D Cls A s.heap H locs L f → lv_has ls 4 [(2, .int (nI (cnt om al k)))] → W p l e R s m args below meth c H locs cells slots Q (F0 m 36 ls [])) :
    ∀ (n : Nat) (i : Nat) (H : Heap) (locs : List Loc) (ls : Array Slot), i ≤ al → al + 1 ≤ i + n → pw D Cls A s.heap H locs L f → lv_has ls 4 [(3, .int (nI i)), (2, .int (nI (cnt om i k))), (0, .ref d), (1, .int (nI k))] → W p l e R s m args below meth c H locs cells slots Q (F0 m 4 ls []) := by
  obtain ⟨⟨⟨hx, hb, hml, hown, hts⟩, hret9, hlocks⟩, hK, hE, hA⟩ := id hC
  intro n
  induction n with
  | zero => intro i H locs ls hi hin hw hl; exact absurd hin (by omega)
  | succ n ih =>
    intro i H locs ls hi hin hw hl
    obtain ⟨⟨hdL, htd, hfd⟩, ⟨hmL, htm, hfm⟩, ⟨hoL, hto, hfo⟩, ⟨hiL, hti, hfi⟩, ⟨hbL, htb, hfb⟩, ⟨hcL, htc, hfc⟩, hk1, hk2, hk3⟩ := id hg
    obtain ⟨hs1, hs2, hs3, hs4, hs5, hs6⟩ := id hs
    refine lv_iload_n hx hb d_D_count_4 rfl (lv_at hl 0 rfl) ?_
    refine lv_aload_n hx hb d_D_count_5 rfl (lv_at hl 2 rfl) ?_
    refine get_D hC hw hdL hfd 3 (by decide) k_fl_D_35 rfl d_D_count_6 ?_
    refine lv_icmp_ge (tgt := 36) hx hb d_D_count_9 (by decide) (fun c1 => ?_) (fun c1 => ?_)
    · have e : i = al := by
        rcases Nat.lt_or_ge i al with q | q
        · exact absurd c1 (nI_ge q (by omega))
        · omega
      subst e
      exact kont H locs ls hw (lv_sub hl [1] rfl)
    · have hlt : i < al := by
        rcases Nat.lt_or_ge i al with q | q
        · exact q
        · exact absurd (nI_le q (by omega)) c1
      have homi := hs3 i hlt
      refine lv_aload_n hx hb d_D_count_12 rfl (lv_at hl 2 rfl) ?_
      refine get_D hC hw hdL hfd 4 (by decide) k_fl_D_13 rfl d_D_count_13 ?_
      refine lv_iload_n hx hb d_D_count_16 rfl (lv_at hl 0 rfl) ?_
      refine ald_I hC hw hoL hfo (by omega) (by decide) d_D_count_17 ?_
      refine tp_i (v := nI (om i)) ((hk2 i hlt).1) ?_
      refine lv_iload_n hx hb d_D_count_18 rfl (lv_at hl 3 rfl) ?_
      refine lv_icmp_ne (tgt := 28) hx hb d_D_count_19 (by decide) (fun c2 => ?_) (fun c2 => ?_)
      · have hne : om i ≠ k := fun e => c2 (by rw [e])
        have hce : cnt om (i + 1) k = cnt om i k := by show cnt om i k + (if om i = k then 1 else 0) = _; rw [if_neg hne]; rfl
        refine lv_iload_n hx hb d_D_count_28 rfl (lv_at hl 1 rfl) ?_
        refine tp_i (v := nI (cnt om (i + 1) k)) (by rw [hce]) ?_
        refine lv_istore_n (lv' := [(2, .int (nI (cnt om (i + 1) k))), (3, .int (nI i)), (0, .ref d), (1, .int (nI k))]) hx hb d_D_count_29 rfl hl (by decide) rfl (fun ls hl => ?_)
        refine lv_iinc (v := nI (i + 1)) (lv' := [(3, .int (nI (i + 1))), (2, .int (nI (cnt om (i + 1) k))), (0, .ref d), (1, .int (nI k))]) hx hb d_D_count_30 hl (k := 1) rfl (nI_1 i) (by decide) rfl (fun ls hl => ?_)
        refine lv_goto (tgt := 4) hx hb d_D_count_33 (by decide) ?_
        exact ih (i + 1) _ _ _ (by omega) (by omega) hw (lv_sub hl [0, 1, 2, 3] rfl)
      · have heq : om i = k := (nI_eq (by omega) (by omega)).mp c2
        refine lv_iload_n hx hb d_D_count_22 rfl (lv_at hl 1 rfl) ?_
        refine lv_iconst (v := 1) hx hb d_D_count_23 (by decide) ?_
        refine lv_iadd hx hb d_D_count_24 ?_
        refine tp_i (v := nI (cnt om (i + 1) k)) (by rw [cnt_step heq, nI_1]) ?_
        refine lv_goto (tgt := 29) hx hb d_D_count_25 (by decide) ?_
        refine lv_istore_n (lv' := [(2, .int (nI (cnt om (i + 1) k))), (3, .int (nI i)), (0, .ref d), (1, .int (nI k))]) hx hb d_D_count_29 rfl hl (by decide) rfl (fun ls hl => ?_)
        refine lv_iinc (v := nI (i + 1)) (lv' := [(3, .int (nI (i + 1))), (2, .int (nI (cnt om (i + 1) k))), (0, .ref d), (1, .int (nI k))]) hx hb d_D_count_30 hl (k := 1) rfl (nI_1 i) (by decide) rfl (fun ls hl => ?_)
        refine lv_goto (tgt := 4) hx hb d_D_count_33 (by decide) ?_
        exact ih (i + 1) _ _ _ (by omega) (by omega) hw (lv_sub hl [0, 1, 2, 3] rfl)
set_option maxHeartbeats 4000000 in
set_option maxRecDepth 100000 in
theorem c_D_count (l : Launch) (D : va_G) (kc : Nat → ClassId) (L : List Nat) (f : Nat → va_E) (sz : Nat) (d mst ow ix bb cpy : Nat) (gb : Nat → Option Nat) (hm9 ho9 hi9 hc9 : Nat → Int32) (tg : Nat → Nat × Nat) (th : Int32) (nm : Nat) (mo : Nat → Int32) (om : Nat → Nat) (al : Nat) (bs : Nat → Nat → Nat) (hg : modG kc L f tg d mst ow ix bb cpy gb hm9 ho9 hi9 hc9 th nm mo om al bs) (hs : stOK nm mo om al bs) (k : Nat) (hk : k < nm) : Met l y_D_count w_D_count ({ frames := 0, cells := 0, slots := 0, locals := 0 }) (PP D kc L f sz [.ref d, .int (nI k)]) (Qi D L f sz (fun r u => r = nI (cnt om al k) ∧ u = (L, f))) 0 0 (pA L f sz) := by
  refine kx_met (by decide) (Nat.le_of_ble_eq_true rfl) ?_
  intro p e s m below meth c hC hnm hw hsz ls hl
  subst hsz
  have hl : lv_has ls 4 [(0, .ref d), (1, .int (nI k))] := hl
  obtain ⟨⟨⟨hx, hb, hml, hown, hts⟩, hret9, hlocks⟩, hK, hE, hA⟩ := id hC
  refine lv_iconst (v := 0) hx hb d_D_count_0 (by decide) ?_
  refine lv_istore_n (lv' := [(2, .int 0), (0, .ref d), (1, .int (nI k))]) hx hb d_D_count_1 rfl hl (by decide) rfl (fun ls hl => ?_)
  refine lv_iconst (v := 0) hx hb d_D_count_2 (by decide) ?_
  refine lv_istore_n (lv' := [(3, .int 0), (2, .int 0), (0, .ref d), (1, .int (nI k))]) hx hb d_D_count_3 rfl hl (by decide) rfl (fun ls hl => ?_)
  refine lp_count hg hs k hk hC (Nat.le_of_ble_eq_true rfl) (Nat.le_of_ble_eq_true rfl) (fun H locs ls hw hl => ?_) (al + 1) 0 _ _ _ (Nat.zero_le _) (by omega) hw (lv_sub hl [0, 1, 2, 3] rfl)
  refine lv_iload_n hx hb d_D_count_36 rfl (lv_at hl 0 rfl) ?_
  exact pg_iret hC.1 hw (⟨rfl, rfl⟩) d_D_count_37
set_option maxHeartbeats 4000000 in
set_option maxRecDepth 100000 in
theorem lp_rowOf {p : Program} {l : Launch} {e : Env} {R : Room} {s : State} {m : MethodId} {args : Array Value} {below : List Frame} {meth : Method} {c : Code} {Q : State → Prop} {A : Nat → Prop} {D : va_G} {kc : Nat → ClassId} {c0 : Cond} {ret : Option FieldType} {L : List Nat} {f : Nat → va_E} {d mst ow ix bb cpy : Nat} {gb : Nat → Option Nat} {hm9 ho9 hi9 hc9 : Nat → Int32} {tg : Nat → Nat × Nat} {th : Int32} {nm : Nat} {mo : Nat → Int32} {om : Nat → Nat} {al : Nat} {bs : Nat → Nat → Nat} (hg : modG kc L f tg d mst ow ix bb cpy gb hm9 ho9 hi9 hc9 th nm mo om al bs) (hs : stOK nm mo om al bs) {cells slots : Nat} (k : Nat) (hk : k < nm) (pp sl : Nat) (hpp : pp < 2 ^ 24) (hsl1 : sl < al) (hsl2 : om sl = k) (hsl3 : cnt om sl k = pp / 65536) (hC : Kx p m c b_D_rowOf 7 s args c0 R_D meth ret D kc A) (hRf : 0 ≤ R.frames) (hRl : 0 ≤ R.locals)
    (kont : ∀ (H : Heap) (locs : List Loc) (ls : Array Slot), pw D Cls A s.heap H locs L f → lv_has ls 7 [(5, .int (nI sl)), (2, .long (lN pp))] → W p l e R s m args below meth c H locs cells slots Q (F0 m 61 ls [])) :
    ∀ (n : Nat) (i : Nat) (H : Heap) (locs : List Loc) (ls : Array Slot), i ≤ al → al + 1 ≤ i + n → pw D Cls A s.heap H locs L f → lv_has ls 7 [(6, .int (nI i)), (5, .int (nI (if sl < i then sl else 0))), (4, .int (nI (pp / 65536))), (0, .ref d), (1, .int (nI k)), (2, .long (lN pp))] → W p l e R s m args below meth c H locs cells slots Q (F0 m 14 ls []) := by
  obtain ⟨⟨⟨hx, hb, hml, hown, hts⟩, hret9, hlocks⟩, hK, hE, hA⟩ := id hC
  intro n
  induction n with
  | zero => intro i H locs ls hi hin hw hl; exact absurd hin (by omega)
  | succ n ih =>
    intro i H locs ls hi hin hw hl
    obtain ⟨⟨hdL, htd, hfd⟩, ⟨hmL, htm, hfm⟩, ⟨hoL, hto, hfo⟩, ⟨hiL, hti, hfi⟩, ⟨hbL, htb, hfb⟩, ⟨hcL, htc, hfc⟩, hk1, hk2, hk3⟩ := id hg
    obtain ⟨hs1, hs2, hs3, hs4, hs5, hs6⟩ := id hs
    refine lv_iload hx hb d_D_rowOf_14 (lv_at hl 0 rfl) ?_
    refine lv_aload_n hx hb d_D_rowOf_16 rfl (lv_at hl 3 rfl) ?_
    refine get_D hC hw hdL hfd 3 (by decide) k_fl_D_35 rfl d_D_rowOf_17 ?_
    refine lv_icmp_ge (tgt := 61) hx hb d_D_rowOf_20 (by decide) (fun c1 => ?_) (fun c1 => ?_)
    · have e : i = al := by
        rcases Nat.lt_or_ge i al with q | q
        · exact absurd c1 (nI_ge q (by omega))
        · omega
      subst e
      rw [if_pos hsl1] at hl
      exact kont H locs ls hw (lv_sub hl [1, 5] rfl)
    · have hlt : i < al := by
        rcases Nat.lt_or_ge i al with q | q
        · exact q
        · exact absurd (nI_le q (by omega)) c1
      have homi := hs3 i hlt
      have hcle := cnt_le om (om i) i
      refine lv_aload_n hx hb d_D_rowOf_23 rfl (lv_at hl 3 rfl) ?_
      refine get_D hC hw hdL hfd 4 (by decide) k_fl_D_13 rfl d_D_rowOf_24 ?_
      refine lv_iload hx hb d_D_rowOf_27 (lv_at hl 0 rfl) ?_
      refine ald_I hC hw hoL hfo (by omega) (by decide) d_D_rowOf_29 ?_
      refine tp_i (v := nI (om i)) ((hk2 i hlt).1) ?_
      refine lv_iload_n hx hb d_D_rowOf_30 rfl (lv_at hl 4 rfl) ?_
      refine lv_icmp_ne (tgt := 51) hx hb d_D_rowOf_31 (by decide) (fun c2 => ?_) (fun c2 => ?_)
      · have hne : i ≠ sl := fun e => c2 (by rw [e, hsl2])
        have hce : (if sl < i then sl else 0) = (if sl < i + 1 then sl else 0) := by
          by_cases q : sl < i
          · rw [if_pos q, if_pos (by omega)]
          · rw [if_neg q, if_neg (by omega)]
        refine lv_iload hx hb d_D_rowOf_51 (lv_at hl 1 rfl) ?_
        refine tp_i (v := nI (if sl < i + 1 then sl else 0)) (by rw [hce]) ?_
        refine lv_istore (lv' := [(5, .int (nI (if sl < i + 1 then sl else 0))), (6, .int (nI i)), (4, .int (nI (pp / 65536))), (0, .ref d), (1, .int (nI k)), (2, .long (lN pp))]) hx hb d_D_rowOf_53 hl (by decide) rfl (fun ls hl => ?_)
        refine lv_iinc (v := nI (i + 1)) (lv' := [(6, .int (nI (i + 1))), (5, .int (nI (if sl < i + 1 then sl else 0))), (4, .int (nI (pp / 65536))), (0, .ref d), (1, .int (nI k)), (2, .long (lN pp))]) hx hb d_D_rowOf_55 hl (k := 1) rfl (nI_1 i) (by decide) rfl (fun ls hl => ?_)
        refine lv_goto (tgt := 14) hx hb d_D_rowOf_58 (by decide) ?_
        exact ih (i + 1) _ _ _ (by omega) (by omega) hw (lv_sub hl [0, 1, 2, 3, 4, 5] rfl)
      · have heq : om i = k := (nI_eq (by omega) (by omega)).mp c2
        refine lv_aload_n hx hb d_D_rowOf_34 rfl (lv_at hl 3 rfl) ?_
        refine get_D hC hw hdL hfd 5 (by decide) k_fl_D_16 rfl d_D_rowOf_35 ?_
        refine lv_iload hx hb d_D_rowOf_38 (lv_at hl 0 rfl) ?_
        refine ald_I hC hw hiL hfi (by omega) (by decide) d_D_rowOf_40 ?_
        refine tp_i (v := nI (cnt om i (om i))) ((hk2 i hlt).2) ?_
        refine lv_iload hx hb d_D_rowOf_41 (lv_at hl 2 rfl) ?_
        refine lv_icmp_ne (tgt := 51) hx hb d_D_rowOf_43 (by decide) (fun c3 => ?_) (fun c3 => ?_)
        · have hne : i ≠ sl := fun e => c3 (by rw [heq, e, hsl3])
          have hce : (if sl < i then sl else 0) = (if sl < i + 1 then sl else 0) := by
            by_cases q : sl < i
            · rw [if_pos q, if_pos (by omega)]
            · rw [if_neg q, if_neg (by omega)]
          refine lv_iload hx hb d_D_rowOf_51 (lv_at hl 1 rfl) ?_
          refine tp_i (v := nI (if sl < i + 1 then sl else 0)) (by rw [hce]) ?_
          refine lv_istore (lv' := [(5, .int (nI (if sl < i + 1 then sl else 0))), (6, .int (nI i)), (4, .int (nI (pp / 65536))), (0, .ref d), (1, .int (nI k)), (2, .long (lN pp))]) hx hb d_D_rowOf_53 hl (by decide) rfl (fun ls hl => ?_)
          refine lv_iinc (v := nI (i + 1)) (lv' := [(6, .int (nI (i + 1))), (5, .int (nI (if sl < i + 1 then sl else 0))), (4, .int (nI (pp / 65536))), (0, .ref d), (1, .int (nI k)), (2, .long (lN pp))]) hx hb d_D_rowOf_55 hl (k := 1) rfl (nI_1 i) (by decide) rfl (fun ls hl => ?_)
          refine lv_goto (tgt := 14) hx hb d_D_rowOf_58 (by decide) ?_
          exact ih (i + 1) _ _ _ (by omega) (by omega) hw (lv_sub hl [0, 1, 2, 3, 4, 5] rfl)
        · have heq2 : cnt om i (om i) = pp / 65536 := (nI_eq (by omega) (by omega)).mp c3
          have hi9e : i = sl := sl_un heq hsl2 (by rw [heq] at heq2; rw [heq2, hsl3])
          refine lv_iload hx hb d_D_rowOf_46 (lv_at hl 0 rfl) ?_
          refine lv_goto (tgt := 53) hx hb d_D_rowOf_48 (by decide) ?_
          refine tp_i (v := nI (if sl < i + 1 then sl else 0)) (by rw [if_pos (by omega), hi9e]) ?_
          refine lv_istore (lv' := [(5, .int (nI (if sl < i + 1 then sl else 0))), (6, .int (nI i)), (4, .int (nI (pp / 65536))), (0, .ref d), (1, .int (nI k)), (2, .long (lN pp))]) hx hb d_D_rowOf_53 hl (by decide) rfl (fun ls hl => ?_)
          refine lv_iinc (v := nI (i + 1)) (lv' := [(6, .int (nI (i + 1))), (5, .int (nI (if sl < i + 1 then sl else 0))), (4, .int (nI (pp / 65536))), (0, .ref d), (1, .int (nI k)), (2, .long (lN pp))]) hx hb d_D_rowOf_55 hl (k := 1) rfl (nI_1 i) (by decide) rfl (fun ls hl => ?_)
          refine lv_goto (tgt := 14) hx hb d_D_rowOf_58 (by decide) ?_
          exact ih (i + 1) _ _ _ (by omega) (by omega) hw (lv_sub hl [0, 1, 2, 3, 4, 5] rfl)
set_option maxHeartbeats 4000000 in
set_option maxRecDepth 100000 in
theorem c_D_rowOf (l : Launch) (D : va_G) (kc : Nat → ClassId) (L : List Nat) (f : Nat → va_E) (sz : Nat) (d mst ow ix bb cpy : Nat) (gb : Nat → Option Nat) (hm9 ho9 hi9 hc9 : Nat → Int32) (tg : Nat → Nat × Nat) (th : Int32) (nm : Nat) (mo : Nat → Int32) (om : Nat → Nat) (al : Nat) (bs : Nat → Nat → Nat) (hg : modG kc L f tg d mst ow ix bb cpy gb hm9 ho9 hi9 hc9 th nm mo om al bs) (hs : stOK nm mo om al bs) (k : Nat) (hk : k < nm) (pp sl : Nat) (hpp : pp < 2 ^ 24) (hsl1 : sl < al) (hsl2 : om sl = k) (hsl3 : cnt om sl k = pp / 65536) : Met l y_D_rowOf w_D_rowOf ({ frames := 0, cells := 0, slots := 0, locals := 0 }) (PP D kc L f sz [.ref d, .int (nI k), .long (lN pp)]) (Qi D L f sz (fun r u => r = nI (64 * sl + pp % 65536 / 1024) ∧ u = (L, f))) 0 0 (pA L f sz) := by
  refine kx_met (by decide) (Nat.le_of_ble_eq_true rfl) ?_
  intro p e s m below meth c hC hnm hw hsz ls hl
  subst hsz
  have hl : lv_has ls 7 [(0, .ref d), (1, .int (nI k)), (2, .long (lN pp))] := hl
  obtain ⟨⟨⟨hx, hb, hml, hown, hts⟩, hret9, hlocks⟩, hK, hE, hA⟩ := id hC
  obtain ⟨hs1, hs2, hs3, hs4, hs5, hs6⟩ := id hs
  refine lv_lload_n hx hb d_D_rowOf_0 rfl (lv_at hl 2 rfl) ?_
  refine lv_ldc2 (v := 65536) hx hb hown (hts _ (gg_mem k_cn_D_38)) d_D_rowOf_1 ?_
  refine lv_ldiv hx hb d_D_rowOf_4 (by decide) ?_
  refine tp_l (v := lN (pp / 65536)) (pk_lDiv (b := 65536) (by omega) (by decide) (by decide)) ?_
  refine lv_l2i hx hb d_D_rowOf_5 rfl ?_
  refine tp_i (v := nI (pp / 65536)) (lN_i _) ?_
  refine lv_istore (lv' := [(4, .int (nI (pp / 65536))), (0, .ref d), (1, .int (nI k)), (2, .long (lN pp))]) hx hb d_D_rowOf_6 hl (by decide) rfl (fun ls hl => ?_)
  refine lv_iconst (v := 0) hx hb d_D_rowOf_8 (by decide) ?_
  refine lv_istore (lv' := [(5, .int 0), (4, .int (nI (pp / 65536))), (0, .ref d), (1, .int (nI k)), (2, .long (lN pp))]) hx hb d_D_rowOf_9 hl (by decide) rfl (fun ls hl => ?_)
  refine lv_iconst (v := 0) hx hb d_D_rowOf_11 (by decide) ?_
  refine lv_istore (lv' := [(6, .int 0), (5, .int 0), (4, .int (nI (pp / 65536))), (0, .ref d), (1, .int (nI k)), (2, .long (lN pp))]) hx hb d_D_rowOf_12 hl (by decide) rfl (fun ls hl => ?_)
  refine lp_rowOf hg hs k hk pp sl hpp hsl1 hsl2 hsl3 hC (Nat.le_of_ble_eq_true rfl) (Nat.le_of_ble_eq_true rfl) (fun H locs ls hw hl => ?_) (al + 1) 0 _ _ _ (Nat.zero_le _) (by omega) hw (lv_sub hl [0, 1, 2, 3, 4, 5] rfl)
  refine lv_bipush (v := 64) hx hb d_D_rowOf_61 (by decide) ?_
  refine lv_iload hx hb d_D_rowOf_63 (lv_at hl 0 rfl) ?_
  refine lv_imul hx hb d_D_rowOf_65 ?_
  refine tp_i (v := nI (64 * sl)) (pk_mul 64 sl) ?_
  refine lv_lload_n hx hb d_D_rowOf_66 rfl (lv_at hl 1 rfl) ?_
  refine lv_ldc2 (v := 65536) hx hb hown (hts _ (gg_mem k_cn_D_38)) d_D_rowOf_67 ?_
  refine lv_lrem hx hb d_D_rowOf_70 (by decide) ?_
  refine tp_l (v := lN (pp % 65536)) (pk_lRem (b := 65536) (by omega) (by decide) (by decide)) ?_
  refine lv_l2i hx hb d_D_rowOf_71 rfl ?_
  refine tp_i (v := nI (pp % 65536)) (lN_i _) ?_
  refine lv_sipush (v := 1024) hx hb d_D_rowOf_72 (by decide) ?_
  refine lv_idiv hx hb d_D_rowOf_75 (by decide) ?_
  refine tp_i (v := nI (pp % 65536 / 1024)) (pk_div (d := 1024) (by omega) (by decide) (by decide)) ?_
  refine lv_iadd hx hb d_D_rowOf_76 ?_
  refine tp_i (v := nI (64 * sl + pp % 65536 / 1024)) (nI_add _ _) ?_
  exact pg_iret hC.1 hw (⟨rfl, rfl⟩) d_D_rowOf_77
set_option maxHeartbeats 4000000 in
set_option maxRecDepth 100000 in
theorem c_D_get (l : Launch) (D : va_G) (kc : Nat → ClassId) (L : List Nat) (f : Nat → va_E) (sz : Nat) (d mst ow ix bb cpy : Nat) (gb : Nat → Option Nat) (hm9 ho9 hi9 hc9 : Nat → Int32) (tg : Nat → Nat × Nat) (th : Int32) (nm : Nat) (mo : Nat → Int32) (om : Nat → Nat) (al : Nat) (bs : Nat → Nat → Nat) (hg : modG kc L f tg d mst ow ix bb cpy gb hm9 ho9 hi9 hc9 th nm mo om al bs) (hs : stOK nm mo om al bs) (k : Nat) (hk : k < nm) (pp : Nat) (hpp : pp < 65536 * cnt om al k) : Met l y_D_get w_D_get ({ frames := 1, cells := 0, slots := 0, locals := 26 }) (PP D kc L f sz [.ref d, .int (nI k), .long (lN pp)]) (Qi D L f sz (fun r u => r = nI (bs k pp) ∧ u = (L, f))) 0 0 (pA L f sz) := by
  refine kx_met (by decide) (Nat.le_of_ble_eq_true rfl) ?_
  intro p e s m below meth c hC hnm hw hsz ls hl
  subst hsz
  have hl : lv_has ls 5 [(0, .ref d), (1, .int (nI k)), (2, .long (lN pp))] := hl
  obtain ⟨⟨⟨hx, hb, hml, hown, hts⟩, hret9, hlocks⟩, hK, hE, hA⟩ := id hC
  obtain ⟨⟨hdL, htd, hfd⟩, ⟨hmL, htm, hfm⟩, ⟨hoL, hto, hfo⟩, ⟨hiL, hti, hfi⟩, ⟨hbL, htb, hfb⟩, ⟨hcL, htc, hfc⟩, hk1, hk2, hk3⟩ := id hg
  obtain ⟨hs1, hs2, hs3, hs4, hs5, hs6⟩ := id hs
  obtain ⟨sl, hsl1, hsl2, hsl3⟩ := sl_ex (om := om) (k := k) al (pp / 65536) (by omega)
  have hcl := cnt_le om k al
  refine lv_aload_n hx hb d_D_get_0 rfl (lv_at hl 0 rfl) ?_
  refine get_D hC hw hdL hfd 6 (by decide) k_fl_D_21 rfl d_D_get_1 ?_
  refine lv_aload_n hx hb d_D_get_4 rfl (lv_at hl 0 rfl) ?_
  refine lv_iload_n hx hb d_D_get_5 rfl (lv_at hl 1 rfl) ?_
  refine lv_lload_n hx hb d_D_get_6 rfl (lv_at hl 2 rfl) ?_
  refine callVi (As := [.int (nI k), .long (lN pp)]) (n9 := 2) hC hw (c_D_rowOf l D kc _ _ _ d mst ow ix bb cpy gb hm9 ho9 hi9 hc9 tg th nm mo om al bs hg hs k hk pp sl (by omega) hsl1 hsl2 hsl3) k_co_D_rowOf k_ml_D_40 k_im_D_rowOf k_se_D_rowOf k_in_D rfl rfl (by decide +kernel) rfl ⟨Nat.le_of_ble_eq_true rfl, Nat.le_of_ble_eq_true rfl⟩ hdL hfd rfl hl.1 rfl (Nat.le_of_ble_eq_true rfl) d_D_get_7 ⟨Nat.le_of_ble_eq_true rfl, Nat.le_of_ble_eq_true rfl⟩ (fun r9 u H locs hp hw => ?_)
  obtain ⟨rfl, rfl⟩ := hp
  have hR : 64 * sl + pp % 65536 / 1024 < 1024 := by omega
  refine ald_G hC hw hbL hfb (hR) (by decide) d_D_get_10 ?_
  rcases hk3 _ hR with ⟨hg9, hz⟩ | ⟨b9, hh, hg9, hb9, htb9, hfb9, hv⟩
  · refine tp_v (v := .null) (by rw [hg9]; rfl) ?_
    refine lv_astoreN (lv' := [(4, .null), (0, .ref d), (1, .int (nI k)), (2, .long (lN pp))]) hx hb d_D_get_11 hl (by decide) rfl (fun ls hl => ?_)
    refine lv_aloadN hx hb d_D_get_13 (lv_at hl 0 rfl) ?_
    refine lv_ifnonnullN hx hb d_D_get_15 ?_
    refine lv_iconst (v := 0) hx hb d_D_get_18 (by decide) ?_
    refine lv_goto (tgt := 35) hx hb d_D_get_19 (by decide) ?_
    exact pg_iret hC.1 hw (⟨by rw [← md_at (bs := bs) hsl1 hsl2 hsl3, hz _ (by omega)]; rfl, rfl⟩) d_D_get_35
  · refine tp_v (v := .ref b9) (by rw [hg9]; rfl) ?_
    refine lv_astore (lv' := [(4, .ref b9), (0, .ref d), (1, .int (nI k)), (2, .long (lN pp))]) hx hb d_D_get_11 hl (by decide) rfl (fun ls hl => ?_)
    refine lv_aload hx hb d_D_get_13 (lv_at hl 0 rfl) ?_
    refine lv_ifnonnull (tgt := 22) hx hb d_D_get_15 (by decide) ?_
    refine lv_aload hx hb d_D_get_22 (lv_at hl 0 rfl) ?_
    refine lv_lload_n hx hb d_D_get_24 rfl (lv_at hl 3 rfl) ?_
    refine lv_ldc2 (v := 1024) hx hb hown (hts _ (gg_mem k_cn_D_44)) d_D_get_25 ?_
    refine lv_lrem hx hb d_D_get_28 (by decide) ?_
    refine tp_l (v := lN (pp % 1024)) (pk_lRem (b := 1024) (by omega) (by decide) (by decide)) ?_
    refine lv_l2i hx hb d_D_get_29 rfl ?_
    refine tp_i (v := nI (pp % 1024)) (lN_i _) ?_
    refine ald_B hC hw hb9 hfb9 (by omega) (by decide) d_D_get_30 ?_
    refine lv_sipush (v := 255) hx hb d_D_get_31 (by decide) ?_
    refine lv_iand hx hb d_D_get_34 ?_
    refine tp_i (v := nI (bs k pp)) (by rw [hv _ (by omega), md_at hsl1 hsl2 hsl3]; exact (sb_byte _ (hs6 k pp)).1) ?_
    exact pg_iret hC.1 hw (⟨rfl, rfl⟩) d_D_get_35
